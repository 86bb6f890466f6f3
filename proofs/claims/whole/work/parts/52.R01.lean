set_option maxHeartbeats 1000000 in
set_option maxRecDepth 100000 in
theorem c_R_invoke (l : Launch) (dC : Nat → ClassId) (dI : Nat → Nat → Nat) (ka : Nat → ClassId) (qa : Nat → Nat) (sz : Nat) (b0 b1 : Int32) (a0 a1 a2 a3 a4 a5 a6 a7 a8 a9 a10 a11 a12 : Nat → Int32) (p1 p2 p3 p4 p5 : Int32) (hT : vT b0) (hpa : vPar a4) (hdi : vDir a6) (hdc : vDc a7) : Met l y_R_invoke w_R_invoke ({ frames := 6, cells := 0, slots := 0, locals := 147 } : Room) (mu_P dC dI (wR ka qa b0 b1 a0 a1 a2 a3 a4 a5 a6 a7 a8 a9 a10 a11 a12) (tR ka) sz [.ref (qa 0), .int p1, .int p2, .int p3, .int p4, .int p5]) (mu_Q (fun (S9 : Int32 × (Nat → Int32) × (Nat → Int32) × (Nat → Int32)) => (wR ka qa b0 S9.1 a0 a1 a2 a3 a4 a5 a6 a7 a8 a9 S9.2.1 S9.2.2.1 S9.2.2.2)) dC dI (f_R_invoke b0 b1 a0 a1 a3 a4 a5 a6 a7 a8 a9 a10 a11 a12 p1 p2 p3 p4 p5) ((s_R_invoke_b1 b0 b1 a0 a1 a3 a4 a5 a6 a7 a8 a9 a10 a11 a12 p1 p2 p3 p4 p5), (s_R_invoke_a10 b0 b1 a0 a1 a3 a4 a5 a6 a7 a8 a9 a10 a11 a12 p1 p2 p3 p4 p5), (s_R_invoke_a11 b0 b1 a0 a1 a3 a4 a5 a6 a7 a8 a9 a10 a11 a12 p1 p2 p3 p4 p5), (s_R_invoke_a12 b0 b1 a0 a1 a3 a4 a5 a6 a7 a8 a9 a10 a11 a12 p1 p2 p3 p4 p5)) (va_A (wR ka qa b0 b1 a0 a1 a2 a3 a4 a5 a6 a7 a8 a9 a10 a11 a12) sz)) 0 0 (va_A (wR ka qa b0 b1 a0 a1 a2 a3 a4 a5 a6 a7 a8 a9 a10 a11 a12) sz) := by
  refine Met.ofW (cc := b_R_invoke) (maxL := 9) (ret := (some .int)) (by decide) rfl ?_
  intro p e s m args below meth c s₁ B hml hv
  obtain ⟨rfl, hsz, hP, hK, hN, hD0⟩ := hv
  have hx := B.exec
  have hb := B.bytes
  have hr := B.returns
  have hts := tl_of (atoms_spec (ws := w_R_invoke) B.pre)
  have hown : s.vm.findClass R_R = some m.cls := findClass_of_methodNamed B.named
  have hlocks := B.notSynchronized
  subst hsz
  have hD := hD0.self (sz := s.heap.size)
  generalize hAe : va_A (wR ka qa b0 b1 a0 a1 a2 a3 a4 a5 a6 a7 a8 a9 a10 a11 a12) s.heap.size = A at hD ⊢
  have hA : ∀ q : Nat, s.heap.size ≤ q → A q := fun q h => by rw [← hAe]; exact Or.inr h
  have hS : va_S A s.heap s.heap [] := va_S.rf
  have hl := lv_entry ([.ref (qa 0), .int p1, .int p2, .int p3, .int p4, .int p5]) (n := 9) (Nat.le_of_ble_eq_true rfl)
  rw [lg_entry_eq]
  generalize (lg_sl ([.ref (qa 0), .int p1, .int p2, .int p3, .int p4, .int p5]) ++ List.replicate (9 - (lg_sl ([.ref (qa 0), .int p1, .int p2, .int p3, .int p4, .int p5])).length) Slot.unset).toArray = ls at hl ⊢
  have hl : lv_has ls 9 [(0, .ref (qa 0)), (1, .int p1), (2, .int p2), (3, .int p3), (4, .int p4), (5, .int p5)] := hl
  refine lv_iload_n hx hb d_R_invoke_0 rfl (lv_at hl 1 rfl) ?_
  refine lv_iconst (v := (0 : Int32)) hx hb d_R_invoke_1 (by decide +kernel) ?_
  refine lv_iconst (v := (3 : Int32)) hx hb d_R_invoke_2 (by decide +kernel) ?_
  refine va_calli (va_runS (As := [.int p1, .int (0 : Int32), .int (3 : Int32)]) (rest := []) ⟨hx, hb, hml, hown, hts⟩ (c_R_in l dC dI  s.heap.size  p1 (0 : Int32) (3 : Int32)) (cwS 3 hts k_g69 rfl rfl rfl (by decide +kernel) ⟨Nat.le_of_ble_eq_true rfl, Nat.le_of_ble_eq_true rfl⟩) ⟨fb_ro, fun U hU hW => ⟨rfl, by rw [hU], by rw [hU]; exact hP.sub (ws' := ([] : va_W)) [] rfl, va_K.moved hW.alike (hK.sub (tys' := []) [] rfl), NX.warm hW hN⟩⟩ rfl rfl hl.1 rfl (lv_room (Nat.le_of_ble_eq_true rfl)) d_R_invoke_3 ⟨Nat.zero_le _, Nat.zero_le _⟩) hS (fun z h1 h2 => absurd h1 (Nat.not_lt.mpr h2)) (fun z h => hA z (Nat.le_trans hS.1 h)) (fun r u t H1 locs ht hvm hpo hB hz1 hk1 hS => ?_)
  subst hpo
  have hP := kp_P hP hk1
  generalize H1 = H at hP hS ⊢
  refine lv_if_eq (tgt := 35) hx hb d_R_invoke_6 (by decide) (fun c_1 => ?_) (fun c_1 => ?_)
  · have c_1 : (f_R_in p1 (0 : Int32) (3 : Int32)) = (0 : Int32) := c_1
    refine lv_iconst (v := (-1 : Int32)) hx hb d_R_invoke_35 (by decide +kernel) ?_
    have hP9 : va_P (dC, dI) classes (wR ka qa b0 b1 a0 a1 a2 a3 a4 a5 a6 a7 a8 a9 a10 a11 a12) H := hP
    exact W.iret (v := (-1 : Int32)) hx hb hr (fun t ht hW => ⟨⟨(-1 : Int32), (b1, a10, a11, a12), rfl, ⟨by unfold f_R_invoke; rw [if_pos c_1], (pr2 (by unfold s_R_invoke_b1; rw [if_pos c_1]) (pr2 (by unfold s_R_invoke_a10; rw [if_pos c_1]) (pr2 (by unfold s_R_invoke_a11; rw [if_pos c_1]) (by unfold s_R_invoke_a12; rw [if_pos c_1]))))⟩, hp_at ht hP9⟩, hS.F ht⟩) hS.2.2 d_R_invoke_36
  · have c_1 : ¬ ((f_R_in p1 (0 : Int32) (3 : Int32)) = (0 : Int32)) := c_1
    refine lv_aload_n hx hb d_R_invoke_9 rfl (lv_at hl 0 rfl) ?_
    refine lv_iload_n hx hb d_R_invoke_10 rfl (lv_at hl 2 rfl) ?_
    refine va_calli (va_runV (As := [.int p2]) (rest := []) ⟨hx, hb, hml, hown, hts⟩ (c_R_there l dC dI ka qa H.size b0 b1 a0 a1 a2 a3 a4 a5 a6 a7 a8 a9 a10 a11 a12 p2) (cwV 1 hts k_g72 rfl rfl rfl (by decide +kernel) ⟨Nat.le_of_ble_eq_true rfl, Nat.le_of_ble_eq_true rfl⟩) ⟨fb_ro, va_recv hK hP (ci := 3) (q0 := 0) rfl rfl, fun U hU hW => ⟨rfl, by rw [hU], by rw [hU]; exact hP, va_K.moved hW.alike (hK), NX.warm hW hN⟩⟩ rfl rfl hl.1 rfl (lv_room (Nat.le_of_ble_eq_true rfl)) d_R_invoke_11 ⟨Nat.zero_le _, Nat.zero_le _⟩) hS (fun z h1 h2 => absurd h1 (Nat.not_lt.mpr h2)) (fun z h => hA z (Nat.le_trans hS.1 h)) (fun r u t H1 locs ht hvm hpo hB hz1 hk1 hS => ?_)
    subst hpo
    have hP := kp_P hP hk1
    generalize H1 = H at hP hS ⊢
    refine lv_if_eq (tgt := 35) hx hb d_R_invoke_14 (by decide) (fun c_2 => ?_) (fun c_2 => ?_)
    · have c_2 : (f_R_there b0 p2) = (0 : Int32) := c_2
      refine lv_iconst (v := (-1 : Int32)) hx hb d_R_invoke_35 (by decide +kernel) ?_
      have hP9 : va_P (dC, dI) classes (wR ka qa b0 b1 a0 a1 a2 a3 a4 a5 a6 a7 a8 a9 a10 a11 a12) H := hP
      exact W.iret (v := (-1 : Int32)) hx hb hr (fun t ht hW => ⟨⟨(-1 : Int32), (b1, a10, a11, a12), rfl, ⟨by unfold f_R_invoke; rw [if_neg c_1, if_pos c_2], (pr2 (by unfold s_R_invoke_b1; rw [if_neg c_1, if_pos c_2]) (pr2 (by unfold s_R_invoke_a10; rw [if_neg c_1, if_pos c_2]) (pr2 (by unfold s_R_invoke_a11; rw [if_neg c_1, if_pos c_2]) (by unfold s_R_invoke_a12; rw [if_neg c_1, if_pos c_2]))))⟩, hp_at ht hP9⟩, hS.F ht⟩) hS.2.2 d_R_invoke_36
    · have c_2 : ¬ ((f_R_there b0 p2) = (0 : Int32)) := c_2
      refine lv_aload_n hx hb d_R_invoke_17 rfl (lv_at hl 0 rfl) ?_
      refine lv_iload_n hx hb d_R_invoke_18 rfl (lv_at hl 3 rfl) ?_
      refine va_calli (va_runV (As := [.int p3]) (rest := []) ⟨hx, hb, hml, hown, hts⟩ (c_R_there l dC dI ka qa H.size b0 b1 a0 a1 a2 a3 a4 a5 a6 a7 a8 a9 a10 a11 a12 p3) (cwV 1 hts k_g72 rfl rfl rfl (by decide +kernel) ⟨Nat.le_of_ble_eq_true rfl, Nat.le_of_ble_eq_true rfl⟩) ⟨fb_ro, va_recv hK hP (ci := 3) (q0 := 0) rfl rfl, fun U hU hW => ⟨rfl, by rw [hU], by rw [hU]; exact hP, va_K.moved hW.alike (hK), NX.warm hW hN⟩⟩ rfl rfl hl.1 rfl (lv_room (Nat.le_of_ble_eq_true rfl)) d_R_invoke_19 ⟨Nat.zero_le _, Nat.zero_le _⟩) hS (fun z h1 h2 => absurd h1 (Nat.not_lt.mpr h2)) (fun z h => hA z (Nat.le_trans hS.1 h)) (fun r u t H1 locs ht hvm hpo hB hz1 hk1 hS => ?_)
      subst hpo
      have hP := kp_P hP hk1
      generalize H1 = H at hP hS ⊢
      refine lv_if_eq (tgt := 35) hx hb d_R_invoke_22 (by decide) (fun c_3 => ?_) (fun c_3 => ?_)
      · have c_3 : (f_R_there b0 p3) = (0 : Int32) := c_3
        refine lv_iconst (v := (-1 : Int32)) hx hb d_R_invoke_35 (by decide +kernel) ?_
        have hP9 : va_P (dC, dI) classes (wR ka qa b0 b1 a0 a1 a2 a3 a4 a5 a6 a7 a8 a9 a10 a11 a12) H := hP
        exact W.iret (v := (-1 : Int32)) hx hb hr (fun t ht hW => ⟨⟨(-1 : Int32), (b1, a10, a11, a12), rfl, ⟨by unfold f_R_invoke; rw [if_neg c_1, if_neg c_2, if_pos c_3], (pr2 (by unfold s_R_invoke_b1; rw [if_neg c_1, if_neg c_2, if_pos c_3]) (pr2 (by unfold s_R_invoke_a10; rw [if_neg c_1, if_neg c_2, if_pos c_3]) (pr2 (by unfold s_R_invoke_a11; rw [if_neg c_1, if_neg c_2, if_pos c_3]) (by unfold s_R_invoke_a12; rw [if_neg c_1, if_neg c_2, if_pos c_3]))))⟩, hp_at ht hP9⟩, hS.F ht⟩) hS.2.2 d_R_invoke_36
      · have c_3 : ¬ ((f_R_there b0 p3) = (0 : Int32)) := c_3
        refine lv_iload hx hb d_R_invoke_25 (lv_at hl 4 rfl) ?_
        refine lv_iconst (v := (0 : Int32)) hx hb d_R_invoke_27 (by decide +kernel) ?_
        refine lv_iconst (v := (3 : Int32)) hx hb d_R_invoke_28 (by decide +kernel) ?_
        refine va_calli (va_runS (As := [.int p4, .int (0 : Int32), .int (3 : Int32)]) (rest := []) ⟨hx, hb, hml, hown, hts⟩ (c_R_in l dC dI  H.size  p4 (0 : Int32) (3 : Int32)) (cwS 3 hts k_g69 rfl rfl rfl (by decide +kernel) ⟨Nat.le_of_ble_eq_true rfl, Nat.le_of_ble_eq_true rfl⟩) ⟨fb_ro, fun U hU hW => ⟨rfl, by rw [hU], by rw [hU]; exact hP.sub (ws' := ([] : va_W)) [] rfl, va_K.moved hW.alike (hK.sub (tys' := []) [] rfl), NX.warm hW hN⟩⟩ rfl rfl hl.1 rfl (lv_room (Nat.le_of_ble_eq_true rfl)) d_R_invoke_29 ⟨Nat.zero_le _, Nat.zero_le _⟩) hS (fun z h1 h2 => absurd h1 (Nat.not_lt.mpr h2)) (fun z h => hA z (Nat.le_trans hS.1 h)) (fun r u t H1 locs ht hvm hpo hB hz1 hk1 hS => ?_)
        subst hpo
        have hP := kp_P hP hk1
        generalize H1 = H at hP hS ⊢
        refine lv_if_ne (tgt := 37) hx hb d_R_invoke_32 (by decide) (fun c_4 => ?_) (fun c_4 => ?_)
        · have c_4 : ¬ ((f_R_in p4 (0 : Int32) (3 : Int32)) = (0 : Int32)) := c_4
          by_cases c_5 : p1 = (0 : Int32)
          · skip
            refine lv_aload_n hx hb d_R_invoke_37 rfl (lv_at hl 0 rfl) ?_
            have hq_6 : vT b0 := by with_reducible assumption
            have hq_7 : vPar a4 := by with_reducible assumption
            have hq_8 : vDir a6 := by with_reducible assumption
            have hq_9 : vDc a7 := by with_reducible assumption
            have hFc := va_free (wc := (wR ka qa b0 b1 a0 a1 a2 a3 a4 a5 a6 a7 a8 a9 a10 a11 a12)) hD hS hA [0, 1, 2, 3, 4, 5, 6, 7, 8, 9, 10, 11, 12, 13] rfl
            refine va_callv (va_runV (As := []) (rest := []) ⟨hx, hb, hml, hown, hts⟩ (c_R_closeAbove l dC dI ka qa H.size b0 b1 a0 a1 a2 a3 a4 a5 a6 a7 a8 a9 a10 a11 a12  hq_6 hq_7 hq_8 hq_9) (cwV 0 hts k_g81 rfl rfl rfl (by decide +kernel) ⟨Nat.le_of_ble_eq_true rfl, Nat.le_of_ble_eq_true rfl⟩) ⟨fb_mu, va_recv hK hP (ci := 3) (q0 := 0) rfl rfl, fun U hU hW => ⟨rfl, by rw [hU], by rw [hU]; exact hP, va_K.moved hW.alike hK, NX.warm hW hN, hD.weaken (fun _ _ _ _ => trivial)⟩⟩ rfl rfl hl.1 rfl (lv_room (Nat.le_of_ble_eq_true rfl)) d_R_invoke_38 ⟨Nat.zero_le _, Nat.zero_le _⟩) hS (fun q _ h => hFc q h) hFc (fun u t H1 locs ht hvm hpo hB hz1 hk1 hS => ?_)
            subst hpo
            have hP : va_P (dC, dI) classes (wR ka qa b0 b1 a0 a1 a2 a3 a4 a5 a6 a7 a8 a9 (s_R_closeAbove_a10 b0 a4 a6 a7 a10) a11 a12) H1 := hp_to ht hB
            have hD : va_D A (wR ka qa b0 b1 a0 a1 a2 a3 a4 a5 a6 a7 a8 a9 (s_R_closeAbove_a10 b0 a4 a6 a7 a10) a11 a12) := ad_R hD
            generalize hg_10 : (s_R_closeAbove_a10 b0 a4 a6 a7 a10) = g_10 at hP hD
            generalize H1 = H at hP hS ⊢
            refine lv_iload_n hx hb d_R_invoke_41 rfl (lv_at hl 1 rfl) ?_
            refine lv_iconst (v := (2 : Int32)) hx hb d_R_invoke_42 (by decide +kernel) ?_
            refine lv_icmp_ge (tgt := 65) hx hb d_R_invoke_43 (by decide) (fun h => by rw [c_5] at h; exact absurd h (by decide +kernel)) (fun _ => ?_)
            refine lv_aload_n hx hb d_R_invoke_46 rfl (lv_at hl 0 rfl) ?_
            refine lv_iload hx hb d_R_invoke_47 (lv_at hl 5 rfl) ?_
            refine va_calli (va_runV (As := [.int p5]) (rest := []) ⟨hx, hb, hml, hown, hts⟩ (c_R_there l dC dI ka qa H.size b0 b1 a0 a1 a2 a3 a4 a5 a6 a7 a8 a9 g_10 a11 a12 p5) (cwV 1 hts k_g72 rfl rfl rfl (by decide +kernel) ⟨Nat.le_of_ble_eq_true rfl, Nat.le_of_ble_eq_true rfl⟩) ⟨fb_ro, va_recv hK hP (ci := 3) (q0 := 0) rfl rfl, fun U hU hW => ⟨rfl, by rw [hU], by rw [hU]; exact hP, va_K.moved hW.alike (hK), NX.warm hW hN⟩⟩ rfl rfl hl.1 rfl (lv_room (Nat.le_of_ble_eq_true rfl)) d_R_invoke_49 ⟨Nat.zero_le _, Nat.zero_le _⟩) hS (fun z h1 h2 => absurd h1 (Nat.not_lt.mpr h2)) (fun z h => hA z (Nat.le_trans hS.1 h)) (fun r u t H1 locs ht hvm hpo hB hz1 hk1 hS => ?_)
            subst hpo
            have hP := kp_P hP hk1
            generalize H1 = H at hP hS ⊢
            refine lv_if_eq (tgt := 75) hx hb d_R_invoke_52 (by decide) (fun c_11 => ?_) (fun c_11 => ?_)
            · have c_11 : (f_R_there b0 p5) = (0 : Int32) := c_11
              refine lv_iconst (v := (-1 : Int32)) hx hb d_R_invoke_75 (by decide +kernel) ?_
              have hP9 : va_P (dC, dI) classes (wR ka qa b0 b1 a0 a1 a2 a3 a4 a5 a6 a7 a8 a9 g_10 a11 a12) H := hP
              exact W.iret (v := (-1 : Int32)) hx hb hr (fun t ht hW => ⟨⟨(-1 : Int32), (b1, g_10, a11, a12), rfl, ⟨by subst hg_10; unfold f_R_invoke; rw [if_neg c_1, if_neg c_2, if_neg c_3, if_neg c_4, if_pos c_5, if_pos c_11], (pr2 (by subst hg_10; unfold s_R_invoke_b1; rw [if_neg c_1, if_neg c_2, if_neg c_3, if_neg c_4, if_pos c_5, if_pos c_11]) (pr2 (by subst hg_10; unfold s_R_invoke_a10; rw [if_neg c_1, if_neg c_2, if_neg c_3, if_neg c_4, if_pos c_5, if_pos c_11]) (pr2 (by subst hg_10; unfold s_R_invoke_a11; rw [if_neg c_1, if_neg c_2, if_neg c_3, if_neg c_4, if_pos c_5, if_pos c_11]) (by subst hg_10; unfold s_R_invoke_a12; rw [if_neg c_1, if_neg c_2, if_neg c_3, if_neg c_4, if_pos c_5, if_pos c_11]))))⟩, hp_at ht hP9⟩, hS.F ht⟩) hS.2.2 d_R_invoke_76
            · have c_11 : ¬ ((f_R_there b0 p5) = (0 : Int32)) := c_11
              refine lv_aload_n hx hb d_R_invoke_55 rfl (lv_at hl 0 rfl) ?_
              refine va_get (D := (dC, dI)) (ci := 3) (v := .ref (qa 1)) (C := R_R) (T := F_R) (N := 15) hx hb hts i_R hown hK hP 0 rfl rfl 1 (by decide) (hts _ k_52) (fun _ h9 => h9) rfl d_R_invoke_56 ?_
              refine lv_iload hx hb d_R_invoke_59 (lv_at hl 5 rfl) ?_
              have hi_12 : vp_in p5 13 := by first | with_reducible assumption | exact rin_has hT (by with_reducible assumption)
              refine va_zald (D := (dC, dI)) (f := a0) hx hb hK hP 1 0 rfl rfl hi_12 d_R_invoke_61 ?_
              refine lv_if_ne (tgt := 75) hx hb d_R_invoke_62 (by decide) (fun c_13 => ?_) (fun c_13 => ?_)
              · have c_13 : ¬ ((a0 p5.toNatClampNeg) = (0 : Int32)) := c_13
                refine lv_iconst (v := (-1 : Int32)) hx hb d_R_invoke_75 (by decide +kernel) ?_
                have hP9 : va_P (dC, dI) classes (wR ka qa b0 b1 a0 a1 a2 a3 a4 a5 a6 a7 a8 a9 g_10 a11 a12) H := hP
                exact W.iret (v := (-1 : Int32)) hx hb hr (fun t ht hW => ⟨⟨(-1 : Int32), (b1, g_10, a11, a12), rfl, ⟨by subst hg_10; unfold f_R_invoke; rw [if_neg c_1, if_neg c_2, if_neg c_3, if_neg c_4, if_pos c_5, if_neg c_11, if_neg c_13], (pr2 (by subst hg_10; unfold s_R_invoke_b1; rw [if_neg c_1, if_neg c_2, if_neg c_3, if_neg c_4, if_pos c_5, if_neg c_11, if_neg c_13]) (pr2 (by subst hg_10; unfold s_R_invoke_a10; rw [if_neg c_1, if_neg c_2, if_neg c_3, if_neg c_4, if_pos c_5, if_neg c_11, if_neg c_13]) (pr2 (by subst hg_10; unfold s_R_invoke_a11; rw [if_neg c_1, if_neg c_2, if_neg c_3, if_neg c_4, if_pos c_5, if_neg c_11, if_neg c_13]) (by subst hg_10; unfold s_R_invoke_a12; rw [if_neg c_1, if_neg c_2, if_neg c_3, if_neg c_4, if_pos c_5, if_neg c_11, if_neg c_13]))))⟩, hp_at ht hP9⟩, hS.F ht⟩) hS.2.2 d_R_invoke_76
              · have c_13 : (a0 p5.toNatClampNeg) = (0 : Int32) := c_13
                refine lv_iload_n hx hb d_R_invoke_65 rfl (lv_at hl 1 rfl) ?_
                refine lv_iconst (v := (1 : Int32)) hx hb d_R_invoke_66 (by decide +kernel) ?_
                refine lv_icmp_le (tgt := 77) hx hb d_R_invoke_67 (by decide) (fun _ => ?_) (fun h => by rw [c_5] at h; exact absurd h (by decide +kernel))
                refine lv_iload_n hx hb d_R_invoke_77 rfl (lv_at hl 1 rfl) ?_
                refine lv_if_ne (tgt := 91) hx hb d_R_invoke_78 (by decide) (fun h => by rw [c_5] at h; exact absurd h (by decide +kernel)) (fun _ => ?_)
                refine lv_aload_n hx hb d_R_invoke_81 rfl (lv_at hl 0 rfl) ?_
                refine lv_iload hx hb d_R_invoke_82 (lv_at hl 5 rfl) ?_
                refine lv_iload_n hx hb d_R_invoke_84 rfl (lv_at hl 2 rfl) ?_
                have hq_14 : vp_in p5 13 := by first | with_reducible assumption | exact rin_has hT (by with_reducible assumption)
                refine va_calli (va_runV (As := [.int p5, .int p2]) (rest := []) ⟨hx, hb, hml, hown, hts⟩ (c_R_is l dC dI ka qa H.size b0 b1 a0 a1 a2 a3 a4 a5 a6 a7 a8 a9 g_10 a11 a12 p5 p2 hq_14) (cwV 2 hts k_g70 rfl rfl rfl (by decide +kernel) ⟨Nat.le_of_ble_eq_true rfl, Nat.le_of_ble_eq_true rfl⟩) ⟨fb_ro, va_recv hK hP (ci := 3) (q0 := 0) rfl rfl, fun U hU hW => ⟨rfl, by rw [hU], by rw [hU]; exact hP, va_K.moved hW.alike (hK), NX.warm hW hN⟩⟩ rfl rfl hl.1 rfl (lv_room (Nat.le_of_ble_eq_true rfl)) d_R_invoke_85 ⟨Nat.zero_le _, Nat.zero_le _⟩) hS (fun z h1 h2 => absurd h1 (Nat.not_lt.mpr h2)) (fun z h => hA z (Nat.le_trans hS.1 h)) (fun r u t H1 locs ht hvm hpo hB hz1 hk1 hS => ?_)
                subst hpo
                have hP := kp_P hP hk1
                generalize H1 = H at hP hS ⊢
                refine lv_if_eq (tgt := 105) hx hb d_R_invoke_88 (by decide) (fun c_15 => ?_) (fun c_15 => ?_)
                · have c_15 : (f_R_is g_10 p5 p2) = (0 : Int32) := c_15
                  refine lv_iconst (v := (-1 : Int32)) hx hb d_R_invoke_105 (by decide +kernel) ?_
                  have hP9 : va_P (dC, dI) classes (wR ka qa b0 b1 a0 a1 a2 a3 a4 a5 a6 a7 a8 a9 g_10 a11 a12) H := hP
                  exact W.iret (v := (-1 : Int32)) hx hb hr (fun t ht hW => ⟨⟨(-1 : Int32), (b1, g_10, a11, a12), rfl, ⟨by subst hg_10; unfold f_R_invoke; rw [if_neg c_1, if_neg c_2, if_neg c_3, if_neg c_4, if_pos c_5, if_neg c_11, if_pos c_13, if_pos c_15], (pr2 (by subst hg_10; unfold s_R_invoke_b1; rw [if_neg c_1, if_neg c_2, if_neg c_3, if_neg c_4, if_pos c_5, if_neg c_11, if_pos c_13, if_pos c_15]) (pr2 (by subst hg_10; unfold s_R_invoke_a10; rw [if_neg c_1, if_neg c_2, if_neg c_3, if_neg c_4, if_pos c_5, if_neg c_11, if_pos c_13, if_pos c_15]) (pr2 (by subst hg_10; unfold s_R_invoke_a11; rw [if_neg c_1, if_neg c_2, if_neg c_3, if_neg c_4, if_pos c_5, if_neg c_11, if_pos c_13, if_pos c_15]) (by subst hg_10; unfold s_R_invoke_a12; rw [if_neg c_1, if_neg c_2, if_neg c_3, if_neg c_4, if_pos c_5, if_neg c_11, if_pos c_13, if_pos c_15]))))⟩, hp_at ht hP9⟩, hS.F ht⟩) hS.2.2 d_R_invoke_106
                · have c_15 : ¬ ((f_R_is g_10 p5 p2) = (0 : Int32)) := c_15
                  refine lv_iload_n hx hb d_R_invoke_91 rfl (lv_at hl 1 rfl) ?_
                  refine lv_iconst (v := (2 : Int32)) hx hb d_R_invoke_92 (by decide +kernel) ?_
                  refine lv_icmp_ne (tgt := 107) hx hb d_R_invoke_93 (by decide) (fun _ => ?_) (fun h => by rw [c_5] at h; exact absurd h (by decide +kernel))
                  refine lv_aload_n hx hb d_R_invoke_107 rfl (lv_at hl 0 rfl) ?_
                  refine lv_iload_n hx hb d_R_invoke_108 rfl (lv_at hl 1 rfl) ?_
                  refine lv_if_ne (tgt := 116) hx hb d_R_invoke_109 (by decide) (fun h => by rw [c_5] at h; exact absurd h (by decide +kernel)) (fun _ => ?_)
                  refine lv_iconst (v := (1 : Int32)) hx hb d_R_invoke_112 (by decide +kernel) ?_
                  refine lv_goto (tgt := 135) hx hb d_R_invoke_113 (by decide) ?_
                  refine lv_iload_n hx hb d_R_invoke_135 rfl (lv_at hl 3 rfl) ?_
                  refine lv_iload_n hx hb d_R_invoke_136 rfl (lv_at hl 2 rfl) ?_
                  refine lv_iload hx hb d_R_invoke_137 (lv_at hl 4 rfl) ?_
                  have hq_16 : vT b0 := by with_reducible assumption
                  have hq_17 : vPar a4 := by with_reducible assumption
                  have hq_18 : vDir a6 := by with_reducible assumption
                  have hq_19 : vDc a7 := by with_reducible assumption
                  have hq_20 : vp_in p3 13 := by first | with_reducible assumption | exact rin_has hT (by with_reducible assumption)
                  have hq_21 : vp_in p2 13 := by first | with_reducible assumption | exact rin_has hT (by with_reducible assumption)
                  have hq_22 : vp_in p4 4 := by first | with_reducible assumption | exact jn_name (by with_reducible assumption)
                  have hFc := va_free (wc := (wR ka qa b0 b1 a0 a1 a2 a3 a4 a5 a6 a7 a8 a9 g_10 a11 a12)) hD hS hA [0, 1, 2, 3, 4, 5, 6, 7, 8, 9, 10, 11, 12, 13] rfl
                  refine va_calli (va_runV (As := [.int (1 : Int32), .int p3, .int p2, .int p4]) (rest := []) ⟨hx, hb, hml, hown, hts⟩ (c_R_resolved l dC dI ka qa H.size b0 b1 a0 a1 a2 a3 a4 a5 a6 a7 a8 a9 g_10 a11 a12 (1 : Int32) p3 p2 p4 hq_16 hq_17 hq_18 hq_19 hq_20 hq_21 hq_22) (cwV 4 hts k_g90 rfl rfl rfl (by decide +kernel) ⟨Nat.le_of_ble_eq_true rfl, Nat.le_of_ble_eq_true rfl⟩) ⟨fb_mu, va_recv hK hP (ci := 3) (q0 := 0) rfl rfl, fun U hU hW => ⟨rfl, by rw [hU], by rw [hU]; exact hP, va_K.moved hW.alike hK, NX.warm hW hN, hD.weaken (fun _ _ _ _ => trivial)⟩⟩ rfl rfl hl.1 rfl (lv_room (Nat.le_of_ble_eq_true rfl)) d_R_invoke_139 ⟨Nat.zero_le _, Nat.zero_le _⟩) hS (fun q _ h => hFc q h) hFc (fun r u t H1 locs ht hvm hpo hB hz1 hk1 hS => ?_)
                  obtain ⟨rfl, rfl⟩ := hpo
                  have hP : va_P (dC, dI) classes (wR ka qa b0 (s_R_resolved_b1 b0 a0 a1 a3 a4 a5 a6 a7 a8 a9 g_10 a12 (1 : Int32) p3 p2 p4) a0 a1 a2 a3 a4 a5 a6 a7 a8 a9 g_10 a11 (s_R_resolved_a12 b0 a0 a1 a3 a4 a5 a6 a7 a8 a9 g_10 a12 (1 : Int32) p3 p2 p4)) H1 := hp_to ht hB
                  have hD : va_D A (wR ka qa b0 (s_R_resolved_b1 b0 a0 a1 a3 a4 a5 a6 a7 a8 a9 g_10 a12 (1 : Int32) p3 p2 p4) a0 a1 a2 a3 a4 a5 a6 a7 a8 a9 g_10 a11 (s_R_resolved_a12 b0 a0 a1 a3 a4 a5 a6 a7 a8 a9 g_10 a12 (1 : Int32) p3 p2 p4)) := ad_R hD
                  generalize hg_23 : (s_R_resolved_b1 b0 a0 a1 a3 a4 a5 a6 a7 a8 a9 g_10 a12 (1 : Int32) p3 p2 p4) = g_23 at hP hD
                  generalize hg_24 : (s_R_resolved_a12 b0 a0 a1 a3 a4 a5 a6 a7 a8 a9 g_10 a12 (1 : Int32) p3 p2 p4) = g_24 at hP hD
                  generalize H1 = H at hP hS ⊢
                  refine lv_topi (fun x6 hx6 => ?_)
                  refine lv_istore (lv' := [(6, .int x6), (0, .ref (qa 0)), (1, .int p1), (2, .int p2), (3, .int p3), (4, .int p4), (5, .int p5)]) hx hb d_R_invoke_142 hl (by decide) rfl (fun ls hl => ?_)
                  refine lv_iload hx hb d_R_invoke_144 (lv_at hl 0 rfl) ?_
                  refine lv_if_ge (tgt := 152) hx hb d_R_invoke_146 (by decide) (fun c_25 => ?_) (fun c_25 => ?_)
                  · have c_25 : (0 : Int32) ≤ x6 := c_25
                    have hx6i : vp_in x6 13 := by rw [hx6]; exact in_rsd hT hpa hdi hdc (by with_reducible assumption) (by rw [← hx6]; with_reducible assumption)
                    refine lv_aload_n hx hb d_R_invoke_152 rfl (lv_at hl 1 rfl) ?_
                    refine lv_iload hx hb d_R_invoke_153 (lv_at hl 0 rfl) ?_
                    refine lv_iload hx hb d_R_invoke_155 (lv_at hl 5 rfl) ?_
                    have hq_26 : vp_in x6 13 := by first | with_reducible assumption | exact in_et et (leT hT et h2 (by with_reducible assumption)) | exact in_et et h2 | exact in_et eu (leT hT eu u2 (by with_reducible assumption)) | exact in_et eu u2
                    have hq_27 : vp_in p4 4 := by first | with_reducible assumption | exact jn_name (by with_reducible assumption)
                    refine va_calli (va_runV (As := [.int x6, .int p4]) (rest := []) ⟨hx, hb, hml, hown, hts⟩ (c_R_isStatic l dC dI ka qa H.size b0 g_23 a0 a1 a2 a3 a4 a5 a6 a7 a8 a9 g_10 a11 g_24 x6 p4 hq_26 hq_27) (cwV 2 hts k_g74 rfl rfl rfl (by decide +kernel) ⟨Nat.le_of_ble_eq_true rfl, Nat.le_of_ble_eq_true rfl⟩) ⟨fb_ro, va_recv hK hP (ci := 3) (q0 := 0) rfl rfl, fun U hU hW => ⟨rfl, by rw [hU], by rw [hU]; exact hP, va_K.moved hW.alike (hK), NX.warm hW hN⟩⟩ rfl rfl hl.1 rfl (lv_room (Nat.le_of_ble_eq_true rfl)) d_R_invoke_157 ⟨Nat.zero_le _, Nat.zero_le _⟩) hS (fun z h1 h2 => absurd h1 (Nat.not_lt.mpr h2)) (fun z h => hA z (Nat.le_trans hS.1 h)) (fun r u t H1 locs ht hvm hpo hB hz1 hk1 hS => ?_)
                    subst hpo
                    have hP := kp_P hP hk1
                    generalize H1 = H at hP hS ⊢
                    refine lv_iload_n hx hb d_R_invoke_160 rfl (lv_at hl 2 rfl) ?_
                    refine lv_iconst (v := (3 : Int32)) hx hb d_R_invoke_161 (by decide +kernel) ?_
                    refine lv_icmp_ne (tgt := 169) hx hb d_R_invoke_162 (by decide) (fun _ => ?_) (fun h => by rw [c_5] at h; exact absurd h (by decide +kernel))
                    refine lv_iconst (v := (0 : Int32)) hx hb d_R_invoke_169 (by decide +kernel) ?_
                    refine lv_icmp_eq (tgt := 176) hx hb d_R_invoke_170 (by decide) (fun c_28 => ?_) (fun c_28 => ?_)
                    · have c_28 : (f_R_isStatic a9 x6 p4) = (0 : Int32) := c_28
                      refine lv_iload_n hx hb d_R_invoke_176 rfl (lv_at hl 2 rfl) ?_
                      refine lv_iconst (v := (3 : Int32)) hx hb d_R_invoke_177 (by decide +kernel) ?_
                      refine lv_icmp_ne (tgt := 184) hx hb d_R_invoke_178 (by decide) (fun _ => ?_) (fun h => by rw [c_5] at h; exact absurd h (by decide +kernel))
                      refine lv_iload_n hx hb d_R_invoke_184 rfl (lv_at hl 2 rfl) ?_
                      refine lv_iconst (v := (2 : Int32)) hx hb d_R_invoke_185 (by decide +kernel) ?_
                      refine lv_icmp_ne (tgt := 198) hx hb d_R_invoke_186 (by decide) (fun _ => ?_) (fun h => by rw [c_5] at h; exact absurd h (by decide +kernel))
                      refine lv_iload_n hx hb d_R_invoke_198 rfl (lv_at hl 2 rfl) ?_
                      refine lv_iconst (v := (1 : Int32)) hx hb d_R_invoke_199 (by decide +kernel) ?_
                      refine lv_icmp_ne (tgt := 217) hx hb d_R_invoke_200 (by decide) (fun _ => ?_) (fun h => by rw [c_5] at h; exact absurd h (by decide +kernel))
                      refine lv_aload_n hx hb d_R_invoke_217 rfl (lv_at hl 1 rfl) ?_
                      refine lv_iload hx hb d_R_invoke_218 (lv_at hl 6 rfl) ?_
                      refine lv_iload hx hb d_R_invoke_220 (lv_at hl 0 rfl) ?_
                      refine lv_iload hx hb d_R_invoke_222 (lv_at hl 5 rfl) ?_
                      have hq_29 : vT b0 := by with_reducible assumption
                      have hq_30 : vPar a4 := by with_reducible assumption
                      have hq_31 : vDir a6 := by with_reducible assumption
                      have hq_32 : vDc a7 := by with_reducible assumption
                      have hq_33 : vp_in p5 13 := by first | with_reducible assumption | exact rin_has hT (by with_reducible assumption)
                      have hq_34 : vp_in x6 13 := by first | with_reducible assumption | exact in_et et (leT hT et h2 (by with_reducible assumption)) | exact in_et et h2 | exact in_et eu (leT hT eu u2 (by with_reducible assumption)) | exact in_et eu u2
                      have hq_35 : vp_in p4 4 := by first | with_reducible assumption | exact jn_name (by with_reducible assumption)
                      have hFc := va_free (wc := (wR ka qa b0 g_23 a0 a1 a2 a3 a4 a5 a6 a7 a8 a9 g_10 a11 g_24)) hD hS hA [0, 1, 2, 3, 4, 5, 6, 7, 8, 9, 10, 11, 12, 13] rfl
                      refine va_calli (va_runV (As := [.int p5, .int x6, .int p4]) (rest := []) ⟨hx, hb, hml, hown, hts⟩ (c_R_selected l dC dI ka qa H.size b0 g_23 a0 a1 a2 a3 a4 a5 a6 a7 a8 a9 g_10 a11 g_24 p5 x6 p4 hq_29 hq_30 hq_31 hq_32 hq_33 hq_34 hq_35) (cwV 3 hts k_g91 rfl rfl rfl (by decide +kernel) ⟨Nat.le_of_ble_eq_true rfl, Nat.le_of_ble_eq_true rfl⟩) ⟨fb_mu, va_recv hK hP (ci := 3) (q0 := 0) rfl rfl, fun U hU hW => ⟨rfl, by rw [hU], by rw [hU]; exact hP, va_K.moved hW.alike hK, NX.warm hW hN, hD.weaken (fun _ _ _ _ => trivial)⟩⟩ rfl rfl hl.1 rfl (lv_room (Nat.le_of_ble_eq_true rfl)) d_R_invoke_224 ⟨Nat.zero_le _, Nat.zero_le _⟩) hS (fun q _ h => hFc q h) hFc (fun r u t H1 locs ht hvm hpo hB hz1 hk1 hS => ?_)
                      obtain ⟨rfl, rfl⟩ := hpo
                      have hP : va_P (dC, dI) classes (wR ka qa b0 g_23 a0 a1 a2 a3 a4 a5 a6 a7 a8 a9 (s_R_selected_a10 b0 a0 a3 a4 a6 a7 a9 g_10 a11 p5 x6 p4) (s_R_selected_a11 b0 a0 a3 a4 a6 a7 a9 g_10 a11 p5 x6 p4) g_24) H1 := hp_to ht hB
                      have hD : va_D A (wR ka qa b0 g_23 a0 a1 a2 a3 a4 a5 a6 a7 a8 a9 (s_R_selected_a10 b0 a0 a3 a4 a6 a7 a9 g_10 a11 p5 x6 p4) (s_R_selected_a11 b0 a0 a3 a4 a6 a7 a9 g_10 a11 p5 x6 p4) g_24) := ad_R hD
                      generalize hg_36 : (s_R_selected_a10 b0 a0 a3 a4 a6 a7 a9 g_10 a11 p5 x6 p4) = g_36 at hP hD
                      generalize hg_37 : (s_R_selected_a11 b0 a0 a3 a4 a6 a7 a9 g_10 a11 p5 x6 p4) = g_37 at hP hD
                      generalize H1 = H at hP hS ⊢
                      refine lv_topi (fun x7 hx7 => ?_)
                      refine lv_istore (lv' := [(7, .int x7), (6, .int x6), (0, .ref (qa 0)), (1, .int p1), (2, .int p2), (3, .int p3), (4, .int p4), (5, .int p5)]) hx hb d_R_invoke_227 hl (by decide) rfl (fun ls hl => ?_)
                      refine lv_iload hx hb d_R_invoke_229 (lv_at hl 0 rfl) ?_
                      refine lv_if_ge (tgt := 237) hx hb d_R_invoke_231 (by decide) (fun c_38 => ?_) (fun c_38 => ?_)
                      · have c_38 : (0 : Int32) ≤ x7 := c_38
                        have hx7i : vp_in x7 13 := by rw [hx7]; exact in_sld hT hpa (by with_reducible assumption) (by with_reducible assumption) (by rw [← hx7]; with_reducible assumption)
                        refine lv_aload_n hx hb d_R_invoke_237 rfl (lv_at hl 2 rfl) ?_
                        refine va_get (D := (dC, dI)) (ci := 3) (v := .ref (qa 10)) (C := R_R) (T := F_R) (N := 15) hx hb hts i_R hown hK hP 0 rfl rfl 10 (by decide) (hts _ k_49) (fun _ h9 => h9) rfl d_R_invoke_238 ?_
                        refine lv_iconst (v := (4 : Int32)) hx hb d_R_invoke_241 (by decide +kernel) ?_
                        refine lv_iload hx hb d_R_invoke_242 (lv_at hl 0 rfl) ?_
                        refine lv_imul hx hb d_R_invoke_244 ?_
                        refine lv_iload hx hb d_R_invoke_245 (lv_at hl 6 rfl) ?_
                        refine lv_iadd hx hb d_R_invoke_247 ?_
                        have hi_39 : vp_in (((4 : Int32) * x7) + p4) 52 := by first | with_reducible assumption | exact jn_52 (by first | with_reducible assumption | exact in_et et (leT hT et h2 (by with_reducible assumption)) | exact in_et et h2 | exact in_et eu (leT hT eu u2 (by with_reducible assumption)) | exact in_et eu u2) (by first | with_reducible assumption | exact jn_name (by with_reducible assumption))
                        refine va_iald (D := (dC, dI)) (f := a9) hx hb hK hP 10 9 rfl rfl hi_39 d_R_invoke_248 ?_
                        refine lv_iconst (v := (3 : Int32)) hx hb d_R_invoke_249 (by decide +kernel) ?_
                        refine lv_iand hx hb d_R_invoke_250 ?_
                        refine lv_istore (lv' := [(8, .int ((a9 (((4 : Int32) * x7) + p4).toNatClampNeg) &&& (3 : Int32))), (7, .int x7), (6, .int x6), (0, .ref (qa 0)), (1, .int p1), (2, .int p2), (3, .int p3), (4, .int p4), (5, .int p5)]) hx hb d_R_invoke_251 hl (by decide) rfl (fun ls hl => ?_)
                        refine lv_iload_n hx hb d_R_invoke_253 rfl (lv_at hl 4 rfl) ?_
                        refine lv_iconst (v := (1 : Int32)) hx hb d_R_invoke_254 (by decide +kernel) ?_
                        refine lv_icmp_ne (tgt := 272) hx hb d_R_invoke_255 (by decide) (fun _ => ?_) (fun h => by rw [c_5] at h; exact absurd h (by decide +kernel))
                        refine lv_aload_n hx hb d_R_invoke_272 rfl (lv_at hl 3 rfl) ?_
                        refine lv_iload hx hb d_R_invoke_273 (lv_at hl 1 rfl) ?_
                        refine lv_iload hx hb d_R_invoke_275 (lv_at hl 7 rfl) ?_
                        have hq_40 : ¬ x7 ≤ (0 : Int32) → vp_in x7 13 := by exact fun _ => hx7i
                        have hq_41 : vp_in p4 4 := by first | with_reducible assumption | exact jn_name (by with_reducible assumption)
                        refine va_calli (va_runV (As := [.int x7, .int p4]) (rest := []) ⟨hx, hb, hml, hown, hts⟩ (c_R_withCode l dC dI ka qa H.size b0 g_23 a0 a1 a2 a3 a4 a5 a6 a7 a8 a9 g_36 g_37 g_24 x7 p4 hq_40 hq_41) (cwV 2 hts k_g85 rfl rfl rfl (by decide +kernel) ⟨Nat.le_of_ble_eq_true rfl, Nat.le_of_ble_eq_true rfl⟩) ⟨fb_ro, va_recv hK hP (ci := 3) (q0 := 0) rfl rfl, fun U hU hW => ⟨rfl, by rw [hU], by rw [hU]; exact hP, va_K.moved hW.alike (hK), NX.warm hW hN⟩⟩ rfl rfl hl.1 rfl (lv_room (Nat.le_of_ble_eq_true rfl)) d_R_invoke_277 ⟨Nat.zero_le _, Nat.zero_le _⟩) hS (fun z h1 h2 => absurd h1 (Nat.not_lt.mpr h2)) (fun z h => hA z (Nat.le_trans hS.1 h)) (fun r u t H1 locs ht hvm hpo hB hz1 hk1 hS => ?_)
                        subst hpo
                        have hP := kp_P hP hk1
                        generalize H1 = H at hP hS ⊢
                        have hP9 : va_P (dC, dI) classes (wR ka qa b0 g_23 a0 a1 a2 a3 a4 a5 a6 a7 a8 a9 g_36 g_37 g_24) H := hP
                        exact W.iret (v := (f_R_withCode a9 x7 p4)) hx hb hr (fun t ht hW => ⟨⟨(f_R_withCode a9 x7 p4), (g_23, g_36, g_37, g_24), rfl, ⟨by subst hg_10; subst hg_23; subst hg_24; subst hx6; subst hg_36; subst hg_37; subst hx7; unfold f_R_invoke; rw [if_neg c_1, if_neg c_2, if_neg c_3, if_neg c_4, if_pos c_5, if_neg c_11, if_pos c_13, if_neg c_15]; unfold f_R_invoke_c1; unfold f_R_invoke_c2; rw [if_pos c_25, if_pos c_28]; unfold f_R_invoke_c3; rw [if_pos c_38], (pr2 (by subst hg_10; subst hg_23; subst hg_24; subst hx6; subst hg_36; subst hg_37; subst hx7; unfold s_R_invoke_b1; rw [if_neg c_1, if_neg c_2, if_neg c_3, if_neg c_4, if_pos c_5, if_neg c_11, if_pos c_13, if_neg c_15]; unfold s_R_invoke_b1_c1; unfold s_R_invoke_b1_c2; rw [if_pos c_25, if_pos c_28]; unfold s_R_invoke_b1_c3; rw [if_pos c_38]) (pr2 (by subst hg_10; subst hg_23; subst hg_24; subst hx6; subst hg_36; subst hg_37; subst hx7; unfold s_R_invoke_a10; rw [if_neg c_1, if_neg c_2, if_neg c_3, if_neg c_4, if_pos c_5, if_neg c_11, if_pos c_13, if_neg c_15]; unfold s_R_invoke_a10_c1; unfold s_R_invoke_a10_c2; rw [if_pos c_25, if_pos c_28]; unfold s_R_invoke_a10_c3; rw [if_pos c_38]) (pr2 (by subst hg_10; subst hg_23; subst hg_24; subst hx6; subst hg_36; subst hg_37; subst hx7; unfold s_R_invoke_a11; rw [if_neg c_1, if_neg c_2, if_neg c_3, if_neg c_4, if_pos c_5, if_neg c_11, if_pos c_13, if_neg c_15]; unfold s_R_invoke_a11_c1; unfold s_R_invoke_a11_c2; rw [if_pos c_25, if_pos c_28]; unfold s_R_invoke_a11_c3; rw [if_pos c_38]) (by subst hg_10; subst hg_23; subst hg_24; subst hx6; subst hg_36; subst hg_37; subst hx7; unfold s_R_invoke_a12; rw [if_neg c_1, if_neg c_2, if_neg c_3, if_neg c_4, if_pos c_5, if_neg c_11, if_pos c_13, if_neg c_15]; unfold s_R_invoke_a12_c1; unfold s_R_invoke_a12_c2; rw [if_pos c_25, if_pos c_28]; unfold s_R_invoke_a12_c3; rw [if_pos c_38]))))⟩, hp_at ht hP9⟩, hS.F ht⟩) hS.2.2 d_R_invoke_280
                      · have c_38 : ¬ ((0 : Int32) ≤ x7) := c_38
                        refine lv_iload hx hb d_R_invoke_234 (lv_at hl 0 rfl) ?_
                        have hP9 : va_P (dC, dI) classes (wR ka qa b0 g_23 a0 a1 a2 a3 a4 a5 a6 a7 a8 a9 g_36 g_37 g_24) H := hP
                        exact W.iret (v := x7) hx hb hr (fun t ht hW => ⟨⟨x7, (g_23, g_36, g_37, g_24), rfl, ⟨by subst hg_10; subst hg_23; subst hg_24; subst hx6; subst hg_36; subst hg_37; subst hx7; unfold f_R_invoke; rw [if_neg c_1, if_neg c_2, if_neg c_3, if_neg c_4, if_pos c_5, if_neg c_11, if_pos c_13, if_neg c_15]; unfold f_R_invoke_c1; unfold f_R_invoke_c2; rw [if_pos c_25, if_pos c_28]; unfold f_R_invoke_c3; rw [if_neg c_38], (pr2 (by subst hg_10; subst hg_23; subst hg_24; subst hx6; subst hg_36; subst hg_37; subst hx7; unfold s_R_invoke_b1; rw [if_neg c_1, if_neg c_2, if_neg c_3, if_neg c_4, if_pos c_5, if_neg c_11, if_pos c_13, if_neg c_15]; unfold s_R_invoke_b1_c1; unfold s_R_invoke_b1_c2; rw [if_pos c_25, if_pos c_28]; unfold s_R_invoke_b1_c3; rw [if_neg c_38]) (pr2 (by subst hg_10; subst hg_23; subst hg_24; subst hx6; subst hg_36; subst hg_37; subst hx7; unfold s_R_invoke_a10; rw [if_neg c_1, if_neg c_2, if_neg c_3, if_neg c_4, if_pos c_5, if_neg c_11, if_pos c_13, if_neg c_15]; unfold s_R_invoke_a10_c1; unfold s_R_invoke_a10_c2; rw [if_pos c_25, if_pos c_28]; unfold s_R_invoke_a10_c3; rw [if_neg c_38]) (pr2 (by subst hg_10; subst hg_23; subst hg_24; subst hx6; subst hg_36; subst hg_37; subst hx7; unfold s_R_invoke_a11; rw [if_neg c_1, if_neg c_2, if_neg c_3, if_neg c_4, if_pos c_5, if_neg c_11, if_pos c_13, if_neg c_15]; unfold s_R_invoke_a11_c1; unfold s_R_invoke_a11_c2; rw [if_pos c_25, if_pos c_28]; unfold s_R_invoke_a11_c3; rw [if_neg c_38]) (by subst hg_10; subst hg_23; subst hg_24; subst hx6; subst hg_36; subst hg_37; subst hx7; unfold s_R_invoke_a12; rw [if_neg c_1, if_neg c_2, if_neg c_3, if_neg c_4, if_pos c_5, if_neg c_11, if_pos c_13, if_neg c_15]; unfold s_R_invoke_a12_c1; unfold s_R_invoke_a12_c2; rw [if_pos c_25, if_pos c_28]; unfold s_R_invoke_a12_c3; rw [if_neg c_38]))))⟩, hp_at ht hP9⟩, hS.F ht⟩) hS.2.2 d_R_invoke_236
                    · have c_28 : ¬ ((f_R_isStatic a9 x6 p4) = (0 : Int32)) := c_28
                      refine lv_bipush (v := (-6 : Int32)) hx hb d_R_invoke_173 (by decide +kernel) ?_
                      have hP9 : va_P (dC, dI) classes (wR ka qa b0 g_23 a0 a1 a2 a3 a4 a5 a6 a7 a8 a9 g_10 a11 g_24) H := hP
                      exact W.iret (v := (-6 : Int32)) hx hb hr (fun t ht hW => ⟨⟨(-6 : Int32), (g_23, g_10, a11, g_24), rfl, ⟨by subst hg_10; subst hg_23; subst hg_24; subst hx6; unfold f_R_invoke; rw [if_neg c_1, if_neg c_2, if_neg c_3, if_neg c_4, if_pos c_5, if_neg c_11, if_pos c_13, if_neg c_15]; unfold f_R_invoke_c1; unfold f_R_invoke_c2; rw [if_pos c_25, if_neg c_28], (pr2 (by subst hg_10; subst hg_23; subst hg_24; subst hx6; unfold s_R_invoke_b1; rw [if_neg c_1, if_neg c_2, if_neg c_3, if_neg c_4, if_pos c_5, if_neg c_11, if_pos c_13, if_neg c_15]; unfold s_R_invoke_b1_c1; unfold s_R_invoke_b1_c2; rw [if_pos c_25, if_neg c_28]) (pr2 (by subst hg_10; subst hg_23; subst hg_24; subst hx6; unfold s_R_invoke_a10; rw [if_neg c_1, if_neg c_2, if_neg c_3, if_neg c_4, if_pos c_5, if_neg c_11, if_pos c_13, if_neg c_15]; unfold s_R_invoke_a10_c1; unfold s_R_invoke_a10_c2; rw [if_pos c_25, if_neg c_28]) (pr2 (by subst hg_10; subst hg_23; subst hg_24; subst hx6; unfold s_R_invoke_a11; rw [if_neg c_1, if_neg c_2, if_neg c_3, if_neg c_4, if_pos c_5, if_neg c_11, if_pos c_13, if_neg c_15]; unfold s_R_invoke_a11_c1; unfold s_R_invoke_a11_c2; rw [if_pos c_25, if_neg c_28]) (by subst hg_10; subst hg_23; subst hg_24; subst hx6; unfold s_R_invoke_a12; rw [if_neg c_1, if_neg c_2, if_neg c_3, if_neg c_4, if_pos c_5, if_neg c_11, if_pos c_13, if_neg c_15]; unfold s_R_invoke_a12_c1; unfold s_R_invoke_a12_c2; rw [if_pos c_25, if_neg c_28]))))⟩, hp_at ht hP9⟩, hS.F ht⟩) hS.2.2 d_R_invoke_175
                  · have c_25 : ¬ ((0 : Int32) ≤ x6) := c_25
                    refine lv_iload hx hb d_R_invoke_149 (lv_at hl 0 rfl) ?_
                    have hP9 : va_P (dC, dI) classes (wR ka qa b0 g_23 a0 a1 a2 a3 a4 a5 a6 a7 a8 a9 g_10 a11 g_24) H := hP
                    exact W.iret (v := x6) hx hb hr (fun t ht hW => ⟨⟨x6, (g_23, g_10, a11, g_24), rfl, ⟨by subst hg_10; subst hg_23; subst hg_24; subst hx6; unfold f_R_invoke; rw [if_neg c_1, if_neg c_2, if_neg c_3, if_neg c_4, if_pos c_5, if_neg c_11, if_pos c_13, if_neg c_15]; unfold f_R_invoke_c1; unfold f_R_invoke_c2; rw [if_neg c_25], (pr2 (by subst hg_10; subst hg_23; subst hg_24; subst hx6; unfold s_R_invoke_b1; rw [if_neg c_1, if_neg c_2, if_neg c_3, if_neg c_4, if_pos c_5, if_neg c_11, if_pos c_13, if_neg c_15]; unfold s_R_invoke_b1_c1; unfold s_R_invoke_b1_c2; rw [if_neg c_25]) (pr2 (by subst hg_10; subst hg_23; subst hg_24; subst hx6; unfold s_R_invoke_a10; rw [if_neg c_1, if_neg c_2, if_neg c_3, if_neg c_4, if_pos c_5, if_neg c_11, if_pos c_13, if_neg c_15]; unfold s_R_invoke_a10_c1; unfold s_R_invoke_a10_c2; rw [if_neg c_25]) (pr2 (by subst hg_10; subst hg_23; subst hg_24; subst hx6; unfold s_R_invoke_a11; rw [if_neg c_1, if_neg c_2, if_neg c_3, if_neg c_4, if_pos c_5, if_neg c_11, if_pos c_13, if_neg c_15]; unfold s_R_invoke_a11_c1; unfold s_R_invoke_a11_c2; rw [if_neg c_25]) (by subst hg_10; subst hg_23; subst hg_24; subst hx6; unfold s_R_invoke_a12; rw [if_neg c_1, if_neg c_2, if_neg c_3, if_neg c_4, if_pos c_5, if_neg c_11, if_pos c_13, if_neg c_15]; unfold s_R_invoke_a12_c1; unfold s_R_invoke_a12_c2; rw [if_neg c_25]))))⟩, hp_at ht hP9⟩, hS.F ht⟩) hS.2.2 d_R_invoke_151
          · skip
            by_cases c_42 : p1 = (1 : Int32)
            · skip
              refine lv_aload_n hx hb d_R_invoke_37 rfl (lv_at hl 0 rfl) ?_
              have hq_43 : vT b0 := by with_reducible assumption
              have hq_44 : vPar a4 := by with_reducible assumption
              have hq_45 : vDir a6 := by with_reducible assumption
              have hq_46 : vDc a7 := by with_reducible assumption
              have hFc := va_free (wc := (wR ka qa b0 b1 a0 a1 a2 a3 a4 a5 a6 a7 a8 a9 a10 a11 a12)) hD hS hA [0, 1, 2, 3, 4, 5, 6, 7, 8, 9, 10, 11, 12, 13] rfl
              refine va_callv (va_runV (As := []) (rest := []) ⟨hx, hb, hml, hown, hts⟩ (c_R_closeAbove l dC dI ka qa H.size b0 b1 a0 a1 a2 a3 a4 a5 a6 a7 a8 a9 a10 a11 a12  hq_43 hq_44 hq_45 hq_46) (cwV 0 hts k_g81 rfl rfl rfl (by decide +kernel) ⟨Nat.le_of_ble_eq_true rfl, Nat.le_of_ble_eq_true rfl⟩) ⟨fb_mu, va_recv hK hP (ci := 3) (q0 := 0) rfl rfl, fun U hU hW => ⟨rfl, by rw [hU], by rw [hU]; exact hP, va_K.moved hW.alike hK, NX.warm hW hN, hD.weaken (fun _ _ _ _ => trivial)⟩⟩ rfl rfl hl.1 rfl (lv_room (Nat.le_of_ble_eq_true rfl)) d_R_invoke_38 ⟨Nat.zero_le _, Nat.zero_le _⟩) hS (fun q _ h => hFc q h) hFc (fun u t H1 locs ht hvm hpo hB hz1 hk1 hS => ?_)
              subst hpo
              have hP : va_P (dC, dI) classes (wR ka qa b0 b1 a0 a1 a2 a3 a4 a5 a6 a7 a8 a9 (s_R_closeAbove_a10 b0 a4 a6 a7 a10) a11 a12) H1 := hp_to ht hB
              have hD : va_D A (wR ka qa b0 b1 a0 a1 a2 a3 a4 a5 a6 a7 a8 a9 (s_R_closeAbove_a10 b0 a4 a6 a7 a10) a11 a12) := ad_R hD
              generalize hg_47 : (s_R_closeAbove_a10 b0 a4 a6 a7 a10) = g_47 at hP hD
              generalize H1 = H at hP hS ⊢
              refine lv_iload_n hx hb d_R_invoke_41 rfl (lv_at hl 1 rfl) ?_
              refine lv_iconst (v := (2 : Int32)) hx hb d_R_invoke_42 (by decide +kernel) ?_
              refine lv_icmp_ge (tgt := 65) hx hb d_R_invoke_43 (by decide) (fun h => by rw [c_42] at h; exact absurd h (by decide +kernel)) (fun _ => ?_)
              refine lv_aload_n hx hb d_R_invoke_46 rfl (lv_at hl 0 rfl) ?_
              refine lv_iload hx hb d_R_invoke_47 (lv_at hl 5 rfl) ?_
              refine va_calli (va_runV (As := [.int p5]) (rest := []) ⟨hx, hb, hml, hown, hts⟩ (c_R_there l dC dI ka qa H.size b0 b1 a0 a1 a2 a3 a4 a5 a6 a7 a8 a9 g_47 a11 a12 p5) (cwV 1 hts k_g72 rfl rfl rfl (by decide +kernel) ⟨Nat.le_of_ble_eq_true rfl, Nat.le_of_ble_eq_true rfl⟩) ⟨fb_ro, va_recv hK hP (ci := 3) (q0 := 0) rfl rfl, fun U hU hW => ⟨rfl, by rw [hU], by rw [hU]; exact hP, va_K.moved hW.alike (hK), NX.warm hW hN⟩⟩ rfl rfl hl.1 rfl (lv_room (Nat.le_of_ble_eq_true rfl)) d_R_invoke_49 ⟨Nat.zero_le _, Nat.zero_le _⟩) hS (fun z h1 h2 => absurd h1 (Nat.not_lt.mpr h2)) (fun z h => hA z (Nat.le_trans hS.1 h)) (fun r u t H1 locs ht hvm hpo hB hz1 hk1 hS => ?_)
              subst hpo
              have hP := kp_P hP hk1
              generalize H1 = H at hP hS ⊢
              refine lv_if_eq (tgt := 75) hx hb d_R_invoke_52 (by decide) (fun c_48 => ?_) (fun c_48 => ?_)
              · have c_48 : (f_R_there b0 p5) = (0 : Int32) := c_48
                refine lv_iconst (v := (-1 : Int32)) hx hb d_R_invoke_75 (by decide +kernel) ?_
                have hP9 : va_P (dC, dI) classes (wR ka qa b0 b1 a0 a1 a2 a3 a4 a5 a6 a7 a8 a9 g_47 a11 a12) H := hP
                exact W.iret (v := (-1 : Int32)) hx hb hr (fun t ht hW => ⟨⟨(-1 : Int32), (b1, g_47, a11, a12), rfl, ⟨by subst hg_47; unfold f_R_invoke; rw [if_neg c_1, if_neg c_2, if_neg c_3, if_neg c_4, if_neg c_5, if_pos c_42, if_pos c_48], (pr2 (by subst hg_47; unfold s_R_invoke_b1; rw [if_neg c_1, if_neg c_2, if_neg c_3, if_neg c_4, if_neg c_5, if_pos c_42, if_pos c_48]) (pr2 (by subst hg_47; unfold s_R_invoke_a10; rw [if_neg c_1, if_neg c_2, if_neg c_3, if_neg c_4, if_neg c_5, if_pos c_42, if_pos c_48]) (pr2 (by subst hg_47; unfold s_R_invoke_a11; rw [if_neg c_1, if_neg c_2, if_neg c_3, if_neg c_4, if_neg c_5, if_pos c_42, if_pos c_48]) (by subst hg_47; unfold s_R_invoke_a12; rw [if_neg c_1, if_neg c_2, if_neg c_3, if_neg c_4, if_neg c_5, if_pos c_42, if_pos c_48]))))⟩, hp_at ht hP9⟩, hS.F ht⟩) hS.2.2 d_R_invoke_76
              · have c_48 : ¬ ((f_R_there b0 p5) = (0 : Int32)) := c_48
                refine lv_aload_n hx hb d_R_invoke_55 rfl (lv_at hl 0 rfl) ?_
                refine va_get (D := (dC, dI)) (ci := 3) (v := .ref (qa 1)) (C := R_R) (T := F_R) (N := 15) hx hb hts i_R hown hK hP 0 rfl rfl 1 (by decide) (hts _ k_52) (fun _ h9 => h9) rfl d_R_invoke_56 ?_
                refine lv_iload hx hb d_R_invoke_59 (lv_at hl 5 rfl) ?_
                have hi_49 : vp_in p5 13 := by first | with_reducible assumption | exact rin_has hT (by with_reducible assumption)
                refine va_zald (D := (dC, dI)) (f := a0) hx hb hK hP 1 0 rfl rfl hi_49 d_R_invoke_61 ?_
                refine lv_if_ne (tgt := 75) hx hb d_R_invoke_62 (by decide) (fun c_50 => ?_) (fun c_50 => ?_)
                · have c_50 : ¬ ((a0 p5.toNatClampNeg) = (0 : Int32)) := c_50
                  refine lv_iconst (v := (-1 : Int32)) hx hb d_R_invoke_75 (by decide +kernel) ?_
                  have hP9 : va_P (dC, dI) classes (wR ka qa b0 b1 a0 a1 a2 a3 a4 a5 a6 a7 a8 a9 g_47 a11 a12) H := hP
                  exact W.iret (v := (-1 : Int32)) hx hb hr (fun t ht hW => ⟨⟨(-1 : Int32), (b1, g_47, a11, a12), rfl, ⟨by subst hg_47; unfold f_R_invoke; rw [if_neg c_1, if_neg c_2, if_neg c_3, if_neg c_4, if_neg c_5, if_pos c_42, if_neg c_48, if_neg c_50], (pr2 (by subst hg_47; unfold s_R_invoke_b1; rw [if_neg c_1, if_neg c_2, if_neg c_3, if_neg c_4, if_neg c_5, if_pos c_42, if_neg c_48, if_neg c_50]) (pr2 (by subst hg_47; unfold s_R_invoke_a10; rw [if_neg c_1, if_neg c_2, if_neg c_3, if_neg c_4, if_neg c_5, if_pos c_42, if_neg c_48, if_neg c_50]) (pr2 (by subst hg_47; unfold s_R_invoke_a11; rw [if_neg c_1, if_neg c_2, if_neg c_3, if_neg c_4, if_neg c_5, if_pos c_42, if_neg c_48, if_neg c_50]) (by subst hg_47; unfold s_R_invoke_a12; rw [if_neg c_1, if_neg c_2, if_neg c_3, if_neg c_4, if_neg c_5, if_pos c_42, if_neg c_48, if_neg c_50]))))⟩, hp_at ht hP9⟩, hS.F ht⟩) hS.2.2 d_R_invoke_76
                · have c_50 : (a0 p5.toNatClampNeg) = (0 : Int32) := c_50
                  refine lv_iload_n hx hb d_R_invoke_65 rfl (lv_at hl 1 rfl) ?_
                  refine lv_iconst (v := (1 : Int32)) hx hb d_R_invoke_66 (by decide +kernel) ?_
                  refine lv_icmp_le (tgt := 77) hx hb d_R_invoke_67 (by decide) (fun _ => ?_) (fun h => by rw [c_42] at h; exact absurd h (by decide +kernel))
                  refine lv_iload_n hx hb d_R_invoke_77 rfl (lv_at hl 1 rfl) ?_
                  refine lv_if_ne (tgt := 91) hx hb d_R_invoke_78 (by decide) (fun _ => ?_) (fun h => by rw [c_42] at h; exact absurd h (by decide +kernel))
                  refine lv_iload_n hx hb d_R_invoke_91 rfl (lv_at hl 1 rfl) ?_
                  refine lv_iconst (v := (2 : Int32)) hx hb d_R_invoke_92 (by decide +kernel) ?_
                  refine lv_icmp_ne (tgt := 107) hx hb d_R_invoke_93 (by decide) (fun _ => ?_) (fun h => by rw [c_42] at h; exact absurd h (by decide +kernel))
                  refine lv_aload_n hx hb d_R_invoke_107 rfl (lv_at hl 0 rfl) ?_
                  refine lv_iload_n hx hb d_R_invoke_108 rfl (lv_at hl 1 rfl) ?_
                  refine lv_if_ne (tgt := 116) hx hb d_R_invoke_109 (by decide) (fun _ => ?_) (fun h => by rw [c_42] at h; exact absurd h (by decide +kernel))
                  refine lv_iload_n hx hb d_R_invoke_116 rfl (lv_at hl 1 rfl) ?_
                  refine lv_iconst (v := (1 : Int32)) hx hb d_R_invoke_117 (by decide +kernel) ?_
                  refine lv_icmp_eq (tgt := 130) hx hb d_R_invoke_118 (by decide) (fun _ => ?_) (fun h => by rw [c_42] at h; exact absurd h (by decide +kernel))
                  refine lv_iconst (v := (2 : Int32)) hx hb d_R_invoke_130 (by decide +kernel) ?_
                  refine lv_goto (tgt := 135) hx hb d_R_invoke_131 (by decide) ?_
                  refine lv_iload_n hx hb d_R_invoke_135 rfl (lv_at hl 3 rfl) ?_
                  refine lv_iload_n hx hb d_R_invoke_136 rfl (lv_at hl 2 rfl) ?_
                  refine lv_iload hx hb d_R_invoke_137 (lv_at hl 4 rfl) ?_
                  have hq_51 : vT b0 := by with_reducible assumption
                  have hq_52 : vPar a4 := by with_reducible assumption
                  have hq_53 : vDir a6 := by with_reducible assumption
                  have hq_54 : vDc a7 := by with_reducible assumption
                  have hq_55 : vp_in p3 13 := by first | with_reducible assumption | exact rin_has hT (by with_reducible assumption)
                  have hq_56 : vp_in p2 13 := by first | with_reducible assumption | exact rin_has hT (by with_reducible assumption)
                  have hq_57 : vp_in p4 4 := by first | with_reducible assumption | exact jn_name (by with_reducible assumption)
                  have hFc := va_free (wc := (wR ka qa b0 b1 a0 a1 a2 a3 a4 a5 a6 a7 a8 a9 g_47 a11 a12)) hD hS hA [0, 1, 2, 3, 4, 5, 6, 7, 8, 9, 10, 11, 12, 13] rfl
                  refine va_calli (va_runV (As := [.int (2 : Int32), .int p3, .int p2, .int p4]) (rest := []) ⟨hx, hb, hml, hown, hts⟩ (c_R_resolved l dC dI ka qa H.size b0 b1 a0 a1 a2 a3 a4 a5 a6 a7 a8 a9 g_47 a11 a12 (2 : Int32) p3 p2 p4 hq_51 hq_52 hq_53 hq_54 hq_55 hq_56 hq_57) (cwV 4 hts k_g90 rfl rfl rfl (by decide +kernel) ⟨Nat.le_of_ble_eq_true rfl, Nat.le_of_ble_eq_true rfl⟩) ⟨fb_mu, va_recv hK hP (ci := 3) (q0 := 0) rfl rfl, fun U hU hW => ⟨rfl, by rw [hU], by rw [hU]; exact hP, va_K.moved hW.alike hK, NX.warm hW hN, hD.weaken (fun _ _ _ _ => trivial)⟩⟩ rfl rfl hl.1 rfl (lv_room (Nat.le_of_ble_eq_true rfl)) d_R_invoke_139 ⟨Nat.zero_le _, Nat.zero_le _⟩) hS (fun q _ h => hFc q h) hFc (fun r u t H1 locs ht hvm hpo hB hz1 hk1 hS => ?_)
                  obtain ⟨rfl, rfl⟩ := hpo
                  have hP : va_P (dC, dI) classes (wR ka qa b0 (s_R_resolved_b1 b0 a0 a1 a3 a4 a5 a6 a7 a8 a9 g_47 a12 (2 : Int32) p3 p2 p4) a0 a1 a2 a3 a4 a5 a6 a7 a8 a9 g_47 a11 (s_R_resolved_a12 b0 a0 a1 a3 a4 a5 a6 a7 a8 a9 g_47 a12 (2 : Int32) p3 p2 p4)) H1 := hp_to ht hB
                  have hD : va_D A (wR ka qa b0 (s_R_resolved_b1 b0 a0 a1 a3 a4 a5 a6 a7 a8 a9 g_47 a12 (2 : Int32) p3 p2 p4) a0 a1 a2 a3 a4 a5 a6 a7 a8 a9 g_47 a11 (s_R_resolved_a12 b0 a0 a1 a3 a4 a5 a6 a7 a8 a9 g_47 a12 (2 : Int32) p3 p2 p4)) := ad_R hD
                  generalize hg_58 : (s_R_resolved_b1 b0 a0 a1 a3 a4 a5 a6 a7 a8 a9 g_47 a12 (2 : Int32) p3 p2 p4) = g_58 at hP hD
                  generalize hg_59 : (s_R_resolved_a12 b0 a0 a1 a3 a4 a5 a6 a7 a8 a9 g_47 a12 (2 : Int32) p3 p2 p4) = g_59 at hP hD
                  generalize H1 = H at hP hS ⊢
                  refine lv_topi (fun x6 hx6 => ?_)
                  refine lv_istore (lv' := [(6, .int x6), (0, .ref (qa 0)), (1, .int p1), (2, .int p2), (3, .int p3), (4, .int p4), (5, .int p5)]) hx hb d_R_invoke_142 hl (by decide) rfl (fun ls hl => ?_)
                  refine lv_iload hx hb d_R_invoke_144 (lv_at hl 0 rfl) ?_
                  refine lv_if_ge (tgt := 152) hx hb d_R_invoke_146 (by decide) (fun c_60 => ?_) (fun c_60 => ?_)
                  · have c_60 : (0 : Int32) ≤ x6 := c_60
                    have hx6i : vp_in x6 13 := by rw [hx6]; exact in_rsd hT hpa hdi hdc (by with_reducible assumption) (by rw [← hx6]; with_reducible assumption)
                    refine lv_aload_n hx hb d_R_invoke_152 rfl (lv_at hl 1 rfl) ?_
                    refine lv_iload hx hb d_R_invoke_153 (lv_at hl 0 rfl) ?_
                    refine lv_iload hx hb d_R_invoke_155 (lv_at hl 5 rfl) ?_
                    have hq_61 : vp_in x6 13 := by first | with_reducible assumption | exact in_et et (leT hT et h2 (by with_reducible assumption)) | exact in_et et h2 | exact in_et eu (leT hT eu u2 (by with_reducible assumption)) | exact in_et eu u2
                    have hq_62 : vp_in p4 4 := by first | with_reducible assumption | exact jn_name (by with_reducible assumption)
                    refine va_calli (va_runV (As := [.int x6, .int p4]) (rest := []) ⟨hx, hb, hml, hown, hts⟩ (c_R_isStatic l dC dI ka qa H.size b0 g_58 a0 a1 a2 a3 a4 a5 a6 a7 a8 a9 g_47 a11 g_59 x6 p4 hq_61 hq_62) (cwV 2 hts k_g74 rfl rfl rfl (by decide +kernel) ⟨Nat.le_of_ble_eq_true rfl, Nat.le_of_ble_eq_true rfl⟩) ⟨fb_ro, va_recv hK hP (ci := 3) (q0 := 0) rfl rfl, fun U hU hW => ⟨rfl, by rw [hU], by rw [hU]; exact hP, va_K.moved hW.alike (hK), NX.warm hW hN⟩⟩ rfl rfl hl.1 rfl (lv_room (Nat.le_of_ble_eq_true rfl)) d_R_invoke_157 ⟨Nat.zero_le _, Nat.zero_le _⟩) hS (fun z h1 h2 => absurd h1 (Nat.not_lt.mpr h2)) (fun z h => hA z (Nat.le_trans hS.1 h)) (fun r u t H1 locs ht hvm hpo hB hz1 hk1 hS => ?_)
                    subst hpo
                    have hP := kp_P hP hk1
                    generalize H1 = H at hP hS ⊢
                    refine lv_iload_n hx hb d_R_invoke_160 rfl (lv_at hl 2 rfl) ?_
                    refine lv_iconst (v := (3 : Int32)) hx hb d_R_invoke_161 (by decide +kernel) ?_
                    refine lv_icmp_ne (tgt := 169) hx hb d_R_invoke_162 (by decide) (fun _ => ?_) (fun h => by rw [c_42] at h; exact absurd h (by decide +kernel))
                    refine lv_iconst (v := (0 : Int32)) hx hb d_R_invoke_169 (by decide +kernel) ?_
                    refine lv_icmp_eq (tgt := 176) hx hb d_R_invoke_170 (by decide) (fun c_63 => ?_) (fun c_63 => ?_)
                    · have c_63 : (f_R_isStatic a9 x6 p4) = (0 : Int32) := c_63
                      refine lv_iload_n hx hb d_R_invoke_176 rfl (lv_at hl 2 rfl) ?_
                      refine lv_iconst (v := (3 : Int32)) hx hb d_R_invoke_177 (by decide +kernel) ?_
                      refine lv_icmp_ne (tgt := 184) hx hb d_R_invoke_178 (by decide) (fun _ => ?_) (fun h => by rw [c_42] at h; exact absurd h (by decide +kernel))
                      refine lv_iload_n hx hb d_R_invoke_184 rfl (lv_at hl 2 rfl) ?_
                      refine lv_iconst (v := (2 : Int32)) hx hb d_R_invoke_185 (by decide +kernel) ?_
                      refine lv_icmp_ne (tgt := 198) hx hb d_R_invoke_186 (by decide) (fun _ => ?_) (fun h => by rw [c_42] at h; exact absurd h (by decide +kernel))
                      refine lv_iload_n hx hb d_R_invoke_198 rfl (lv_at hl 2 rfl) ?_
                      refine lv_iconst (v := (1 : Int32)) hx hb d_R_invoke_199 (by decide +kernel) ?_
                      refine lv_icmp_ne (tgt := 217) hx hb d_R_invoke_200 (by decide) (fun h => by rw [c_42] at h; exact absurd h (by decide +kernel)) (fun _ => ?_)
                      refine lv_aload_n hx hb d_R_invoke_203 rfl (lv_at hl 1 rfl) ?_
                      refine lv_iload hx hb d_R_invoke_204 (lv_at hl 6 rfl) ?_
                      refine lv_iload hx hb d_R_invoke_206 (lv_at hl 0 rfl) ?_
                      have hq_64 : vp_in p5 13 := by first | with_reducible assumption | exact rin_has hT (by with_reducible assumption)
                      refine va_calli (va_runV (As := [.int p5, .int x6]) (rest := []) ⟨hx, hb, hml, hown, hts⟩ (c_R_is l dC dI ka qa H.size b0 g_58 a0 a1 a2 a3 a4 a5 a6 a7 a8 a9 g_47 a11 g_59 p5 x6 hq_64) (cwV 2 hts k_g70 rfl rfl rfl (by decide +kernel) ⟨Nat.le_of_ble_eq_true rfl, Nat.le_of_ble_eq_true rfl⟩) ⟨fb_ro, va_recv hK hP (ci := 3) (q0 := 0) rfl rfl, fun U hU hW => ⟨rfl, by rw [hU], by rw [hU]; exact hP, va_K.moved hW.alike (hK), NX.warm hW hN⟩⟩ rfl rfl hl.1 rfl (lv_room (Nat.le_of_ble_eq_true rfl)) d_R_invoke_208 ⟨Nat.zero_le _, Nat.zero_le _⟩) hS (fun z h1 h2 => absurd h1 (Nat.not_lt.mpr h2)) (fun z h => hA z (Nat.le_trans hS.1 h)) (fun r u t H1 locs ht hvm hpo hB hz1 hk1 hS => ?_)
                      subst hpo
                      have hP := kp_P hP hk1
                      generalize H1 = H at hP hS ⊢
                      refine lv_if_ne (tgt := 217) hx hb d_R_invoke_211 (by decide) (fun c_65 => ?_) (fun c_65 => ?_)
                      · have c_65 : ¬ ((f_R_is g_47 p5 x6) = (0 : Int32)) := c_65
                        refine lv_aload_n hx hb d_R_invoke_217 rfl (lv_at hl 1 rfl) ?_
                        refine lv_iload hx hb d_R_invoke_218 (lv_at hl 6 rfl) ?_
                        refine lv_iload hx hb d_R_invoke_220 (lv_at hl 0 rfl) ?_
                        refine lv_iload hx hb d_R_invoke_222 (lv_at hl 5 rfl) ?_
                        have hq_66 : vT b0 := by with_reducible assumption
                        have hq_67 : vPar a4 := by with_reducible assumption
                        have hq_68 : vDir a6 := by with_reducible assumption
                        have hq_69 : vDc a7 := by with_reducible assumption
                        have hq_70 : vp_in p5 13 := by first | with_reducible assumption | exact rin_has hT (by with_reducible assumption)
                        have hq_71 : vp_in x6 13 := by first | with_reducible assumption | exact in_et et (leT hT et h2 (by with_reducible assumption)) | exact in_et et h2 | exact in_et eu (leT hT eu u2 (by with_reducible assumption)) | exact in_et eu u2
                        have hq_72 : vp_in p4 4 := by first | with_reducible assumption | exact jn_name (by with_reducible assumption)
                        have hFc := va_free (wc := (wR ka qa b0 g_58 a0 a1 a2 a3 a4 a5 a6 a7 a8 a9 g_47 a11 g_59)) hD hS hA [0, 1, 2, 3, 4, 5, 6, 7, 8, 9, 10, 11, 12, 13] rfl
                        refine va_calli (va_runV (As := [.int p5, .int x6, .int p4]) (rest := []) ⟨hx, hb, hml, hown, hts⟩ (c_R_selected l dC dI ka qa H.size b0 g_58 a0 a1 a2 a3 a4 a5 a6 a7 a8 a9 g_47 a11 g_59 p5 x6 p4 hq_66 hq_67 hq_68 hq_69 hq_70 hq_71 hq_72) (cwV 3 hts k_g91 rfl rfl rfl (by decide +kernel) ⟨Nat.le_of_ble_eq_true rfl, Nat.le_of_ble_eq_true rfl⟩) ⟨fb_mu, va_recv hK hP (ci := 3) (q0 := 0) rfl rfl, fun U hU hW => ⟨rfl, by rw [hU], by rw [hU]; exact hP, va_K.moved hW.alike hK, NX.warm hW hN, hD.weaken (fun _ _ _ _ => trivial)⟩⟩ rfl rfl hl.1 rfl (lv_room (Nat.le_of_ble_eq_true rfl)) d_R_invoke_224 ⟨Nat.zero_le _, Nat.zero_le _⟩) hS (fun q _ h => hFc q h) hFc (fun r u t H1 locs ht hvm hpo hB hz1 hk1 hS => ?_)
                        obtain ⟨rfl, rfl⟩ := hpo
                        have hP : va_P (dC, dI) classes (wR ka qa b0 g_58 a0 a1 a2 a3 a4 a5 a6 a7 a8 a9 (s_R_selected_a10 b0 a0 a3 a4 a6 a7 a9 g_47 a11 p5 x6 p4) (s_R_selected_a11 b0 a0 a3 a4 a6 a7 a9 g_47 a11 p5 x6 p4) g_59) H1 := hp_to ht hB
                        have hD : va_D A (wR ka qa b0 g_58 a0 a1 a2 a3 a4 a5 a6 a7 a8 a9 (s_R_selected_a10 b0 a0 a3 a4 a6 a7 a9 g_47 a11 p5 x6 p4) (s_R_selected_a11 b0 a0 a3 a4 a6 a7 a9 g_47 a11 p5 x6 p4) g_59) := ad_R hD
                        generalize hg_73 : (s_R_selected_a10 b0 a0 a3 a4 a6 a7 a9 g_47 a11 p5 x6 p4) = g_73 at hP hD
                        generalize hg_74 : (s_R_selected_a11 b0 a0 a3 a4 a6 a7 a9 g_47 a11 p5 x6 p4) = g_74 at hP hD
                        generalize H1 = H at hP hS ⊢
                        refine lv_topi (fun x7 hx7 => ?_)
                        refine lv_istore (lv' := [(7, .int x7), (6, .int x6), (0, .ref (qa 0)), (1, .int p1), (2, .int p2), (3, .int p3), (4, .int p4), (5, .int p5)]) hx hb d_R_invoke_227 hl (by decide) rfl (fun ls hl => ?_)
                        refine lv_iload hx hb d_R_invoke_229 (lv_at hl 0 rfl) ?_
                        refine lv_if_ge (tgt := 237) hx hb d_R_invoke_231 (by decide) (fun c_75 => ?_) (fun c_75 => ?_)
                        · have c_75 : (0 : Int32) ≤ x7 := c_75
                          have hx7i : vp_in x7 13 := by rw [hx7]; exact in_sld hT hpa (by with_reducible assumption) (by with_reducible assumption) (by rw [← hx7]; with_reducible assumption)
                          refine lv_aload_n hx hb d_R_invoke_237 rfl (lv_at hl 2 rfl) ?_
                          refine va_get (D := (dC, dI)) (ci := 3) (v := .ref (qa 10)) (C := R_R) (T := F_R) (N := 15) hx hb hts i_R hown hK hP 0 rfl rfl 10 (by decide) (hts _ k_49) (fun _ h9 => h9) rfl d_R_invoke_238 ?_
                          refine lv_iconst (v := (4 : Int32)) hx hb d_R_invoke_241 (by decide +kernel) ?_
                          refine lv_iload hx hb d_R_invoke_242 (lv_at hl 0 rfl) ?_
                          refine lv_imul hx hb d_R_invoke_244 ?_
                          refine lv_iload hx hb d_R_invoke_245 (lv_at hl 6 rfl) ?_
                          refine lv_iadd hx hb d_R_invoke_247 ?_
                          have hi_76 : vp_in (((4 : Int32) * x7) + p4) 52 := by first | with_reducible assumption | exact jn_52 (by first | with_reducible assumption | exact in_et et (leT hT et h2 (by with_reducible assumption)) | exact in_et et h2 | exact in_et eu (leT hT eu u2 (by with_reducible assumption)) | exact in_et eu u2) (by first | with_reducible assumption | exact jn_name (by with_reducible assumption))
                          refine va_iald (D := (dC, dI)) (f := a9) hx hb hK hP 10 9 rfl rfl hi_76 d_R_invoke_248 ?_
                          refine lv_iconst (v := (3 : Int32)) hx hb d_R_invoke_249 (by decide +kernel) ?_
                          refine lv_iand hx hb d_R_invoke_250 ?_
                          refine lv_istore (lv' := [(8, .int ((a9 (((4 : Int32) * x7) + p4).toNatClampNeg) &&& (3 : Int32))), (7, .int x7), (6, .int x6), (0, .ref (qa 0)), (1, .int p1), (2, .int p2), (3, .int p3), (4, .int p4), (5, .int p5)]) hx hb d_R_invoke_251 hl (by decide) rfl (fun ls hl => ?_)
                          refine lv_iload_n hx hb d_R_invoke_253 rfl (lv_at hl 4 rfl) ?_
                          refine lv_iconst (v := (1 : Int32)) hx hb d_R_invoke_254 (by decide +kernel) ?_
                          refine lv_icmp_ne (tgt := 272) hx hb d_R_invoke_255 (by decide) (fun h => by rw [c_42] at h; exact absurd h (by decide +kernel)) (fun _ => ?_)
                          refine lv_iload hx hb d_R_invoke_258 (lv_at hl 0 rfl) ?_
                          refine lv_if_eq (tgt := 272) hx hb d_R_invoke_260 (by decide) (fun c_77 => ?_) (fun c_77 => ?_)
                          · have c_77 : ((a9 (((4 : Int32) * x7) + p4).toNatClampNeg) &&& (3 : Int32)) = (0 : Int32) := c_77
                            refine lv_aload_n hx hb d_R_invoke_272 rfl (lv_at hl 3 rfl) ?_
                            refine lv_iload hx hb d_R_invoke_273 (lv_at hl 1 rfl) ?_
                            refine lv_iload hx hb d_R_invoke_275 (lv_at hl 7 rfl) ?_
                            have hq_78 : ¬ x7 ≤ (0 : Int32) → vp_in x7 13 := by exact fun _ => hx7i
                            have hq_79 : vp_in p4 4 := by first | with_reducible assumption | exact jn_name (by with_reducible assumption)
                            refine va_calli (va_runV (As := [.int x7, .int p4]) (rest := []) ⟨hx, hb, hml, hown, hts⟩ (c_R_withCode l dC dI ka qa H.size b0 g_58 a0 a1 a2 a3 a4 a5 a6 a7 a8 a9 g_73 g_74 g_59 x7 p4 hq_78 hq_79) (cwV 2 hts k_g85 rfl rfl rfl (by decide +kernel) ⟨Nat.le_of_ble_eq_true rfl, Nat.le_of_ble_eq_true rfl⟩) ⟨fb_ro, va_recv hK hP (ci := 3) (q0 := 0) rfl rfl, fun U hU hW => ⟨rfl, by rw [hU], by rw [hU]; exact hP, va_K.moved hW.alike (hK), NX.warm hW hN⟩⟩ rfl rfl hl.1 rfl (lv_room (Nat.le_of_ble_eq_true rfl)) d_R_invoke_277 ⟨Nat.zero_le _, Nat.zero_le _⟩) hS (fun z h1 h2 => absurd h1 (Nat.not_lt.mpr h2)) (fun z h => hA z (Nat.le_trans hS.1 h)) (fun r u t H1 locs ht hvm hpo hB hz1 hk1 hS => ?_)
                            subst hpo
                            have hP := kp_P hP hk1
                            generalize H1 = H at hP hS ⊢
                            have hP9 : va_P (dC, dI) classes (wR ka qa b0 g_58 a0 a1 a2 a3 a4 a5 a6 a7 a8 a9 g_73 g_74 g_59) H := hP
                            exact W.iret (v := (f_R_withCode a9 x7 p4)) hx hb hr (fun t ht hW => ⟨⟨(f_R_withCode a9 x7 p4), (g_58, g_73, g_74, g_59), rfl, ⟨by subst hg_47; subst hg_58; subst hg_59; subst hx6; subst hg_73; subst hg_74; subst hx7; unfold f_R_invoke; rw [if_neg c_1, if_neg c_2, if_neg c_3, if_neg c_4, if_neg c_5, if_pos c_42, if_neg c_48, if_pos c_50]; unfold f_R_invoke_c4; unfold f_R_invoke_c5; rw [if_pos c_60, if_pos c_63, if_neg c_65]; unfold f_R_invoke_c6; rw [if_pos c_75, if_pos c_77], (pr2 (by subst hg_47; subst hg_58; subst hg_59; subst hx6; subst hg_73; subst hg_74; subst hx7; unfold s_R_invoke_b1; rw [if_neg c_1, if_neg c_2, if_neg c_3, if_neg c_4, if_neg c_5, if_pos c_42, if_neg c_48, if_pos c_50]; unfold s_R_invoke_b1_c4; unfold s_R_invoke_b1_c5; rw [if_pos c_60, if_pos c_63, if_neg c_65]; unfold s_R_invoke_b1_c6; rw [if_pos c_75, if_pos c_77]) (pr2 (by subst hg_47; subst hg_58; subst hg_59; subst hx6; subst hg_73; subst hg_74; subst hx7; unfold s_R_invoke_a10; rw [if_neg c_1, if_neg c_2, if_neg c_3, if_neg c_4, if_neg c_5, if_pos c_42, if_neg c_48, if_pos c_50]; unfold s_R_invoke_a10_c4; unfold s_R_invoke_a10_c5; rw [if_pos c_60, if_pos c_63, if_neg c_65]; unfold s_R_invoke_a10_c6; rw [if_pos c_75, if_pos c_77]) (pr2 (by subst hg_47; subst hg_58; subst hg_59; subst hx6; subst hg_73; subst hg_74; subst hx7; unfold s_R_invoke_a11; rw [if_neg c_1, if_neg c_2, if_neg c_3, if_neg c_4, if_neg c_5, if_pos c_42, if_neg c_48, if_pos c_50]; unfold s_R_invoke_a11_c4; unfold s_R_invoke_a11_c5; rw [if_pos c_60, if_pos c_63, if_neg c_65]; unfold s_R_invoke_a11_c6; rw [if_pos c_75, if_pos c_77]) (by subst hg_47; subst hg_58; subst hg_59; subst hx6; subst hg_73; subst hg_74; subst hx7; unfold s_R_invoke_a12; rw [if_neg c_1, if_neg c_2, if_neg c_3, if_neg c_4, if_neg c_5, if_pos c_42, if_neg c_48, if_pos c_50]; unfold s_R_invoke_a12_c4; unfold s_R_invoke_a12_c5; rw [if_pos c_60, if_pos c_63, if_neg c_65]; unfold s_R_invoke_a12_c6; rw [if_pos c_75, if_pos c_77]))))⟩, hp_at ht hP9⟩, hS.F ht⟩) hS.2.2 d_R_invoke_280
                          · have c_77 : ¬ (((a9 (((4 : Int32) * x7) + p4).toNatClampNeg) &&& (3 : Int32)) = (0 : Int32)) := c_77
                            refine lv_iload hx hb d_R_invoke_263 (lv_at hl 0 rfl) ?_
                            refine lv_iconst (v := (3 : Int32)) hx hb d_R_invoke_265 (by decide +kernel) ?_
                            refine lv_icmp_eq (tgt := 272) hx hb d_R_invoke_266 (by decide) (fun c_80 => ?_) (fun c_80 => ?_)
                            · have c_80 : ((a9 (((4 : Int32) * x7) + p4).toNatClampNeg) &&& (3 : Int32)) = (3 : Int32) := c_80
                              refine lv_aload_n hx hb d_R_invoke_272 rfl (lv_at hl 3 rfl) ?_
                              refine lv_iload hx hb d_R_invoke_273 (lv_at hl 1 rfl) ?_
                              refine lv_iload hx hb d_R_invoke_275 (lv_at hl 7 rfl) ?_
                              have hq_81 : ¬ x7 ≤ (0 : Int32) → vp_in x7 13 := by exact fun _ => hx7i
                              have hq_82 : vp_in p4 4 := by first | with_reducible assumption | exact jn_name (by with_reducible assumption)
                              refine va_calli (va_runV (As := [.int x7, .int p4]) (rest := []) ⟨hx, hb, hml, hown, hts⟩ (c_R_withCode l dC dI ka qa H.size b0 g_58 a0 a1 a2 a3 a4 a5 a6 a7 a8 a9 g_73 g_74 g_59 x7 p4 hq_81 hq_82) (cwV 2 hts k_g85 rfl rfl rfl (by decide +kernel) ⟨Nat.le_of_ble_eq_true rfl, Nat.le_of_ble_eq_true rfl⟩) ⟨fb_ro, va_recv hK hP (ci := 3) (q0 := 0) rfl rfl, fun U hU hW => ⟨rfl, by rw [hU], by rw [hU]; exact hP, va_K.moved hW.alike (hK), NX.warm hW hN⟩⟩ rfl rfl hl.1 rfl (lv_room (Nat.le_of_ble_eq_true rfl)) d_R_invoke_277 ⟨Nat.zero_le _, Nat.zero_le _⟩) hS (fun z h1 h2 => absurd h1 (Nat.not_lt.mpr h2)) (fun z h => hA z (Nat.le_trans hS.1 h)) (fun r u t H1 locs ht hvm hpo hB hz1 hk1 hS => ?_)
                              subst hpo
                              have hP := kp_P hP hk1
                              generalize H1 = H at hP hS ⊢
                              have hP9 : va_P (dC, dI) classes (wR ka qa b0 g_58 a0 a1 a2 a3 a4 a5 a6 a7 a8 a9 g_73 g_74 g_59) H := hP
                              exact W.iret (v := (f_R_withCode a9 x7 p4)) hx hb hr (fun t ht hW => ⟨⟨(f_R_withCode a9 x7 p4), (g_58, g_73, g_74, g_59), rfl, ⟨by subst hg_47; subst hg_58; subst hg_59; subst hx6; subst hg_73; subst hg_74; subst hx7; unfold f_R_invoke; rw [if_neg c_1, if_neg c_2, if_neg c_3, if_neg c_4, if_neg c_5, if_pos c_42, if_neg c_48, if_pos c_50]; unfold f_R_invoke_c4; unfold f_R_invoke_c5; rw [if_pos c_60, if_pos c_63, if_neg c_65]; unfold f_R_invoke_c6; rw [if_pos c_75, if_neg c_77, if_pos c_80], (pr2 (by subst hg_47; subst hg_58; subst hg_59; subst hx6; subst hg_73; subst hg_74; subst hx7; unfold s_R_invoke_b1; rw [if_neg c_1, if_neg c_2, if_neg c_3, if_neg c_4, if_neg c_5, if_pos c_42, if_neg c_48, if_pos c_50]; unfold s_R_invoke_b1_c4; unfold s_R_invoke_b1_c5; rw [if_pos c_60, if_pos c_63, if_neg c_65]; unfold s_R_invoke_b1_c6; rw [if_pos c_75, if_neg c_77, if_pos c_80]) (pr2 (by subst hg_47; subst hg_58; subst hg_59; subst hx6; subst hg_73; subst hg_74; subst hx7; unfold s_R_invoke_a10; rw [if_neg c_1, if_neg c_2, if_neg c_3, if_neg c_4, if_neg c_5, if_pos c_42, if_neg c_48, if_pos c_50]; unfold s_R_invoke_a10_c4; unfold s_R_invoke_a10_c5; rw [if_pos c_60, if_pos c_63, if_neg c_65]; unfold s_R_invoke_a10_c6; rw [if_pos c_75, if_neg c_77, if_pos c_80]) (pr2 (by subst hg_47; subst hg_58; subst hg_59; subst hx6; subst hg_73; subst hg_74; subst hx7; unfold s_R_invoke_a11; rw [if_neg c_1, if_neg c_2, if_neg c_3, if_neg c_4, if_neg c_5, if_pos c_42, if_neg c_48, if_pos c_50]; unfold s_R_invoke_a11_c4; unfold s_R_invoke_a11_c5; rw [if_pos c_60, if_pos c_63, if_neg c_65]; unfold s_R_invoke_a11_c6; rw [if_pos c_75, if_neg c_77, if_pos c_80]) (by subst hg_47; subst hg_58; subst hg_59; subst hx6; subst hg_73; subst hg_74; subst hx7; unfold s_R_invoke_a12; rw [if_neg c_1, if_neg c_2, if_neg c_3, if_neg c_4, if_neg c_5, if_pos c_42, if_neg c_48, if_pos c_50]; unfold s_R_invoke_a12_c4; unfold s_R_invoke_a12_c5; rw [if_pos c_60, if_pos c_63, if_neg c_65]; unfold s_R_invoke_a12_c6; rw [if_pos c_75, if_neg c_77, if_pos c_80]))))⟩, hp_at ht hP9⟩, hS.F ht⟩) hS.2.2 d_R_invoke_280
                            · have c_80 : ¬ (((a9 (((4 : Int32) * x7) + p4).toNatClampNeg) &&& (3 : Int32)) = (3 : Int32)) := c_80
                              refine lv_bipush (v := (-5 : Int32)) hx hb d_R_invoke_269 (by decide +kernel) ?_
                              have hP9 : va_P (dC, dI) classes (wR ka qa b0 g_58 a0 a1 a2 a3 a4 a5 a6 a7 a8 a9 g_73 g_74 g_59) H := hP
                              exact W.iret (v := (-5 : Int32)) hx hb hr (fun t ht hW => ⟨⟨(-5 : Int32), (g_58, g_73, g_74, g_59), rfl, ⟨by subst hg_47; subst hg_58; subst hg_59; subst hx6; subst hg_73; subst hg_74; subst hx7; unfold f_R_invoke; rw [if_neg c_1, if_neg c_2, if_neg c_3, if_neg c_4, if_neg c_5, if_pos c_42, if_neg c_48, if_pos c_50]; unfold f_R_invoke_c4; unfold f_R_invoke_c5; rw [if_pos c_60, if_pos c_63, if_neg c_65]; unfold f_R_invoke_c6; rw [if_pos c_75, if_neg c_77, if_neg c_80], (pr2 (by subst hg_47; subst hg_58; subst hg_59; subst hx6; subst hg_73; subst hg_74; subst hx7; unfold s_R_invoke_b1; rw [if_neg c_1, if_neg c_2, if_neg c_3, if_neg c_4, if_neg c_5, if_pos c_42, if_neg c_48, if_pos c_50]; unfold s_R_invoke_b1_c4; unfold s_R_invoke_b1_c5; rw [if_pos c_60, if_pos c_63, if_neg c_65]; unfold s_R_invoke_b1_c6; rw [if_pos c_75, if_neg c_77, if_neg c_80]) (pr2 (by subst hg_47; subst hg_58; subst hg_59; subst hx6; subst hg_73; subst hg_74; subst hx7; unfold s_R_invoke_a10; rw [if_neg c_1, if_neg c_2, if_neg c_3, if_neg c_4, if_neg c_5, if_pos c_42, if_neg c_48, if_pos c_50]; unfold s_R_invoke_a10_c4; unfold s_R_invoke_a10_c5; rw [if_pos c_60, if_pos c_63, if_neg c_65]; unfold s_R_invoke_a10_c6; rw [if_pos c_75, if_neg c_77, if_neg c_80]) (pr2 (by subst hg_47; subst hg_58; subst hg_59; subst hx6; subst hg_73; subst hg_74; subst hx7; unfold s_R_invoke_a11; rw [if_neg c_1, if_neg c_2, if_neg c_3, if_neg c_4, if_neg c_5, if_pos c_42, if_neg c_48, if_pos c_50]; unfold s_R_invoke_a11_c4; unfold s_R_invoke_a11_c5; rw [if_pos c_60, if_pos c_63, if_neg c_65]; unfold s_R_invoke_a11_c6; rw [if_pos c_75, if_neg c_77, if_neg c_80]) (by subst hg_47; subst hg_58; subst hg_59; subst hx6; subst hg_73; subst hg_74; subst hx7; unfold s_R_invoke_a12; rw [if_neg c_1, if_neg c_2, if_neg c_3, if_neg c_4, if_neg c_5, if_pos c_42, if_neg c_48, if_pos c_50]; unfold s_R_invoke_a12_c4; unfold s_R_invoke_a12_c5; rw [if_pos c_60, if_pos c_63, if_neg c_65]; unfold s_R_invoke_a12_c6; rw [if_pos c_75, if_neg c_77, if_neg c_80]))))⟩, hp_at ht hP9⟩, hS.F ht⟩) hS.2.2 d_R_invoke_271
                        · have c_75 : ¬ ((0 : Int32) ≤ x7) := c_75
                          refine lv_iload hx hb d_R_invoke_234 (lv_at hl 0 rfl) ?_
                          have hP9 : va_P (dC, dI) classes (wR ka qa b0 g_58 a0 a1 a2 a3 a4 a5 a6 a7 a8 a9 g_73 g_74 g_59) H := hP
                          exact W.iret (v := x7) hx hb hr (fun t ht hW => ⟨⟨x7, (g_58, g_73, g_74, g_59), rfl, ⟨by subst hg_47; subst hg_58; subst hg_59; subst hx6; subst hg_73; subst hg_74; subst hx7; unfold f_R_invoke; rw [if_neg c_1, if_neg c_2, if_neg c_3, if_neg c_4, if_neg c_5, if_pos c_42, if_neg c_48, if_pos c_50]; unfold f_R_invoke_c4; unfold f_R_invoke_c5; rw [if_pos c_60, if_pos c_63, if_neg c_65]; unfold f_R_invoke_c6; rw [if_neg c_75], (pr2 (by subst hg_47; subst hg_58; subst hg_59; subst hx6; subst hg_73; subst hg_74; subst hx7; unfold s_R_invoke_b1; rw [if_neg c_1, if_neg c_2, if_neg c_3, if_neg c_4, if_neg c_5, if_pos c_42, if_neg c_48, if_pos c_50]; unfold s_R_invoke_b1_c4; unfold s_R_invoke_b1_c5; rw [if_pos c_60, if_pos c_63, if_neg c_65]; unfold s_R_invoke_b1_c6; rw [if_neg c_75]) (pr2 (by subst hg_47; subst hg_58; subst hg_59; subst hx6; subst hg_73; subst hg_74; subst hx7; unfold s_R_invoke_a10; rw [if_neg c_1, if_neg c_2, if_neg c_3, if_neg c_4, if_neg c_5, if_pos c_42, if_neg c_48, if_pos c_50]; unfold s_R_invoke_a10_c4; unfold s_R_invoke_a10_c5; rw [if_pos c_60, if_pos c_63, if_neg c_65]; unfold s_R_invoke_a10_c6; rw [if_neg c_75]) (pr2 (by subst hg_47; subst hg_58; subst hg_59; subst hx6; subst hg_73; subst hg_74; subst hx7; unfold s_R_invoke_a11; rw [if_neg c_1, if_neg c_2, if_neg c_3, if_neg c_4, if_neg c_5, if_pos c_42, if_neg c_48, if_pos c_50]; unfold s_R_invoke_a11_c4; unfold s_R_invoke_a11_c5; rw [if_pos c_60, if_pos c_63, if_neg c_65]; unfold s_R_invoke_a11_c6; rw [if_neg c_75]) (by subst hg_47; subst hg_58; subst hg_59; subst hx6; subst hg_73; subst hg_74; subst hx7; unfold s_R_invoke_a12; rw [if_neg c_1, if_neg c_2, if_neg c_3, if_neg c_4, if_neg c_5, if_pos c_42, if_neg c_48, if_pos c_50]; unfold s_R_invoke_a12_c4; unfold s_R_invoke_a12_c5; rw [if_pos c_60, if_pos c_63, if_neg c_65]; unfold s_R_invoke_a12_c6; rw [if_neg c_75]))))⟩, hp_at ht hP9⟩, hS.F ht⟩) hS.2.2 d_R_invoke_236
                      · have c_65 : (f_R_is g_47 p5 x6) = (0 : Int32) := c_65
                        refine lv_bipush (v := (-6 : Int32)) hx hb d_R_invoke_214 (by decide +kernel) ?_
                        have hP9 : va_P (dC, dI) classes (wR ka qa b0 g_58 a0 a1 a2 a3 a4 a5 a6 a7 a8 a9 g_47 a11 g_59) H := hP
                        exact W.iret (v := (-6 : Int32)) hx hb hr (fun t ht hW => ⟨⟨(-6 : Int32), (g_58, g_47, a11, g_59), rfl, ⟨by subst hg_47; subst hg_58; subst hg_59; subst hx6; unfold f_R_invoke; rw [if_neg c_1, if_neg c_2, if_neg c_3, if_neg c_4, if_neg c_5, if_pos c_42, if_neg c_48, if_pos c_50]; unfold f_R_invoke_c4; unfold f_R_invoke_c5; rw [if_pos c_60, if_pos c_63, if_pos c_65], (pr2 (by subst hg_47; subst hg_58; subst hg_59; subst hx6; unfold s_R_invoke_b1; rw [if_neg c_1, if_neg c_2, if_neg c_3, if_neg c_4, if_neg c_5, if_pos c_42, if_neg c_48, if_pos c_50]; unfold s_R_invoke_b1_c4; unfold s_R_invoke_b1_c5; rw [if_pos c_60, if_pos c_63, if_pos c_65]) (pr2 (by subst hg_47; subst hg_58; subst hg_59; subst hx6; unfold s_R_invoke_a10; rw [if_neg c_1, if_neg c_2, if_neg c_3, if_neg c_4, if_neg c_5, if_pos c_42, if_neg c_48, if_pos c_50]; unfold s_R_invoke_a10_c4; unfold s_R_invoke_a10_c5; rw [if_pos c_60, if_pos c_63, if_pos c_65]) (pr2 (by subst hg_47; subst hg_58; subst hg_59; subst hx6; unfold s_R_invoke_a11; rw [if_neg c_1, if_neg c_2, if_neg c_3, if_neg c_4, if_neg c_5, if_pos c_42, if_neg c_48, if_pos c_50]; unfold s_R_invoke_a11_c4; unfold s_R_invoke_a11_c5; rw [if_pos c_60, if_pos c_63, if_pos c_65]) (by subst hg_47; subst hg_58; subst hg_59; subst hx6; unfold s_R_invoke_a12; rw [if_neg c_1, if_neg c_2, if_neg c_3, if_neg c_4, if_neg c_5, if_pos c_42, if_neg c_48, if_pos c_50]; unfold s_R_invoke_a12_c4; unfold s_R_invoke_a12_c5; rw [if_pos c_60, if_pos c_63, if_pos c_65]))))⟩, hp_at ht hP9⟩, hS.F ht⟩) hS.2.2 d_R_invoke_216
                    · have c_63 : ¬ ((f_R_isStatic a9 x6 p4) = (0 : Int32)) := c_63
                      refine lv_bipush (v := (-6 : Int32)) hx hb d_R_invoke_173 (by decide +kernel) ?_
                      have hP9 : va_P (dC, dI) classes (wR ka qa b0 g_58 a0 a1 a2 a3 a4 a5 a6 a7 a8 a9 g_47 a11 g_59) H := hP
                      exact W.iret (v := (-6 : Int32)) hx hb hr (fun t ht hW => ⟨⟨(-6 : Int32), (g_58, g_47, a11, g_59), rfl, ⟨by subst hg_47; subst hg_58; subst hg_59; subst hx6; unfold f_R_invoke; rw [if_neg c_1, if_neg c_2, if_neg c_3, if_neg c_4, if_neg c_5, if_pos c_42, if_neg c_48, if_pos c_50]; unfold f_R_invoke_c4; unfold f_R_invoke_c5; rw [if_pos c_60, if_neg c_63], (pr2 (by subst hg_47; subst hg_58; subst hg_59; subst hx6; unfold s_R_invoke_b1; rw [if_neg c_1, if_neg c_2, if_neg c_3, if_neg c_4, if_neg c_5, if_pos c_42, if_neg c_48, if_pos c_50]; unfold s_R_invoke_b1_c4; unfold s_R_invoke_b1_c5; rw [if_pos c_60, if_neg c_63]) (pr2 (by subst hg_47; subst hg_58; subst hg_59; subst hx6; unfold s_R_invoke_a10; rw [if_neg c_1, if_neg c_2, if_neg c_3, if_neg c_4, if_neg c_5, if_pos c_42, if_neg c_48, if_pos c_50]; unfold s_R_invoke_a10_c4; unfold s_R_invoke_a10_c5; rw [if_pos c_60, if_neg c_63]) (pr2 (by subst hg_47; subst hg_58; subst hg_59; subst hx6; unfold s_R_invoke_a11; rw [if_neg c_1, if_neg c_2, if_neg c_3, if_neg c_4, if_neg c_5, if_pos c_42, if_neg c_48, if_pos c_50]; unfold s_R_invoke_a11_c4; unfold s_R_invoke_a11_c5; rw [if_pos c_60, if_neg c_63]) (by subst hg_47; subst hg_58; subst hg_59; subst hx6; unfold s_R_invoke_a12; rw [if_neg c_1, if_neg c_2, if_neg c_3, if_neg c_4, if_neg c_5, if_pos c_42, if_neg c_48, if_pos c_50]; unfold s_R_invoke_a12_c4; unfold s_R_invoke_a12_c5; rw [if_pos c_60, if_neg c_63]))))⟩, hp_at ht hP9⟩, hS.F ht⟩) hS.2.2 d_R_invoke_175
                  · have c_60 : ¬ ((0 : Int32) ≤ x6) := c_60
                    refine lv_iload hx hb d_R_invoke_149 (lv_at hl 0 rfl) ?_
                    have hP9 : va_P (dC, dI) classes (wR ka qa b0 g_58 a0 a1 a2 a3 a4 a5 a6 a7 a8 a9 g_47 a11 g_59) H := hP
                    exact W.iret (v := x6) hx hb hr (fun t ht hW => ⟨⟨x6, (g_58, g_47, a11, g_59), rfl, ⟨by subst hg_47; subst hg_58; subst hg_59; subst hx6; unfold f_R_invoke; rw [if_neg c_1, if_neg c_2, if_neg c_3, if_neg c_4, if_neg c_5, if_pos c_42, if_neg c_48, if_pos c_50]; unfold f_R_invoke_c4; unfold f_R_invoke_c5; rw [if_neg c_60], (pr2 (by subst hg_47; subst hg_58; subst hg_59; subst hx6; unfold s_R_invoke_b1; rw [if_neg c_1, if_neg c_2, if_neg c_3, if_neg c_4, if_neg c_5, if_pos c_42, if_neg c_48, if_pos c_50]; unfold s_R_invoke_b1_c4; unfold s_R_invoke_b1_c5; rw [if_neg c_60]) (pr2 (by subst hg_47; subst hg_58; subst hg_59; subst hx6; unfold s_R_invoke_a10; rw [if_neg c_1, if_neg c_2, if_neg c_3, if_neg c_4, if_neg c_5, if_pos c_42, if_neg c_48, if_pos c_50]; unfold s_R_invoke_a10_c4; unfold s_R_invoke_a10_c5; rw [if_neg c_60]) (pr2 (by subst hg_47; subst hg_58; subst hg_59; subst hx6; unfold s_R_invoke_a11; rw [if_neg c_1, if_neg c_2, if_neg c_3, if_neg c_4, if_neg c_5, if_pos c_42, if_neg c_48, if_pos c_50]; unfold s_R_invoke_a11_c4; unfold s_R_invoke_a11_c5; rw [if_neg c_60]) (by subst hg_47; subst hg_58; subst hg_59; subst hx6; unfold s_R_invoke_a12; rw [if_neg c_1, if_neg c_2, if_neg c_3, if_neg c_4, if_neg c_5, if_pos c_42, if_neg c_48, if_pos c_50]; unfold s_R_invoke_a12_c4; unfold s_R_invoke_a12_c5; rw [if_neg c_60]))))⟩, hp_at ht hP9⟩, hS.F ht⟩) hS.2.2 d_R_invoke_151
            · skip
              by_cases c_83 : p1 = (2 : Int32)
              · skip
                refine lv_aload_n hx hb d_R_invoke_37 rfl (lv_at hl 0 rfl) ?_
                have hq_84 : vT b0 := by with_reducible assumption
                have hq_85 : vPar a4 := by with_reducible assumption
                have hq_86 : vDir a6 := by with_reducible assumption
                have hq_87 : vDc a7 := by with_reducible assumption
                have hFc := va_free (wc := (wR ka qa b0 b1 a0 a1 a2 a3 a4 a5 a6 a7 a8 a9 a10 a11 a12)) hD hS hA [0, 1, 2, 3, 4, 5, 6, 7, 8, 9, 10, 11, 12, 13] rfl
                refine va_callv (va_runV (As := []) (rest := []) ⟨hx, hb, hml, hown, hts⟩ (c_R_closeAbove l dC dI ka qa H.size b0 b1 a0 a1 a2 a3 a4 a5 a6 a7 a8 a9 a10 a11 a12  hq_84 hq_85 hq_86 hq_87) (cwV 0 hts k_g81 rfl rfl rfl (by decide +kernel) ⟨Nat.le_of_ble_eq_true rfl, Nat.le_of_ble_eq_true rfl⟩) ⟨fb_mu, va_recv hK hP (ci := 3) (q0 := 0) rfl rfl, fun U hU hW => ⟨rfl, by rw [hU], by rw [hU]; exact hP, va_K.moved hW.alike hK, NX.warm hW hN, hD.weaken (fun _ _ _ _ => trivial)⟩⟩ rfl rfl hl.1 rfl (lv_room (Nat.le_of_ble_eq_true rfl)) d_R_invoke_38 ⟨Nat.zero_le _, Nat.zero_le _⟩) hS (fun q _ h => hFc q h) hFc (fun u t H1 locs ht hvm hpo hB hz1 hk1 hS => ?_)
                subst hpo
                have hP : va_P (dC, dI) classes (wR ka qa b0 b1 a0 a1 a2 a3 a4 a5 a6 a7 a8 a9 (s_R_closeAbove_a10 b0 a4 a6 a7 a10) a11 a12) H1 := hp_to ht hB
                have hD : va_D A (wR ka qa b0 b1 a0 a1 a2 a3 a4 a5 a6 a7 a8 a9 (s_R_closeAbove_a10 b0 a4 a6 a7 a10) a11 a12) := ad_R hD
                generalize hg_88 : (s_R_closeAbove_a10 b0 a4 a6 a7 a10) = g_88 at hP hD
                generalize H1 = H at hP hS ⊢
                refine lv_iload_n hx hb d_R_invoke_41 rfl (lv_at hl 1 rfl) ?_
                refine lv_iconst (v := (2 : Int32)) hx hb d_R_invoke_42 (by decide +kernel) ?_
                refine lv_icmp_ge (tgt := 65) hx hb d_R_invoke_43 (by decide) (fun _ => ?_) (fun h => by rw [c_83] at h; exact absurd h (by decide +kernel))
                refine lv_iload_n hx hb d_R_invoke_65 rfl (lv_at hl 1 rfl) ?_
                refine lv_iconst (v := (1 : Int32)) hx hb d_R_invoke_66 (by decide +kernel) ?_
                refine lv_icmp_le (tgt := 77) hx hb d_R_invoke_67 (by decide) (fun h => by rw [c_83] at h; exact absurd h (by decide +kernel)) (fun _ => ?_)
                refine lv_iload hx hb d_R_invoke_70 (lv_at hl 5 rfl) ?_
                refine lv_if_eq (tgt := 77) hx hb d_R_invoke_72 (by decide) (fun c_89 => ?_) (fun c_89 => ?_)
                · have c_89 : p5 = (0 : Int32) := c_89
                  refine lv_iload_n hx hb d_R_invoke_77 rfl (lv_at hl 1 rfl) ?_
                  refine lv_if_ne (tgt := 91) hx hb d_R_invoke_78 (by decide) (fun _ => ?_) (fun h => by rw [c_83] at h; exact absurd h (by decide +kernel))
                  refine lv_iload_n hx hb d_R_invoke_91 rfl (lv_at hl 1 rfl) ?_
                  refine lv_iconst (v := (2 : Int32)) hx hb d_R_invoke_92 (by decide +kernel) ?_
                  refine lv_icmp_ne (tgt := 107) hx hb d_R_invoke_93 (by decide) (fun h => by rw [c_83] at h; exact absurd h (by decide +kernel)) (fun _ => ?_)
                  refine lv_aload_n hx hb d_R_invoke_96 rfl (lv_at hl 0 rfl) ?_
                  refine lv_iload_n hx hb d_R_invoke_97 rfl (lv_at hl 3 rfl) ?_
                  refine lv_iload_n hx hb d_R_invoke_98 rfl (lv_at hl 2 rfl) ?_
                  have hq_90 : vp_in p3 13 := by first | with_reducible assumption | exact rin_has hT (by with_reducible assumption)
                  refine va_calli (va_runV (As := [.int p3, .int p2]) (rest := []) ⟨hx, hb, hml, hown, hts⟩ (c_R_is l dC dI ka qa H.size b0 b1 a0 a1 a2 a3 a4 a5 a6 a7 a8 a9 g_88 a11 a12 p3 p2 hq_90) (cwV 2 hts k_g70 rfl rfl rfl (by decide +kernel) ⟨Nat.le_of_ble_eq_true rfl, Nat.le_of_ble_eq_true rfl⟩) ⟨fb_ro, va_recv hK hP (ci := 3) (q0 := 0) rfl rfl, fun U hU hW => ⟨rfl, by rw [hU], by rw [hU]; exact hP, va_K.moved hW.alike (hK), NX.warm hW hN⟩⟩ rfl rfl hl.1 rfl (lv_room (Nat.le_of_ble_eq_true rfl)) d_R_invoke_99 ⟨Nat.zero_le _, Nat.zero_le _⟩) hS (fun z h1 h2 => absurd h1 (Nat.not_lt.mpr h2)) (fun z h => hA z (Nat.le_trans hS.1 h)) (fun r u t H1 locs ht hvm hpo hB hz1 hk1 hS => ?_)
                  subst hpo
                  have hP := kp_P hP hk1
                  generalize H1 = H at hP hS ⊢
                  refine lv_if_ne (tgt := 107) hx hb d_R_invoke_102 (by decide) (fun c_91 => ?_) (fun c_91 => ?_)
                  · have c_91 : ¬ ((f_R_is g_88 p3 p2) = (0 : Int32)) := c_91
                    refine lv_aload_n hx hb d_R_invoke_107 rfl (lv_at hl 0 rfl) ?_
                    refine lv_iload_n hx hb d_R_invoke_108 rfl (lv_at hl 1 rfl) ?_
                    refine lv_if_ne (tgt := 116) hx hb d_R_invoke_109 (by decide) (fun _ => ?_) (fun h => by rw [c_83] at h; exact absurd h (by decide +kernel))
                    refine lv_iload_n hx hb d_R_invoke_116 rfl (lv_at hl 1 rfl) ?_
                    refine lv_iconst (v := (1 : Int32)) hx hb d_R_invoke_117 (by decide +kernel) ?_
                    refine lv_icmp_eq (tgt := 130) hx hb d_R_invoke_118 (by decide) (fun h => by rw [c_83] at h; exact absurd h (by decide +kernel)) (fun _ => ?_)
                    refine lv_aload_n hx hb d_R_invoke_121 rfl (lv_at hl 0 rfl) ?_
                    refine va_get (D := (dC, dI)) (ci := 3) (v := .ref (qa 1)) (C := R_R) (T := F_R) (N := 15) hx hb hts i_R hown hK hP 0 rfl rfl 1 (by decide) (hts _ k_52) (fun _ h9 => h9) rfl d_R_invoke_122 ?_
                    refine lv_iload_n hx hb d_R_invoke_125 rfl (lv_at hl 2 rfl) ?_
                    have hi_92 : vp_in p2 13 := by first | with_reducible assumption | exact rin_has hT (by with_reducible assumption)
                    refine va_zald (D := (dC, dI)) (f := a0) hx hb hK hP 1 0 rfl rfl hi_92 d_R_invoke_126 ?_
                    refine lv_if_eq (tgt := 134) hx hb d_R_invoke_127 (by decide) (fun c_93 => ?_) (fun c_93 => ?_)
                    · have c_93 : (a0 p2.toNatClampNeg) = (0 : Int32) := c_93
                      refine lv_iconst (v := (1 : Int32)) hx hb d_R_invoke_134 (by decide +kernel) ?_
                      refine lv_iload_n hx hb d_R_invoke_135 rfl (lv_at hl 3 rfl) ?_
                      refine lv_iload_n hx hb d_R_invoke_136 rfl (lv_at hl 2 rfl) ?_
                      refine lv_iload hx hb d_R_invoke_137 (lv_at hl 4 rfl) ?_
                      have hq_94 : vT b0 := by with_reducible assumption
                      have hq_95 : vPar a4 := by with_reducible assumption
                      have hq_96 : vDir a6 := by with_reducible assumption
                      have hq_97 : vDc a7 := by with_reducible assumption
                      have hq_98 : vp_in p3 13 := by first | with_reducible assumption | exact rin_has hT (by with_reducible assumption)
                      have hq_99 : vp_in p2 13 := by first | with_reducible assumption | exact rin_has hT (by with_reducible assumption)
                      have hq_100 : vp_in p4 4 := by first | with_reducible assumption | exact jn_name (by with_reducible assumption)
                      have hFc := va_free (wc := (wR ka qa b0 b1 a0 a1 a2 a3 a4 a5 a6 a7 a8 a9 g_88 a11 a12)) hD hS hA [0, 1, 2, 3, 4, 5, 6, 7, 8, 9, 10, 11, 12, 13] rfl
                      refine va_calli (va_runV (As := [.int (1 : Int32), .int p3, .int p2, .int p4]) (rest := []) ⟨hx, hb, hml, hown, hts⟩ (c_R_resolved l dC dI ka qa H.size b0 b1 a0 a1 a2 a3 a4 a5 a6 a7 a8 a9 g_88 a11 a12 (1 : Int32) p3 p2 p4 hq_94 hq_95 hq_96 hq_97 hq_98 hq_99 hq_100) (cwV 4 hts k_g90 rfl rfl rfl (by decide +kernel) ⟨Nat.le_of_ble_eq_true rfl, Nat.le_of_ble_eq_true rfl⟩) ⟨fb_mu, va_recv hK hP (ci := 3) (q0 := 0) rfl rfl, fun U hU hW => ⟨rfl, by rw [hU], by rw [hU]; exact hP, va_K.moved hW.alike hK, NX.warm hW hN, hD.weaken (fun _ _ _ _ => trivial)⟩⟩ rfl rfl hl.1 rfl (lv_room (Nat.le_of_ble_eq_true rfl)) d_R_invoke_139 ⟨Nat.zero_le _, Nat.zero_le _⟩) hS (fun q _ h => hFc q h) hFc (fun r u t H1 locs ht hvm hpo hB hz1 hk1 hS => ?_)
                      obtain ⟨rfl, rfl⟩ := hpo
                      have hP : va_P (dC, dI) classes (wR ka qa b0 (s_R_resolved_b1 b0 a0 a1 a3 a4 a5 a6 a7 a8 a9 g_88 a12 (1 : Int32) p3 p2 p4) a0 a1 a2 a3 a4 a5 a6 a7 a8 a9 g_88 a11 (s_R_resolved_a12 b0 a0 a1 a3 a4 a5 a6 a7 a8 a9 g_88 a12 (1 : Int32) p3 p2 p4)) H1 := hp_to ht hB
                      have hD : va_D A (wR ka qa b0 (s_R_resolved_b1 b0 a0 a1 a3 a4 a5 a6 a7 a8 a9 g_88 a12 (1 : Int32) p3 p2 p4) a0 a1 a2 a3 a4 a5 a6 a7 a8 a9 g_88 a11 (s_R_resolved_a12 b0 a0 a1 a3 a4 a5 a6 a7 a8 a9 g_88 a12 (1 : Int32) p3 p2 p4)) := ad_R hD
                      generalize hg_101 : (s_R_resolved_b1 b0 a0 a1 a3 a4 a5 a6 a7 a8 a9 g_88 a12 (1 : Int32) p3 p2 p4) = g_101 at hP hD
                      generalize hg_102 : (s_R_resolved_a12 b0 a0 a1 a3 a4 a5 a6 a7 a8 a9 g_88 a12 (1 : Int32) p3 p2 p4) = g_102 at hP hD
                      generalize H1 = H at hP hS ⊢
                      refine lv_topi (fun x6 hx6 => ?_)
                      refine lv_istore (lv' := [(6, .int x6), (0, .ref (qa 0)), (1, .int p1), (2, .int p2), (3, .int p3), (4, .int p4), (5, .int p5)]) hx hb d_R_invoke_142 hl (by decide) rfl (fun ls hl => ?_)
                      refine lv_iload hx hb d_R_invoke_144 (lv_at hl 0 rfl) ?_
                      refine lv_if_ge (tgt := 152) hx hb d_R_invoke_146 (by decide) (fun c_103 => ?_) (fun c_103 => ?_)
                      · have c_103 : (0 : Int32) ≤ x6 := c_103
                        have hx6i : vp_in x6 13 := by rw [hx6]; exact in_rsd hT hpa hdi hdc (by with_reducible assumption) (by rw [← hx6]; with_reducible assumption)
                        refine lv_aload_n hx hb d_R_invoke_152 rfl (lv_at hl 1 rfl) ?_
                        refine lv_iload hx hb d_R_invoke_153 (lv_at hl 0 rfl) ?_
                        refine lv_iload hx hb d_R_invoke_155 (lv_at hl 5 rfl) ?_
                        have hq_104 : vp_in x6 13 := by first | with_reducible assumption | exact in_et et (leT hT et h2 (by with_reducible assumption)) | exact in_et et h2 | exact in_et eu (leT hT eu u2 (by with_reducible assumption)) | exact in_et eu u2
                        have hq_105 : vp_in p4 4 := by first | with_reducible assumption | exact jn_name (by with_reducible assumption)
                        refine va_calli (va_runV (As := [.int x6, .int p4]) (rest := []) ⟨hx, hb, hml, hown, hts⟩ (c_R_isStatic l dC dI ka qa H.size b0 g_101 a0 a1 a2 a3 a4 a5 a6 a7 a8 a9 g_88 a11 g_102 x6 p4 hq_104 hq_105) (cwV 2 hts k_g74 rfl rfl rfl (by decide +kernel) ⟨Nat.le_of_ble_eq_true rfl, Nat.le_of_ble_eq_true rfl⟩) ⟨fb_ro, va_recv hK hP (ci := 3) (q0 := 0) rfl rfl, fun U hU hW => ⟨rfl, by rw [hU], by rw [hU]; exact hP, va_K.moved hW.alike (hK), NX.warm hW hN⟩⟩ rfl rfl hl.1 rfl (lv_room (Nat.le_of_ble_eq_true rfl)) d_R_invoke_157 ⟨Nat.zero_le _, Nat.zero_le _⟩) hS (fun z h1 h2 => absurd h1 (Nat.not_lt.mpr h2)) (fun z h => hA z (Nat.le_trans hS.1 h)) (fun r u t H1 locs ht hvm hpo hB hz1 hk1 hS => ?_)
                        subst hpo
                        have hP := kp_P hP hk1
                        generalize H1 = H at hP hS ⊢
                        refine lv_iload_n hx hb d_R_invoke_160 rfl (lv_at hl 2 rfl) ?_
                        refine lv_iconst (v := (3 : Int32)) hx hb d_R_invoke_161 (by decide +kernel) ?_
                        refine lv_icmp_ne (tgt := 169) hx hb d_R_invoke_162 (by decide) (fun _ => ?_) (fun h => by rw [c_83] at h; exact absurd h (by decide +kernel))
                        refine lv_iconst (v := (0 : Int32)) hx hb d_R_invoke_169 (by decide +kernel) ?_
                        refine lv_icmp_eq (tgt := 176) hx hb d_R_invoke_170 (by decide) (fun c_106 => ?_) (fun c_106 => ?_)
                        · have c_106 : (f_R_isStatic a9 x6 p4) = (0 : Int32) := c_106
                          refine lv_iload_n hx hb d_R_invoke_176 rfl (lv_at hl 2 rfl) ?_
                          refine lv_iconst (v := (3 : Int32)) hx hb d_R_invoke_177 (by decide +kernel) ?_
                          refine lv_icmp_ne (tgt := 184) hx hb d_R_invoke_178 (by decide) (fun _ => ?_) (fun h => by rw [c_83] at h; exact absurd h (by decide +kernel))
                          refine lv_iload_n hx hb d_R_invoke_184 rfl (lv_at hl 2 rfl) ?_
                          refine lv_iconst (v := (2 : Int32)) hx hb d_R_invoke_185 (by decide +kernel) ?_
                          refine lv_icmp_ne (tgt := 198) hx hb d_R_invoke_186 (by decide) (fun h => by rw [c_83] at h; exact absurd h (by decide +kernel)) (fun _ => ?_)
                          refine lv_aload_n hx hb d_R_invoke_189 rfl (lv_at hl 1 rfl) ?_
                          refine lv_iload_n hx hb d_R_invoke_190 rfl (lv_at hl 3 rfl) ?_
                          refine lv_iload_n hx hb d_R_invoke_191 rfl (lv_at hl 4 rfl) ?_
                          refine lv_iload hx hb d_R_invoke_192 (lv_at hl 5 rfl) ?_
                          have hq_107 : vT b0 := by with_reducible assumption
                          have hq_108 : vPar a4 := by with_reducible assumption
                          have hq_109 : vp_in p2 13 := by first | with_reducible assumption | exact rin_has hT (by with_reducible assumption)
                          have hq_110 : vp_in p3 13 := by first | with_reducible assumption | exact rin_has hT (by with_reducible assumption)
                          have hq_111 : vp_in p4 4 := by first | with_reducible assumption | exact jn_name (by with_reducible assumption)
                          refine va_calli (va_runV (As := [.int p2, .int p3, .int p4]) (rest := []) ⟨hx, hb, hml, hown, hts⟩ (c_R_special l dC dI ka qa H.size b0 g_101 a0 a1 a2 a3 a4 a5 a6 a7 a8 a9 g_88 a11 g_102 p2 p3 p4 hq_107 hq_108 hq_109 hq_110 hq_111) (cwV 3 hts k_g92 rfl rfl rfl (by decide +kernel) ⟨Nat.le_of_ble_eq_true rfl, Nat.le_of_ble_eq_true rfl⟩) ⟨fb_ro, va_recv hK hP (ci := 3) (q0 := 0) rfl rfl, fun U hU hW => ⟨rfl, by rw [hU], by rw [hU]; exact hP, va_K.moved hW.alike (hK), NX.warm hW hN⟩⟩ rfl rfl hl.1 rfl (lv_room (Nat.le_of_ble_eq_true rfl)) d_R_invoke_194 ⟨Nat.zero_le _, Nat.zero_le _⟩) hS (fun z h1 h2 => absurd h1 (Nat.not_lt.mpr h2)) (fun z h => hA z (Nat.le_trans hS.1 h)) (fun r u t H1 locs ht hvm hpo hB hz1 hk1 hS => ?_)
                          subst hpo
                          have hP := kp_P hP hk1
                          generalize H1 = H at hP hS ⊢
                          have hP9 : va_P (dC, dI) classes (wR ka qa b0 g_101 a0 a1 a2 a3 a4 a5 a6 a7 a8 a9 g_88 a11 g_102) H := hP
                          exact W.iret (v := (f_R_special b0 a0 a4 a9 g_88 p2 p3 p4)) hx hb hr (fun t ht hW => ⟨⟨(f_R_special b0 a0 a4 a9 g_88 p2 p3 p4), (g_101, g_88, a11, g_102), rfl, ⟨by subst hg_88; subst hg_101; subst hg_102; subst hx6; unfold f_R_invoke; rw [if_neg c_1, if_neg c_2, if_neg c_3, if_neg c_4, if_neg c_5, if_neg c_42, if_pos c_83, if_pos c_89, if_neg c_91]; unfold f_R_invoke_c7; rw [if_pos c_93]; unfold f_R_invoke_c8; rw [if_pos c_103, if_pos c_106], (pr2 (by subst hg_88; subst hg_101; subst hg_102; subst hx6; unfold s_R_invoke_b1; rw [if_neg c_1, if_neg c_2, if_neg c_3, if_neg c_4, if_neg c_5, if_neg c_42, if_pos c_83, if_pos c_89, if_neg c_91]; unfold s_R_invoke_b1_c7; rw [if_pos c_93]; unfold s_R_invoke_b1_c8; rw [if_pos c_103, if_pos c_106]) (pr2 (by subst hg_88; subst hg_101; subst hg_102; subst hx6; unfold s_R_invoke_a10; rw [if_neg c_1, if_neg c_2, if_neg c_3, if_neg c_4, if_neg c_5, if_neg c_42, if_pos c_83, if_pos c_89, if_neg c_91]; unfold s_R_invoke_a10_c7; rw [if_pos c_93]; unfold s_R_invoke_a10_c8; rw [if_pos c_103, if_pos c_106]) (pr2 (by subst hg_88; subst hg_101; subst hg_102; subst hx6; unfold s_R_invoke_a11; rw [if_neg c_1, if_neg c_2, if_neg c_3, if_neg c_4, if_neg c_5, if_neg c_42, if_pos c_83, if_pos c_89, if_neg c_91]; unfold s_R_invoke_a11_c7; rw [if_pos c_93]; unfold s_R_invoke_a11_c8; rw [if_pos c_103, if_pos c_106]) (by subst hg_88; subst hg_101; subst hg_102; subst hx6; unfold s_R_invoke_a12; rw [if_neg c_1, if_neg c_2, if_neg c_3, if_neg c_4, if_neg c_5, if_neg c_42, if_pos c_83, if_pos c_89, if_neg c_91]; unfold s_R_invoke_a12_c7; rw [if_pos c_93]; unfold s_R_invoke_a12_c8; rw [if_pos c_103, if_pos c_106]))))⟩, hp_at ht hP9⟩, hS.F ht⟩) hS.2.2 d_R_invoke_197
                        · have c_106 : ¬ ((f_R_isStatic a9 x6 p4) = (0 : Int32)) := c_106
                          refine lv_bipush (v := (-6 : Int32)) hx hb d_R_invoke_173 (by decide +kernel) ?_
                          have hP9 : va_P (dC, dI) classes (wR ka qa b0 g_101 a0 a1 a2 a3 a4 a5 a6 a7 a8 a9 g_88 a11 g_102) H := hP
                          exact W.iret (v := (-6 : Int32)) hx hb hr (fun t ht hW => ⟨⟨(-6 : Int32), (g_101, g_88, a11, g_102), rfl, ⟨by subst hg_88; subst hg_101; subst hg_102; subst hx6; unfold f_R_invoke; rw [if_neg c_1, if_neg c_2, if_neg c_3, if_neg c_4, if_neg c_5, if_neg c_42, if_pos c_83, if_pos c_89, if_neg c_91]; unfold f_R_invoke_c7; rw [if_pos c_93]; unfold f_R_invoke_c8; rw [if_pos c_103, if_neg c_106], (pr2 (by subst hg_88; subst hg_101; subst hg_102; subst hx6; unfold s_R_invoke_b1; rw [if_neg c_1, if_neg c_2, if_neg c_3, if_neg c_4, if_neg c_5, if_neg c_42, if_pos c_83, if_pos c_89, if_neg c_91]; unfold s_R_invoke_b1_c7; rw [if_pos c_93]; unfold s_R_invoke_b1_c8; rw [if_pos c_103, if_neg c_106]) (pr2 (by subst hg_88; subst hg_101; subst hg_102; subst hx6; unfold s_R_invoke_a10; rw [if_neg c_1, if_neg c_2, if_neg c_3, if_neg c_4, if_neg c_5, if_neg c_42, if_pos c_83, if_pos c_89, if_neg c_91]; unfold s_R_invoke_a10_c7; rw [if_pos c_93]; unfold s_R_invoke_a10_c8; rw [if_pos c_103, if_neg c_106]) (pr2 (by subst hg_88; subst hg_101; subst hg_102; subst hx6; unfold s_R_invoke_a11; rw [if_neg c_1, if_neg c_2, if_neg c_3, if_neg c_4, if_neg c_5, if_neg c_42, if_pos c_83, if_pos c_89, if_neg c_91]; unfold s_R_invoke_a11_c7; rw [if_pos c_93]; unfold s_R_invoke_a11_c8; rw [if_pos c_103, if_neg c_106]) (by subst hg_88; subst hg_101; subst hg_102; subst hx6; unfold s_R_invoke_a12; rw [if_neg c_1, if_neg c_2, if_neg c_3, if_neg c_4, if_neg c_5, if_neg c_42, if_pos c_83, if_pos c_89, if_neg c_91]; unfold s_R_invoke_a12_c7; rw [if_pos c_93]; unfold s_R_invoke_a12_c8; rw [if_pos c_103, if_neg c_106]))))⟩, hp_at ht hP9⟩, hS.F ht⟩) hS.2.2 d_R_invoke_175
                      · have c_103 : ¬ ((0 : Int32) ≤ x6) := c_103
                        refine lv_iload hx hb d_R_invoke_149 (lv_at hl 0 rfl) ?_
                        have hP9 : va_P (dC, dI) classes (wR ka qa b0 g_101 a0 a1 a2 a3 a4 a5 a6 a7 a8 a9 g_88 a11 g_102) H := hP
                        exact W.iret (v := x6) hx hb hr (fun t ht hW => ⟨⟨x6, (g_101, g_88, a11, g_102), rfl, ⟨by subst hg_88; subst hg_101; subst hg_102; subst hx6; unfold f_R_invoke; rw [if_neg c_1, if_neg c_2, if_neg c_3, if_neg c_4, if_neg c_5, if_neg c_42, if_pos c_83, if_pos c_89, if_neg c_91]; unfold f_R_invoke_c7; rw [if_pos c_93]; unfold f_R_invoke_c8; rw [if_neg c_103], (pr2 (by subst hg_88; subst hg_101; subst hg_102; subst hx6; unfold s_R_invoke_b1; rw [if_neg c_1, if_neg c_2, if_neg c_3, if_neg c_4, if_neg c_5, if_neg c_42, if_pos c_83, if_pos c_89, if_neg c_91]; unfold s_R_invoke_b1_c7; rw [if_pos c_93]; unfold s_R_invoke_b1_c8; rw [if_neg c_103]) (pr2 (by subst hg_88; subst hg_101; subst hg_102; subst hx6; unfold s_R_invoke_a10; rw [if_neg c_1, if_neg c_2, if_neg c_3, if_neg c_4, if_neg c_5, if_neg c_42, if_pos c_83, if_pos c_89, if_neg c_91]; unfold s_R_invoke_a10_c7; rw [if_pos c_93]; unfold s_R_invoke_a10_c8; rw [if_neg c_103]) (pr2 (by subst hg_88; subst hg_101; subst hg_102; subst hx6; unfold s_R_invoke_a11; rw [if_neg c_1, if_neg c_2, if_neg c_3, if_neg c_4, if_neg c_5, if_neg c_42, if_pos c_83, if_pos c_89, if_neg c_91]; unfold s_R_invoke_a11_c7; rw [if_pos c_93]; unfold s_R_invoke_a11_c8; rw [if_neg c_103]) (by subst hg_88; subst hg_101; subst hg_102; subst hx6; unfold s_R_invoke_a12; rw [if_neg c_1, if_neg c_2, if_neg c_3, if_neg c_4, if_neg c_5, if_neg c_42, if_pos c_83, if_pos c_89, if_neg c_91]; unfold s_R_invoke_a12_c7; rw [if_pos c_93]; unfold s_R_invoke_a12_c8; rw [if_neg c_103]))))⟩, hp_at ht hP9⟩, hS.F ht⟩) hS.2.2 d_R_invoke_151
                    · have c_93 : ¬ ((a0 p2.toNatClampNeg) = (0 : Int32)) := c_93
                      refine lv_iconst (v := (2 : Int32)) hx hb d_R_invoke_130 (by decide +kernel) ?_
                      refine lv_goto (tgt := 135) hx hb d_R_invoke_131 (by decide) ?_
                      refine lv_iload_n hx hb d_R_invoke_135 rfl (lv_at hl 3 rfl) ?_
                      refine lv_iload_n hx hb d_R_invoke_136 rfl (lv_at hl 2 rfl) ?_
                      refine lv_iload hx hb d_R_invoke_137 (lv_at hl 4 rfl) ?_
                      have hq_112 : vT b0 := by with_reducible assumption
                      have hq_113 : vPar a4 := by with_reducible assumption
                      have hq_114 : vDir a6 := by with_reducible assumption
                      have hq_115 : vDc a7 := by with_reducible assumption
                      have hq_116 : vp_in p3 13 := by first | with_reducible assumption | exact rin_has hT (by with_reducible assumption)
                      have hq_117 : vp_in p2 13 := by first | with_reducible assumption | exact rin_has hT (by with_reducible assumption)
                      have hq_118 : vp_in p4 4 := by first | with_reducible assumption | exact jn_name (by with_reducible assumption)
                      have hFc := va_free (wc := (wR ka qa b0 b1 a0 a1 a2 a3 a4 a5 a6 a7 a8 a9 g_88 a11 a12)) hD hS hA [0, 1, 2, 3, 4, 5, 6, 7, 8, 9, 10, 11, 12, 13] rfl
                      refine va_calli (va_runV (As := [.int (2 : Int32), .int p3, .int p2, .int p4]) (rest := []) ⟨hx, hb, hml, hown, hts⟩ (c_R_resolved l dC dI ka qa H.size b0 b1 a0 a1 a2 a3 a4 a5 a6 a7 a8 a9 g_88 a11 a12 (2 : Int32) p3 p2 p4 hq_112 hq_113 hq_114 hq_115 hq_116 hq_117 hq_118) (cwV 4 hts k_g90 rfl rfl rfl (by decide +kernel) ⟨Nat.le_of_ble_eq_true rfl, Nat.le_of_ble_eq_true rfl⟩) ⟨fb_mu, va_recv hK hP (ci := 3) (q0 := 0) rfl rfl, fun U hU hW => ⟨rfl, by rw [hU], by rw [hU]; exact hP, va_K.moved hW.alike hK, NX.warm hW hN, hD.weaken (fun _ _ _ _ => trivial)⟩⟩ rfl rfl hl.1 rfl (lv_room (Nat.le_of_ble_eq_true rfl)) d_R_invoke_139 ⟨Nat.zero_le _, Nat.zero_le _⟩) hS (fun q _ h => hFc q h) hFc (fun r u t H1 locs ht hvm hpo hB hz1 hk1 hS => ?_)
                      obtain ⟨rfl, rfl⟩ := hpo
                      have hP : va_P (dC, dI) classes (wR ka qa b0 (s_R_resolved_b1 b0 a0 a1 a3 a4 a5 a6 a7 a8 a9 g_88 a12 (2 : Int32) p3 p2 p4) a0 a1 a2 a3 a4 a5 a6 a7 a8 a9 g_88 a11 (s_R_resolved_a12 b0 a0 a1 a3 a4 a5 a6 a7 a8 a9 g_88 a12 (2 : Int32) p3 p2 p4)) H1 := hp_to ht hB
                      have hD : va_D A (wR ka qa b0 (s_R_resolved_b1 b0 a0 a1 a3 a4 a5 a6 a7 a8 a9 g_88 a12 (2 : Int32) p3 p2 p4) a0 a1 a2 a3 a4 a5 a6 a7 a8 a9 g_88 a11 (s_R_resolved_a12 b0 a0 a1 a3 a4 a5 a6 a7 a8 a9 g_88 a12 (2 : Int32) p3 p2 p4)) := ad_R hD
                      generalize hg_119 : (s_R_resolved_b1 b0 a0 a1 a3 a4 a5 a6 a7 a8 a9 g_88 a12 (2 : Int32) p3 p2 p4) = g_119 at hP hD
                      generalize hg_120 : (s_R_resolved_a12 b0 a0 a1 a3 a4 a5 a6 a7 a8 a9 g_88 a12 (2 : Int32) p3 p2 p4) = g_120 at hP hD
                      generalize H1 = H at hP hS ⊢
                      refine lv_topi (fun x6 hx6 => ?_)
                      refine lv_istore (lv' := [(6, .int x6), (0, .ref (qa 0)), (1, .int p1), (2, .int p2), (3, .int p3), (4, .int p4), (5, .int p5)]) hx hb d_R_invoke_142 hl (by decide) rfl (fun ls hl => ?_)
                      refine lv_iload hx hb d_R_invoke_144 (lv_at hl 0 rfl) ?_
                      refine lv_if_ge (tgt := 152) hx hb d_R_invoke_146 (by decide) (fun c_121 => ?_) (fun c_121 => ?_)
                      · have c_121 : (0 : Int32) ≤ x6 := c_121
                        have hx6i : vp_in x6 13 := by rw [hx6]; exact in_rsd hT hpa hdi hdc (by with_reducible assumption) (by rw [← hx6]; with_reducible assumption)
                        refine lv_aload_n hx hb d_R_invoke_152 rfl (lv_at hl 1 rfl) ?_
                        refine lv_iload hx hb d_R_invoke_153 (lv_at hl 0 rfl) ?_
                        refine lv_iload hx hb d_R_invoke_155 (lv_at hl 5 rfl) ?_
                        have hq_122 : vp_in x6 13 := by first | with_reducible assumption | exact in_et et (leT hT et h2 (by with_reducible assumption)) | exact in_et et h2 | exact in_et eu (leT hT eu u2 (by with_reducible assumption)) | exact in_et eu u2
                        have hq_123 : vp_in p4 4 := by first | with_reducible assumption | exact jn_name (by with_reducible assumption)
                        refine va_calli (va_runV (As := [.int x6, .int p4]) (rest := []) ⟨hx, hb, hml, hown, hts⟩ (c_R_isStatic l dC dI ka qa H.size b0 g_119 a0 a1 a2 a3 a4 a5 a6 a7 a8 a9 g_88 a11 g_120 x6 p4 hq_122 hq_123) (cwV 2 hts k_g74 rfl rfl rfl (by decide +kernel) ⟨Nat.le_of_ble_eq_true rfl, Nat.le_of_ble_eq_true rfl⟩) ⟨fb_ro, va_recv hK hP (ci := 3) (q0 := 0) rfl rfl, fun U hU hW => ⟨rfl, by rw [hU], by rw [hU]; exact hP, va_K.moved hW.alike (hK), NX.warm hW hN⟩⟩ rfl rfl hl.1 rfl (lv_room (Nat.le_of_ble_eq_true rfl)) d_R_invoke_157 ⟨Nat.zero_le _, Nat.zero_le _⟩) hS (fun z h1 h2 => absurd h1 (Nat.not_lt.mpr h2)) (fun z h => hA z (Nat.le_trans hS.1 h)) (fun r u t H1 locs ht hvm hpo hB hz1 hk1 hS => ?_)
                        subst hpo
                        have hP := kp_P hP hk1
                        generalize H1 = H at hP hS ⊢
                        refine lv_iload_n hx hb d_R_invoke_160 rfl (lv_at hl 2 rfl) ?_
                        refine lv_iconst (v := (3 : Int32)) hx hb d_R_invoke_161 (by decide +kernel) ?_
                        refine lv_icmp_ne (tgt := 169) hx hb d_R_invoke_162 (by decide) (fun _ => ?_) (fun h => by rw [c_83] at h; exact absurd h (by decide +kernel))
                        refine lv_iconst (v := (0 : Int32)) hx hb d_R_invoke_169 (by decide +kernel) ?_
                        refine lv_icmp_eq (tgt := 176) hx hb d_R_invoke_170 (by decide) (fun c_124 => ?_) (fun c_124 => ?_)
                        · have c_124 : (f_R_isStatic a9 x6 p4) = (0 : Int32) := c_124
                          refine lv_iload_n hx hb d_R_invoke_176 rfl (lv_at hl 2 rfl) ?_
                          refine lv_iconst (v := (3 : Int32)) hx hb d_R_invoke_177 (by decide +kernel) ?_
                          refine lv_icmp_ne (tgt := 184) hx hb d_R_invoke_178 (by decide) (fun _ => ?_) (fun h => by rw [c_83] at h; exact absurd h (by decide +kernel))
                          refine lv_iload_n hx hb d_R_invoke_184 rfl (lv_at hl 2 rfl) ?_
                          refine lv_iconst (v := (2 : Int32)) hx hb d_R_invoke_185 (by decide +kernel) ?_
                          refine lv_icmp_ne (tgt := 198) hx hb d_R_invoke_186 (by decide) (fun h => by rw [c_83] at h; exact absurd h (by decide +kernel)) (fun _ => ?_)
                          refine lv_aload_n hx hb d_R_invoke_189 rfl (lv_at hl 1 rfl) ?_
                          refine lv_iload_n hx hb d_R_invoke_190 rfl (lv_at hl 3 rfl) ?_
                          refine lv_iload_n hx hb d_R_invoke_191 rfl (lv_at hl 4 rfl) ?_
                          refine lv_iload hx hb d_R_invoke_192 (lv_at hl 5 rfl) ?_
                          have hq_125 : vT b0 := by with_reducible assumption
                          have hq_126 : vPar a4 := by with_reducible assumption
                          have hq_127 : vp_in p2 13 := by first | with_reducible assumption | exact rin_has hT (by with_reducible assumption)
                          have hq_128 : vp_in p3 13 := by first | with_reducible assumption | exact rin_has hT (by with_reducible assumption)
                          have hq_129 : vp_in p4 4 := by first | with_reducible assumption | exact jn_name (by with_reducible assumption)
                          refine va_calli (va_runV (As := [.int p2, .int p3, .int p4]) (rest := []) ⟨hx, hb, hml, hown, hts⟩ (c_R_special l dC dI ka qa H.size b0 g_119 a0 a1 a2 a3 a4 a5 a6 a7 a8 a9 g_88 a11 g_120 p2 p3 p4 hq_125 hq_126 hq_127 hq_128 hq_129) (cwV 3 hts k_g92 rfl rfl rfl (by decide +kernel) ⟨Nat.le_of_ble_eq_true rfl, Nat.le_of_ble_eq_true rfl⟩) ⟨fb_ro, va_recv hK hP (ci := 3) (q0 := 0) rfl rfl, fun U hU hW => ⟨rfl, by rw [hU], by rw [hU]; exact hP, va_K.moved hW.alike (hK), NX.warm hW hN⟩⟩ rfl rfl hl.1 rfl (lv_room (Nat.le_of_ble_eq_true rfl)) d_R_invoke_194 ⟨Nat.zero_le _, Nat.zero_le _⟩) hS (fun z h1 h2 => absurd h1 (Nat.not_lt.mpr h2)) (fun z h => hA z (Nat.le_trans hS.1 h)) (fun r u t H1 locs ht hvm hpo hB hz1 hk1 hS => ?_)
                          subst hpo
                          have hP := kp_P hP hk1
                          generalize H1 = H at hP hS ⊢
                          have hP9 : va_P (dC, dI) classes (wR ka qa b0 g_119 a0 a1 a2 a3 a4 a5 a6 a7 a8 a9 g_88 a11 g_120) H := hP
                          exact W.iret (v := (f_R_special b0 a0 a4 a9 g_88 p2 p3 p4)) hx hb hr (fun t ht hW => ⟨⟨(f_R_special b0 a0 a4 a9 g_88 p2 p3 p4), (g_119, g_88, a11, g_120), rfl, ⟨by subst hg_88; subst hg_119; subst hg_120; subst hx6; unfold f_R_invoke; rw [if_neg c_1, if_neg c_2, if_neg c_3, if_neg c_4, if_neg c_5, if_neg c_42, if_pos c_83, if_pos c_89, if_neg c_91]; unfold f_R_invoke_c7; rw [if_neg c_93]; unfold f_R_invoke_c9; rw [if_pos c_121, if_pos c_124], (pr2 (by subst hg_88; subst hg_119; subst hg_120; subst hx6; unfold s_R_invoke_b1; rw [if_neg c_1, if_neg c_2, if_neg c_3, if_neg c_4, if_neg c_5, if_neg c_42, if_pos c_83, if_pos c_89, if_neg c_91]; unfold s_R_invoke_b1_c7; rw [if_neg c_93]; unfold s_R_invoke_b1_c9; rw [if_pos c_121, if_pos c_124]) (pr2 (by subst hg_88; subst hg_119; subst hg_120; subst hx6; unfold s_R_invoke_a10; rw [if_neg c_1, if_neg c_2, if_neg c_3, if_neg c_4, if_neg c_5, if_neg c_42, if_pos c_83, if_pos c_89, if_neg c_91]; unfold s_R_invoke_a10_c7; rw [if_neg c_93]; unfold s_R_invoke_a10_c9; rw [if_pos c_121, if_pos c_124]) (pr2 (by subst hg_88; subst hg_119; subst hg_120; subst hx6; unfold s_R_invoke_a11; rw [if_neg c_1, if_neg c_2, if_neg c_3, if_neg c_4, if_neg c_5, if_neg c_42, if_pos c_83, if_pos c_89, if_neg c_91]; unfold s_R_invoke_a11_c7; rw [if_neg c_93]; unfold s_R_invoke_a11_c9; rw [if_pos c_121, if_pos c_124]) (by subst hg_88; subst hg_119; subst hg_120; subst hx6; unfold s_R_invoke_a12; rw [if_neg c_1, if_neg c_2, if_neg c_3, if_neg c_4, if_neg c_5, if_neg c_42, if_pos c_83, if_pos c_89, if_neg c_91]; unfold s_R_invoke_a12_c7; rw [if_neg c_93]; unfold s_R_invoke_a12_c9; rw [if_pos c_121, if_pos c_124]))))⟩, hp_at ht hP9⟩, hS.F ht⟩) hS.2.2 d_R_invoke_197
                        · have c_124 : ¬ ((f_R_isStatic a9 x6 p4) = (0 : Int32)) := c_124
                          refine lv_bipush (v := (-6 : Int32)) hx hb d_R_invoke_173 (by decide +kernel) ?_
                          have hP9 : va_P (dC, dI) classes (wR ka qa b0 g_119 a0 a1 a2 a3 a4 a5 a6 a7 a8 a9 g_88 a11 g_120) H := hP
                          exact W.iret (v := (-6 : Int32)) hx hb hr (fun t ht hW => ⟨⟨(-6 : Int32), (g_119, g_88, a11, g_120), rfl, ⟨by subst hg_88; subst hg_119; subst hg_120; subst hx6; unfold f_R_invoke; rw [if_neg c_1, if_neg c_2, if_neg c_3, if_neg c_4, if_neg c_5, if_neg c_42, if_pos c_83, if_pos c_89, if_neg c_91]; unfold f_R_invoke_c7; rw [if_neg c_93]; unfold f_R_invoke_c9; rw [if_pos c_121, if_neg c_124], (pr2 (by subst hg_88; subst hg_119; subst hg_120; subst hx6; unfold s_R_invoke_b1; rw [if_neg c_1, if_neg c_2, if_neg c_3, if_neg c_4, if_neg c_5, if_neg c_42, if_pos c_83, if_pos c_89, if_neg c_91]; unfold s_R_invoke_b1_c7; rw [if_neg c_93]; unfold s_R_invoke_b1_c9; rw [if_pos c_121, if_neg c_124]) (pr2 (by subst hg_88; subst hg_119; subst hg_120; subst hx6; unfold s_R_invoke_a10; rw [if_neg c_1, if_neg c_2, if_neg c_3, if_neg c_4, if_neg c_5, if_neg c_42, if_pos c_83, if_pos c_89, if_neg c_91]; unfold s_R_invoke_a10_c7; rw [if_neg c_93]; unfold s_R_invoke_a10_c9; rw [if_pos c_121, if_neg c_124]) (pr2 (by subst hg_88; subst hg_119; subst hg_120; subst hx6; unfold s_R_invoke_a11; rw [if_neg c_1, if_neg c_2, if_neg c_3, if_neg c_4, if_neg c_5, if_neg c_42, if_pos c_83, if_pos c_89, if_neg c_91]; unfold s_R_invoke_a11_c7; rw [if_neg c_93]; unfold s_R_invoke_a11_c9; rw [if_pos c_121, if_neg c_124]) (by subst hg_88; subst hg_119; subst hg_120; subst hx6; unfold s_R_invoke_a12; rw [if_neg c_1, if_neg c_2, if_neg c_3, if_neg c_4, if_neg c_5, if_neg c_42, if_pos c_83, if_pos c_89, if_neg c_91]; unfold s_R_invoke_a12_c7; rw [if_neg c_93]; unfold s_R_invoke_a12_c9; rw [if_pos c_121, if_neg c_124]))))⟩, hp_at ht hP9⟩, hS.F ht⟩) hS.2.2 d_R_invoke_175
                      · have c_121 : ¬ ((0 : Int32) ≤ x6) := c_121
                        refine lv_iload hx hb d_R_invoke_149 (lv_at hl 0 rfl) ?_
                        have hP9 : va_P (dC, dI) classes (wR ka qa b0 g_119 a0 a1 a2 a3 a4 a5 a6 a7 a8 a9 g_88 a11 g_120) H := hP
                        exact W.iret (v := x6) hx hb hr (fun t ht hW => ⟨⟨x6, (g_119, g_88, a11, g_120), rfl, ⟨by subst hg_88; subst hg_119; subst hg_120; subst hx6; unfold f_R_invoke; rw [if_neg c_1, if_neg c_2, if_neg c_3, if_neg c_4, if_neg c_5, if_neg c_42, if_pos c_83, if_pos c_89, if_neg c_91]; unfold f_R_invoke_c7; rw [if_neg c_93]; unfold f_R_invoke_c9; rw [if_neg c_121], (pr2 (by subst hg_88; subst hg_119; subst hg_120; subst hx6; unfold s_R_invoke_b1; rw [if_neg c_1, if_neg c_2, if_neg c_3, if_neg c_4, if_neg c_5, if_neg c_42, if_pos c_83, if_pos c_89, if_neg c_91]; unfold s_R_invoke_b1_c7; rw [if_neg c_93]; unfold s_R_invoke_b1_c9; rw [if_neg c_121]) (pr2 (by subst hg_88; subst hg_119; subst hg_120; subst hx6; unfold s_R_invoke_a10; rw [if_neg c_1, if_neg c_2, if_neg c_3, if_neg c_4, if_neg c_5, if_neg c_42, if_pos c_83, if_pos c_89, if_neg c_91]; unfold s_R_invoke_a10_c7; rw [if_neg c_93]; unfold s_R_invoke_a10_c9; rw [if_neg c_121]) (pr2 (by subst hg_88; subst hg_119; subst hg_120; subst hx6; unfold s_R_invoke_a11; rw [if_neg c_1, if_neg c_2, if_neg c_3, if_neg c_4, if_neg c_5, if_neg c_42, if_pos c_83, if_pos c_89, if_neg c_91]; unfold s_R_invoke_a11_c7; rw [if_neg c_93]; unfold s_R_invoke_a11_c9; rw [if_neg c_121]) (by subst hg_88; subst hg_119; subst hg_120; subst hx6; unfold s_R_invoke_a12; rw [if_neg c_1, if_neg c_2, if_neg c_3, if_neg c_4, if_neg c_5, if_neg c_42, if_pos c_83, if_pos c_89, if_neg c_91]; unfold s_R_invoke_a12_c7; rw [if_neg c_93]; unfold s_R_invoke_a12_c9; rw [if_neg c_121]))))⟩, hp_at ht hP9⟩, hS.F ht⟩) hS.2.2 d_R_invoke_151
                  · have c_91 : (f_R_is g_88 p3 p2) = (0 : Int32) := c_91
                    refine lv_iconst (v := (-1 : Int32)) hx hb d_R_invoke_105 (by decide +kernel) ?_
                    have hP9 : va_P (dC, dI) classes (wR ka qa b0 b1 a0 a1 a2 a3 a4 a5 a6 a7 a8 a9 g_88 a11 a12) H := hP
                    exact W.iret (v := (-1 : Int32)) hx hb hr (fun t ht hW => ⟨⟨(-1 : Int32), (b1, g_88, a11, a12), rfl, ⟨by subst hg_88; unfold f_R_invoke; rw [if_neg c_1, if_neg c_2, if_neg c_3, if_neg c_4, if_neg c_5, if_neg c_42, if_pos c_83, if_pos c_89, if_pos c_91], (pr2 (by subst hg_88; unfold s_R_invoke_b1; rw [if_neg c_1, if_neg c_2, if_neg c_3, if_neg c_4, if_neg c_5, if_neg c_42, if_pos c_83, if_pos c_89, if_pos c_91]) (pr2 (by subst hg_88; unfold s_R_invoke_a10; rw [if_neg c_1, if_neg c_2, if_neg c_3, if_neg c_4, if_neg c_5, if_neg c_42, if_pos c_83, if_pos c_89, if_pos c_91]) (pr2 (by subst hg_88; unfold s_R_invoke_a11; rw [if_neg c_1, if_neg c_2, if_neg c_3, if_neg c_4, if_neg c_5, if_neg c_42, if_pos c_83, if_pos c_89, if_pos c_91]) (by subst hg_88; unfold s_R_invoke_a12; rw [if_neg c_1, if_neg c_2, if_neg c_3, if_neg c_4, if_neg c_5, if_neg c_42, if_pos c_83, if_pos c_89, if_pos c_91]))))⟩, hp_at ht hP9⟩, hS.F ht⟩) hS.2.2 d_R_invoke_106
                · have c_89 : ¬ (p5 = (0 : Int32)) := c_89
                  refine lv_iconst (v := (-1 : Int32)) hx hb d_R_invoke_75 (by decide +kernel) ?_
                  have hP9 : va_P (dC, dI) classes (wR ka qa b0 b1 a0 a1 a2 a3 a4 a5 a6 a7 a8 a9 g_88 a11 a12) H := hP
                  exact W.iret (v := (-1 : Int32)) hx hb hr (fun t ht hW => ⟨⟨(-1 : Int32), (b1, g_88, a11, a12), rfl, ⟨by subst hg_88; unfold f_R_invoke; rw [if_neg c_1, if_neg c_2, if_neg c_3, if_neg c_4, if_neg c_5, if_neg c_42, if_pos c_83, if_neg c_89], (pr2 (by subst hg_88; unfold s_R_invoke_b1; rw [if_neg c_1, if_neg c_2, if_neg c_3, if_neg c_4, if_neg c_5, if_neg c_42, if_pos c_83, if_neg c_89]) (pr2 (by subst hg_88; unfold s_R_invoke_a10; rw [if_neg c_1, if_neg c_2, if_neg c_3, if_neg c_4, if_neg c_5, if_neg c_42, if_pos c_83, if_neg c_89]) (pr2 (by subst hg_88; unfold s_R_invoke_a11; rw [if_neg c_1, if_neg c_2, if_neg c_3, if_neg c_4, if_neg c_5, if_neg c_42, if_pos c_83, if_neg c_89]) (by subst hg_88; unfold s_R_invoke_a12; rw [if_neg c_1, if_neg c_2, if_neg c_3, if_neg c_4, if_neg c_5, if_neg c_42, if_pos c_83, if_neg c_89]))))⟩, hp_at ht hP9⟩, hS.F ht⟩) hS.2.2 d_R_invoke_76
              · skip
                have c_130 : p1 = (3 : Int32) := in03 (by with_reducible assumption) c_5 c_42 c_83
                refine lv_aload_n hx hb d_R_invoke_37 rfl (lv_at hl 0 rfl) ?_
                have hq_131 : vT b0 := by with_reducible assumption
                have hq_132 : vPar a4 := by with_reducible assumption
                have hq_133 : vDir a6 := by with_reducible assumption
                have hq_134 : vDc a7 := by with_reducible assumption
                have hFc := va_free (wc := (wR ka qa b0 b1 a0 a1 a2 a3 a4 a5 a6 a7 a8 a9 a10 a11 a12)) hD hS hA [0, 1, 2, 3, 4, 5, 6, 7, 8, 9, 10, 11, 12, 13] rfl
                refine va_callv (va_runV (As := []) (rest := []) ⟨hx, hb, hml, hown, hts⟩ (c_R_closeAbove l dC dI ka qa H.size b0 b1 a0 a1 a2 a3 a4 a5 a6 a7 a8 a9 a10 a11 a12  hq_131 hq_132 hq_133 hq_134) (cwV 0 hts k_g81 rfl rfl rfl (by decide +kernel) ⟨Nat.le_of_ble_eq_true rfl, Nat.le_of_ble_eq_true rfl⟩) ⟨fb_mu, va_recv hK hP (ci := 3) (q0 := 0) rfl rfl, fun U hU hW => ⟨rfl, by rw [hU], by rw [hU]; exact hP, va_K.moved hW.alike hK, NX.warm hW hN, hD.weaken (fun _ _ _ _ => trivial)⟩⟩ rfl rfl hl.1 rfl (lv_room (Nat.le_of_ble_eq_true rfl)) d_R_invoke_38 ⟨Nat.zero_le _, Nat.zero_le _⟩) hS (fun q _ h => hFc q h) hFc (fun u t H1 locs ht hvm hpo hB hz1 hk1 hS => ?_)
                subst hpo
                have hP : va_P (dC, dI) classes (wR ka qa b0 b1 a0 a1 a2 a3 a4 a5 a6 a7 a8 a9 (s_R_closeAbove_a10 b0 a4 a6 a7 a10) a11 a12) H1 := hp_to ht hB
                have hD : va_D A (wR ka qa b0 b1 a0 a1 a2 a3 a4 a5 a6 a7 a8 a9 (s_R_closeAbove_a10 b0 a4 a6 a7 a10) a11 a12) := ad_R hD
                generalize hg_135 : (s_R_closeAbove_a10 b0 a4 a6 a7 a10) = g_135 at hP hD
                generalize H1 = H at hP hS ⊢
                refine lv_iload_n hx hb d_R_invoke_41 rfl (lv_at hl 1 rfl) ?_
                refine lv_iconst (v := (2 : Int32)) hx hb d_R_invoke_42 (by decide +kernel) ?_
                refine lv_icmp_ge (tgt := 65) hx hb d_R_invoke_43 (by decide) (fun _ => ?_) (fun h => by rw [c_130] at h; exact absurd h (by decide +kernel))
                refine lv_iload_n hx hb d_R_invoke_65 rfl (lv_at hl 1 rfl) ?_
                refine lv_iconst (v := (1 : Int32)) hx hb d_R_invoke_66 (by decide +kernel) ?_
                refine lv_icmp_le (tgt := 77) hx hb d_R_invoke_67 (by decide) (fun h => by rw [c_130] at h; exact absurd h (by decide +kernel)) (fun _ => ?_)
                refine lv_iload hx hb d_R_invoke_70 (lv_at hl 5 rfl) ?_
                refine lv_if_eq (tgt := 77) hx hb d_R_invoke_72 (by decide) (fun c_136 => ?_) (fun c_136 => ?_)
                · have c_136 : p5 = (0 : Int32) := c_136
                  refine lv_iload_n hx hb d_R_invoke_77 rfl (lv_at hl 1 rfl) ?_
                  refine lv_if_ne (tgt := 91) hx hb d_R_invoke_78 (by decide) (fun _ => ?_) (fun h => by rw [c_130] at h; exact absurd h (by decide +kernel))
                  refine lv_iload_n hx hb d_R_invoke_91 rfl (lv_at hl 1 rfl) ?_
                  refine lv_iconst (v := (2 : Int32)) hx hb d_R_invoke_92 (by decide +kernel) ?_
                  refine lv_icmp_ne (tgt := 107) hx hb d_R_invoke_93 (by decide) (fun _ => ?_) (fun h => by rw [c_130] at h; exact absurd h (by decide +kernel))
                  refine lv_aload_n hx hb d_R_invoke_107 rfl (lv_at hl 0 rfl) ?_
                  refine lv_iload_n hx hb d_R_invoke_108 rfl (lv_at hl 1 rfl) ?_
                  refine lv_if_ne (tgt := 116) hx hb d_R_invoke_109 (by decide) (fun _ => ?_) (fun h => by rw [c_130] at h; exact absurd h (by decide +kernel))
                  refine lv_iload_n hx hb d_R_invoke_116 rfl (lv_at hl 1 rfl) ?_
                  refine lv_iconst (v := (1 : Int32)) hx hb d_R_invoke_117 (by decide +kernel) ?_
                  refine lv_icmp_eq (tgt := 130) hx hb d_R_invoke_118 (by decide) (fun h => by rw [c_130] at h; exact absurd h (by decide +kernel)) (fun _ => ?_)
                  refine lv_aload_n hx hb d_R_invoke_121 rfl (lv_at hl 0 rfl) ?_
                  refine va_get (D := (dC, dI)) (ci := 3) (v := .ref (qa 1)) (C := R_R) (T := F_R) (N := 15) hx hb hts i_R hown hK hP 0 rfl rfl 1 (by decide) (hts _ k_52) (fun _ h9 => h9) rfl d_R_invoke_122 ?_
                  refine lv_iload_n hx hb d_R_invoke_125 rfl (lv_at hl 2 rfl) ?_
                  have hi_137 : vp_in p2 13 := by first | with_reducible assumption | exact rin_has hT (by with_reducible assumption)
                  refine va_zald (D := (dC, dI)) (f := a0) hx hb hK hP 1 0 rfl rfl hi_137 d_R_invoke_126 ?_
                  refine lv_if_eq (tgt := 134) hx hb d_R_invoke_127 (by decide) (fun c_138 => ?_) (fun c_138 => ?_)
                  · have c_138 : (a0 p2.toNatClampNeg) = (0 : Int32) := c_138
                    refine lv_iconst (v := (1 : Int32)) hx hb d_R_invoke_134 (by decide +kernel) ?_
                    refine lv_iload_n hx hb d_R_invoke_135 rfl (lv_at hl 3 rfl) ?_
                    refine lv_iload_n hx hb d_R_invoke_136 rfl (lv_at hl 2 rfl) ?_
                    refine lv_iload hx hb d_R_invoke_137 (lv_at hl 4 rfl) ?_
                    have hq_139 : vT b0 := by with_reducible assumption
                    have hq_140 : vPar a4 := by with_reducible assumption
                    have hq_141 : vDir a6 := by with_reducible assumption
                    have hq_142 : vDc a7 := by with_reducible assumption
                    have hq_143 : vp_in p3 13 := by first | with_reducible assumption | exact rin_has hT (by with_reducible assumption)
                    have hq_144 : vp_in p2 13 := by first | with_reducible assumption | exact rin_has hT (by with_reducible assumption)
                    have hq_145 : vp_in p4 4 := by first | with_reducible assumption | exact jn_name (by with_reducible assumption)
                    have hFc := va_free (wc := (wR ka qa b0 b1 a0 a1 a2 a3 a4 a5 a6 a7 a8 a9 g_135 a11 a12)) hD hS hA [0, 1, 2, 3, 4, 5, 6, 7, 8, 9, 10, 11, 12, 13] rfl
                    refine va_calli (va_runV (As := [.int (1 : Int32), .int p3, .int p2, .int p4]) (rest := []) ⟨hx, hb, hml, hown, hts⟩ (c_R_resolved l dC dI ka qa H.size b0 b1 a0 a1 a2 a3 a4 a5 a6 a7 a8 a9 g_135 a11 a12 (1 : Int32) p3 p2 p4 hq_139 hq_140 hq_141 hq_142 hq_143 hq_144 hq_145) (cwV 4 hts k_g90 rfl rfl rfl (by decide +kernel) ⟨Nat.le_of_ble_eq_true rfl, Nat.le_of_ble_eq_true rfl⟩) ⟨fb_mu, va_recv hK hP (ci := 3) (q0 := 0) rfl rfl, fun U hU hW => ⟨rfl, by rw [hU], by rw [hU]; exact hP, va_K.moved hW.alike hK, NX.warm hW hN, hD.weaken (fun _ _ _ _ => trivial)⟩⟩ rfl rfl hl.1 rfl (lv_room (Nat.le_of_ble_eq_true rfl)) d_R_invoke_139 ⟨Nat.zero_le _, Nat.zero_le _⟩) hS (fun q _ h => hFc q h) hFc (fun r u t H1 locs ht hvm hpo hB hz1 hk1 hS => ?_)
                    obtain ⟨rfl, rfl⟩ := hpo
                    have hP : va_P (dC, dI) classes (wR ka qa b0 (s_R_resolved_b1 b0 a0 a1 a3 a4 a5 a6 a7 a8 a9 g_135 a12 (1 : Int32) p3 p2 p4) a0 a1 a2 a3 a4 a5 a6 a7 a8 a9 g_135 a11 (s_R_resolved_a12 b0 a0 a1 a3 a4 a5 a6 a7 a8 a9 g_135 a12 (1 : Int32) p3 p2 p4)) H1 := hp_to ht hB
                    have hD : va_D A (wR ka qa b0 (s_R_resolved_b1 b0 a0 a1 a3 a4 a5 a6 a7 a8 a9 g_135 a12 (1 : Int32) p3 p2 p4) a0 a1 a2 a3 a4 a5 a6 a7 a8 a9 g_135 a11 (s_R_resolved_a12 b0 a0 a1 a3 a4 a5 a6 a7 a8 a9 g_135 a12 (1 : Int32) p3 p2 p4)) := ad_R hD
                    generalize hg_146 : (s_R_resolved_b1 b0 a0 a1 a3 a4 a5 a6 a7 a8 a9 g_135 a12 (1 : Int32) p3 p2 p4) = g_146 at hP hD
                    generalize hg_147 : (s_R_resolved_a12 b0 a0 a1 a3 a4 a5 a6 a7 a8 a9 g_135 a12 (1 : Int32) p3 p2 p4) = g_147 at hP hD
                    generalize H1 = H at hP hS ⊢
                    refine lv_topi (fun x6 hx6 => ?_)
                    refine lv_istore (lv' := [(6, .int x6), (0, .ref (qa 0)), (1, .int p1), (2, .int p2), (3, .int p3), (4, .int p4), (5, .int p5)]) hx hb d_R_invoke_142 hl (by decide) rfl (fun ls hl => ?_)
                    refine lv_iload hx hb d_R_invoke_144 (lv_at hl 0 rfl) ?_
                    refine lv_if_ge (tgt := 152) hx hb d_R_invoke_146 (by decide) (fun c_148 => ?_) (fun c_148 => ?_)
                    · have c_148 : (0 : Int32) ≤ x6 := c_148
                      have hx6i : vp_in x6 13 := by rw [hx6]; exact in_rsd hT hpa hdi hdc (by with_reducible assumption) (by rw [← hx6]; with_reducible assumption)
                      refine lv_aload_n hx hb d_R_invoke_152 rfl (lv_at hl 1 rfl) ?_
                      refine lv_iload hx hb d_R_invoke_153 (lv_at hl 0 rfl) ?_
                      refine lv_iload hx hb d_R_invoke_155 (lv_at hl 5 rfl) ?_
                      have hq_149 : vp_in x6 13 := by first | with_reducible assumption | exact in_et et (leT hT et h2 (by with_reducible assumption)) | exact in_et et h2 | exact in_et eu (leT hT eu u2 (by with_reducible assumption)) | exact in_et eu u2
                      have hq_150 : vp_in p4 4 := by first | with_reducible assumption | exact jn_name (by with_reducible assumption)
                      refine va_calli (va_runV (As := [.int x6, .int p4]) (rest := []) ⟨hx, hb, hml, hown, hts⟩ (c_R_isStatic l dC dI ka qa H.size b0 g_146 a0 a1 a2 a3 a4 a5 a6 a7 a8 a9 g_135 a11 g_147 x6 p4 hq_149 hq_150) (cwV 2 hts k_g74 rfl rfl rfl (by decide +kernel) ⟨Nat.le_of_ble_eq_true rfl, Nat.le_of_ble_eq_true rfl⟩) ⟨fb_ro, va_recv hK hP (ci := 3) (q0 := 0) rfl rfl, fun U hU hW => ⟨rfl, by rw [hU], by rw [hU]; exact hP, va_K.moved hW.alike (hK), NX.warm hW hN⟩⟩ rfl rfl hl.1 rfl (lv_room (Nat.le_of_ble_eq_true rfl)) d_R_invoke_157 ⟨Nat.zero_le _, Nat.zero_le _⟩) hS (fun z h1 h2 => absurd h1 (Nat.not_lt.mpr h2)) (fun z h => hA z (Nat.le_trans hS.1 h)) (fun r u t H1 locs ht hvm hpo hB hz1 hk1 hS => ?_)
                      subst hpo
                      have hP := kp_P hP hk1
                      generalize H1 = H at hP hS ⊢
                      refine lv_iload_n hx hb d_R_invoke_160 rfl (lv_at hl 2 rfl) ?_
                      refine lv_iconst (v := (3 : Int32)) hx hb d_R_invoke_161 (by decide +kernel) ?_
                      refine lv_icmp_ne (tgt := 169) hx hb d_R_invoke_162 (by decide) (fun h => by rw [c_130] at h; exact absurd h (by decide +kernel)) (fun _ => ?_)
                      refine lv_iconst (v := (1 : Int32)) hx hb d_R_invoke_165 (by decide +kernel) ?_
                      refine lv_goto (tgt := 170) hx hb d_R_invoke_166 (by decide) ?_
                      refine lv_icmp_eq (tgt := 176) hx hb d_R_invoke_170 (by decide) (fun c_151 => ?_) (fun c_151 => ?_)
                      · have c_151 : (f_R_isStatic a9 x6 p4) = (1 : Int32) := c_151
                        refine lv_iload_n hx hb d_R_invoke_176 rfl (lv_at hl 2 rfl) ?_
                        refine lv_iconst (v := (3 : Int32)) hx hb d_R_invoke_177 (by decide +kernel) ?_
                        refine lv_icmp_ne (tgt := 184) hx hb d_R_invoke_178 (by decide) (fun h => by rw [c_130] at h; exact absurd h (by decide +kernel)) (fun _ => ?_)
                        refine lv_iload hx hb d_R_invoke_181 (lv_at hl 0 rfl) ?_
                        have hP9 : va_P (dC, dI) classes (wR ka qa b0 g_146 a0 a1 a2 a3 a4 a5 a6 a7 a8 a9 g_135 a11 g_147) H := hP
                        exact W.iret (v := x6) hx hb hr (fun t ht hW => ⟨⟨x6, (g_146, g_135, a11, g_147), rfl, ⟨by subst hg_135; subst hg_146; subst hg_147; subst hx6; unfold f_R_invoke; rw [if_neg c_1, if_neg c_2, if_neg c_3, if_neg c_4, if_neg c_5, if_neg c_42, if_neg c_83, if_pos c_136]; unfold f_R_invoke_c10; rw [if_pos c_138]; unfold f_R_invoke_c11; rw [if_pos c_148, if_pos c_151], (pr2 (by subst hg_135; subst hg_146; subst hg_147; subst hx6; unfold s_R_invoke_b1; rw [if_neg c_1, if_neg c_2, if_neg c_3, if_neg c_4, if_neg c_5, if_neg c_42, if_neg c_83, if_pos c_136]; unfold s_R_invoke_b1_c10; rw [if_pos c_138]; unfold s_R_invoke_b1_c11; rw [if_pos c_148, if_pos c_151]) (pr2 (by subst hg_135; subst hg_146; subst hg_147; subst hx6; unfold s_R_invoke_a10; rw [if_neg c_1, if_neg c_2, if_neg c_3, if_neg c_4, if_neg c_5, if_neg c_42, if_neg c_83, if_pos c_136]; unfold s_R_invoke_a10_c10; rw [if_pos c_138]; unfold s_R_invoke_a10_c11; rw [if_pos c_148, if_pos c_151]) (pr2 (by subst hg_135; subst hg_146; subst hg_147; subst hx6; unfold s_R_invoke_a11; rw [if_neg c_1, if_neg c_2, if_neg c_3, if_neg c_4, if_neg c_5, if_neg c_42, if_neg c_83, if_pos c_136]; unfold s_R_invoke_a11_c10; rw [if_pos c_138]; unfold s_R_invoke_a11_c11; rw [if_pos c_148, if_pos c_151]) (by subst hg_135; subst hg_146; subst hg_147; subst hx6; unfold s_R_invoke_a12; rw [if_neg c_1, if_neg c_2, if_neg c_3, if_neg c_4, if_neg c_5, if_neg c_42, if_neg c_83, if_pos c_136]; unfold s_R_invoke_a12_c10; rw [if_pos c_138]; unfold s_R_invoke_a12_c11; rw [if_pos c_148, if_pos c_151]))))⟩, hp_at ht hP9⟩, hS.F ht⟩) hS.2.2 d_R_invoke_183
                      · have c_151 : ¬ ((f_R_isStatic a9 x6 p4) = (1 : Int32)) := c_151
                        refine lv_bipush (v := (-6 : Int32)) hx hb d_R_invoke_173 (by decide +kernel) ?_
                        have hP9 : va_P (dC, dI) classes (wR ka qa b0 g_146 a0 a1 a2 a3 a4 a5 a6 a7 a8 a9 g_135 a11 g_147) H := hP
                        exact W.iret (v := (-6 : Int32)) hx hb hr (fun t ht hW => ⟨⟨(-6 : Int32), (g_146, g_135, a11, g_147), rfl, ⟨by subst hg_135; subst hg_146; subst hg_147; subst hx6; unfold f_R_invoke; rw [if_neg c_1, if_neg c_2, if_neg c_3, if_neg c_4, if_neg c_5, if_neg c_42, if_neg c_83, if_pos c_136]; unfold f_R_invoke_c10; rw [if_pos c_138]; unfold f_R_invoke_c11; rw [if_pos c_148, if_neg c_151], (pr2 (by subst hg_135; subst hg_146; subst hg_147; subst hx6; unfold s_R_invoke_b1; rw [if_neg c_1, if_neg c_2, if_neg c_3, if_neg c_4, if_neg c_5, if_neg c_42, if_neg c_83, if_pos c_136]; unfold s_R_invoke_b1_c10; rw [if_pos c_138]; unfold s_R_invoke_b1_c11; rw [if_pos c_148, if_neg c_151]) (pr2 (by subst hg_135; subst hg_146; subst hg_147; subst hx6; unfold s_R_invoke_a10; rw [if_neg c_1, if_neg c_2, if_neg c_3, if_neg c_4, if_neg c_5, if_neg c_42, if_neg c_83, if_pos c_136]; unfold s_R_invoke_a10_c10; rw [if_pos c_138]; unfold s_R_invoke_a10_c11; rw [if_pos c_148, if_neg c_151]) (pr2 (by subst hg_135; subst hg_146; subst hg_147; subst hx6; unfold s_R_invoke_a11; rw [if_neg c_1, if_neg c_2, if_neg c_3, if_neg c_4, if_neg c_5, if_neg c_42, if_neg c_83, if_pos c_136]; unfold s_R_invoke_a11_c10; rw [if_pos c_138]; unfold s_R_invoke_a11_c11; rw [if_pos c_148, if_neg c_151]) (by subst hg_135; subst hg_146; subst hg_147; subst hx6; unfold s_R_invoke_a12; rw [if_neg c_1, if_neg c_2, if_neg c_3, if_neg c_4, if_neg c_5, if_neg c_42, if_neg c_83, if_pos c_136]; unfold s_R_invoke_a12_c10; rw [if_pos c_138]; unfold s_R_invoke_a12_c11; rw [if_pos c_148, if_neg c_151]))))⟩, hp_at ht hP9⟩, hS.F ht⟩) hS.2.2 d_R_invoke_175
                    · have c_148 : ¬ ((0 : Int32) ≤ x6) := c_148
                      refine lv_iload hx hb d_R_invoke_149 (lv_at hl 0 rfl) ?_
                      have hP9 : va_P (dC, dI) classes (wR ka qa b0 g_146 a0 a1 a2 a3 a4 a5 a6 a7 a8 a9 g_135 a11 g_147) H := hP
                      exact W.iret (v := x6) hx hb hr (fun t ht hW => ⟨⟨x6, (g_146, g_135, a11, g_147), rfl, ⟨by subst hg_135; subst hg_146; subst hg_147; subst hx6; unfold f_R_invoke; rw [if_neg c_1, if_neg c_2, if_neg c_3, if_neg c_4, if_neg c_5, if_neg c_42, if_neg c_83, if_pos c_136]; unfold f_R_invoke_c10; rw [if_pos c_138]; unfold f_R_invoke_c11; rw [if_neg c_148], (pr2 (by subst hg_135; subst hg_146; subst hg_147; subst hx6; unfold s_R_invoke_b1; rw [if_neg c_1, if_neg c_2, if_neg c_3, if_neg c_4, if_neg c_5, if_neg c_42, if_neg c_83, if_pos c_136]; unfold s_R_invoke_b1_c10; rw [if_pos c_138]; unfold s_R_invoke_b1_c11; rw [if_neg c_148]) (pr2 (by subst hg_135; subst hg_146; subst hg_147; subst hx6; unfold s_R_invoke_a10; rw [if_neg c_1, if_neg c_2, if_neg c_3, if_neg c_4, if_neg c_5, if_neg c_42, if_neg c_83, if_pos c_136]; unfold s_R_invoke_a10_c10; rw [if_pos c_138]; unfold s_R_invoke_a10_c11; rw [if_neg c_148]) (pr2 (by subst hg_135; subst hg_146; subst hg_147; subst hx6; unfold s_R_invoke_a11; rw [if_neg c_1, if_neg c_2, if_neg c_3, if_neg c_4, if_neg c_5, if_neg c_42, if_neg c_83, if_pos c_136]; unfold s_R_invoke_a11_c10; rw [if_pos c_138]; unfold s_R_invoke_a11_c11; rw [if_neg c_148]) (by subst hg_135; subst hg_146; subst hg_147; subst hx6; unfold s_R_invoke_a12; rw [if_neg c_1, if_neg c_2, if_neg c_3, if_neg c_4, if_neg c_5, if_neg c_42, if_neg c_83, if_pos c_136]; unfold s_R_invoke_a12_c10; rw [if_pos c_138]; unfold s_R_invoke_a12_c11; rw [if_neg c_148]))))⟩, hp_at ht hP9⟩, hS.F ht⟩) hS.2.2 d_R_invoke_151
                  · have c_138 : ¬ ((a0 p2.toNatClampNeg) = (0 : Int32)) := c_138
                    refine lv_iconst (v := (2 : Int32)) hx hb d_R_invoke_130 (by decide +kernel) ?_
                    refine lv_goto (tgt := 135) hx hb d_R_invoke_131 (by decide) ?_
                    refine lv_iload_n hx hb d_R_invoke_135 rfl (lv_at hl 3 rfl) ?_
                    refine lv_iload_n hx hb d_R_invoke_136 rfl (lv_at hl 2 rfl) ?_
                    refine lv_iload hx hb d_R_invoke_137 (lv_at hl 4 rfl) ?_
                    have hq_152 : vT b0 := by with_reducible assumption
                    have hq_153 : vPar a4 := by with_reducible assumption
                    have hq_154 : vDir a6 := by with_reducible assumption
                    have hq_155 : vDc a7 := by with_reducible assumption
                    have hq_156 : vp_in p3 13 := by first | with_reducible assumption | exact rin_has hT (by with_reducible assumption)
                    have hq_157 : vp_in p2 13 := by first | with_reducible assumption | exact rin_has hT (by with_reducible assumption)
                    have hq_158 : vp_in p4 4 := by first | with_reducible assumption | exact jn_name (by with_reducible assumption)
                    have hFc := va_free (wc := (wR ka qa b0 b1 a0 a1 a2 a3 a4 a5 a6 a7 a8 a9 g_135 a11 a12)) hD hS hA [0, 1, 2, 3, 4, 5, 6, 7, 8, 9, 10, 11, 12, 13] rfl
                    refine va_calli (va_runV (As := [.int (2 : Int32), .int p3, .int p2, .int p4]) (rest := []) ⟨hx, hb, hml, hown, hts⟩ (c_R_resolved l dC dI ka qa H.size b0 b1 a0 a1 a2 a3 a4 a5 a6 a7 a8 a9 g_135 a11 a12 (2 : Int32) p3 p2 p4 hq_152 hq_153 hq_154 hq_155 hq_156 hq_157 hq_158) (cwV 4 hts k_g90 rfl rfl rfl (by decide +kernel) ⟨Nat.le_of_ble_eq_true rfl, Nat.le_of_ble_eq_true rfl⟩) ⟨fb_mu, va_recv hK hP (ci := 3) (q0 := 0) rfl rfl, fun U hU hW => ⟨rfl, by rw [hU], by rw [hU]; exact hP, va_K.moved hW.alike hK, NX.warm hW hN, hD.weaken (fun _ _ _ _ => trivial)⟩⟩ rfl rfl hl.1 rfl (lv_room (Nat.le_of_ble_eq_true rfl)) d_R_invoke_139 ⟨Nat.zero_le _, Nat.zero_le _⟩) hS (fun q _ h => hFc q h) hFc (fun r u t H1 locs ht hvm hpo hB hz1 hk1 hS => ?_)
                    obtain ⟨rfl, rfl⟩ := hpo
                    have hP : va_P (dC, dI) classes (wR ka qa b0 (s_R_resolved_b1 b0 a0 a1 a3 a4 a5 a6 a7 a8 a9 g_135 a12 (2 : Int32) p3 p2 p4) a0 a1 a2 a3 a4 a5 a6 a7 a8 a9 g_135 a11 (s_R_resolved_a12 b0 a0 a1 a3 a4 a5 a6 a7 a8 a9 g_135 a12 (2 : Int32) p3 p2 p4)) H1 := hp_to ht hB
                    have hD : va_D A (wR ka qa b0 (s_R_resolved_b1 b0 a0 a1 a3 a4 a5 a6 a7 a8 a9 g_135 a12 (2 : Int32) p3 p2 p4) a0 a1 a2 a3 a4 a5 a6 a7 a8 a9 g_135 a11 (s_R_resolved_a12 b0 a0 a1 a3 a4 a5 a6 a7 a8 a9 g_135 a12 (2 : Int32) p3 p2 p4)) := ad_R hD
                    generalize hg_159 : (s_R_resolved_b1 b0 a0 a1 a3 a4 a5 a6 a7 a8 a9 g_135 a12 (2 : Int32) p3 p2 p4) = g_159 at hP hD
                    generalize hg_160 : (s_R_resolved_a12 b0 a0 a1 a3 a4 a5 a6 a7 a8 a9 g_135 a12 (2 : Int32) p3 p2 p4) = g_160 at hP hD
                    generalize H1 = H at hP hS ⊢
                    refine lv_topi (fun x6 hx6 => ?_)
                    refine lv_istore (lv' := [(6, .int x6), (0, .ref (qa 0)), (1, .int p1), (2, .int p2), (3, .int p3), (4, .int p4), (5, .int p5)]) hx hb d_R_invoke_142 hl (by decide) rfl (fun ls hl => ?_)
                    refine lv_iload hx hb d_R_invoke_144 (lv_at hl 0 rfl) ?_
                    refine lv_if_ge (tgt := 152) hx hb d_R_invoke_146 (by decide) (fun c_161 => ?_) (fun c_161 => ?_)
                    · have c_161 : (0 : Int32) ≤ x6 := c_161
                      have hx6i : vp_in x6 13 := by rw [hx6]; exact in_rsd hT hpa hdi hdc (by with_reducible assumption) (by rw [← hx6]; with_reducible assumption)
                      refine lv_aload_n hx hb d_R_invoke_152 rfl (lv_at hl 1 rfl) ?_
                      refine lv_iload hx hb d_R_invoke_153 (lv_at hl 0 rfl) ?_
                      refine lv_iload hx hb d_R_invoke_155 (lv_at hl 5 rfl) ?_
                      have hq_162 : vp_in x6 13 := by first | with_reducible assumption | exact in_et et (leT hT et h2 (by with_reducible assumption)) | exact in_et et h2 | exact in_et eu (leT hT eu u2 (by with_reducible assumption)) | exact in_et eu u2
                      have hq_163 : vp_in p4 4 := by first | with_reducible assumption | exact jn_name (by with_reducible assumption)
                      refine va_calli (va_runV (As := [.int x6, .int p4]) (rest := []) ⟨hx, hb, hml, hown, hts⟩ (c_R_isStatic l dC dI ka qa H.size b0 g_159 a0 a1 a2 a3 a4 a5 a6 a7 a8 a9 g_135 a11 g_160 x6 p4 hq_162 hq_163) (cwV 2 hts k_g74 rfl rfl rfl (by decide +kernel) ⟨Nat.le_of_ble_eq_true rfl, Nat.le_of_ble_eq_true rfl⟩) ⟨fb_ro, va_recv hK hP (ci := 3) (q0 := 0) rfl rfl, fun U hU hW => ⟨rfl, by rw [hU], by rw [hU]; exact hP, va_K.moved hW.alike (hK), NX.warm hW hN⟩⟩ rfl rfl hl.1 rfl (lv_room (Nat.le_of_ble_eq_true rfl)) d_R_invoke_157 ⟨Nat.zero_le _, Nat.zero_le _⟩) hS (fun z h1 h2 => absurd h1 (Nat.not_lt.mpr h2)) (fun z h => hA z (Nat.le_trans hS.1 h)) (fun r u t H1 locs ht hvm hpo hB hz1 hk1 hS => ?_)
                      subst hpo
                      have hP := kp_P hP hk1
                      generalize H1 = H at hP hS ⊢
                      refine lv_iload_n hx hb d_R_invoke_160 rfl (lv_at hl 2 rfl) ?_
                      refine lv_iconst (v := (3 : Int32)) hx hb d_R_invoke_161 (by decide +kernel) ?_
                      refine lv_icmp_ne (tgt := 169) hx hb d_R_invoke_162 (by decide) (fun h => by rw [c_130] at h; exact absurd h (by decide +kernel)) (fun _ => ?_)
                      refine lv_iconst (v := (1 : Int32)) hx hb d_R_invoke_165 (by decide +kernel) ?_
                      refine lv_goto (tgt := 170) hx hb d_R_invoke_166 (by decide) ?_
                      refine lv_icmp_eq (tgt := 176) hx hb d_R_invoke_170 (by decide) (fun c_164 => ?_) (fun c_164 => ?_)
                      · have c_164 : (f_R_isStatic a9 x6 p4) = (1 : Int32) := c_164
                        refine lv_iload_n hx hb d_R_invoke_176 rfl (lv_at hl 2 rfl) ?_
                        refine lv_iconst (v := (3 : Int32)) hx hb d_R_invoke_177 (by decide +kernel) ?_
                        refine lv_icmp_ne (tgt := 184) hx hb d_R_invoke_178 (by decide) (fun h => by rw [c_130] at h; exact absurd h (by decide +kernel)) (fun _ => ?_)
                        refine lv_iload hx hb d_R_invoke_181 (lv_at hl 0 rfl) ?_
                        have hP9 : va_P (dC, dI) classes (wR ka qa b0 g_159 a0 a1 a2 a3 a4 a5 a6 a7 a8 a9 g_135 a11 g_160) H := hP
                        exact W.iret (v := x6) hx hb hr (fun t ht hW => ⟨⟨x6, (g_159, g_135, a11, g_160), rfl, ⟨by subst hg_135; subst hg_159; subst hg_160; subst hx6; unfold f_R_invoke; rw [if_neg c_1, if_neg c_2, if_neg c_3, if_neg c_4, if_neg c_5, if_neg c_42, if_neg c_83, if_pos c_136]; unfold f_R_invoke_c10; rw [if_neg c_138]; unfold f_R_invoke_c12; rw [if_pos c_161, if_pos c_164], (pr2 (by subst hg_135; subst hg_159; subst hg_160; subst hx6; unfold s_R_invoke_b1; rw [if_neg c_1, if_neg c_2, if_neg c_3, if_neg c_4, if_neg c_5, if_neg c_42, if_neg c_83, if_pos c_136]; unfold s_R_invoke_b1_c10; rw [if_neg c_138]; unfold s_R_invoke_b1_c12; rw [if_pos c_161, if_pos c_164]) (pr2 (by subst hg_135; subst hg_159; subst hg_160; subst hx6; unfold s_R_invoke_a10; rw [if_neg c_1, if_neg c_2, if_neg c_3, if_neg c_4, if_neg c_5, if_neg c_42, if_neg c_83, if_pos c_136]; unfold s_R_invoke_a10_c10; rw [if_neg c_138]; unfold s_R_invoke_a10_c12; rw [if_pos c_161, if_pos c_164]) (pr2 (by subst hg_135; subst hg_159; subst hg_160; subst hx6; unfold s_R_invoke_a11; rw [if_neg c_1, if_neg c_2, if_neg c_3, if_neg c_4, if_neg c_5, if_neg c_42, if_neg c_83, if_pos c_136]; unfold s_R_invoke_a11_c10; rw [if_neg c_138]; unfold s_R_invoke_a11_c12; rw [if_pos c_161, if_pos c_164]) (by subst hg_135; subst hg_159; subst hg_160; subst hx6; unfold s_R_invoke_a12; rw [if_neg c_1, if_neg c_2, if_neg c_3, if_neg c_4, if_neg c_5, if_neg c_42, if_neg c_83, if_pos c_136]; unfold s_R_invoke_a12_c10; rw [if_neg c_138]; unfold s_R_invoke_a12_c12; rw [if_pos c_161, if_pos c_164]))))⟩, hp_at ht hP9⟩, hS.F ht⟩) hS.2.2 d_R_invoke_183
                      · have c_164 : ¬ ((f_R_isStatic a9 x6 p4) = (1 : Int32)) := c_164
                        refine lv_bipush (v := (-6 : Int32)) hx hb d_R_invoke_173 (by decide +kernel) ?_
                        have hP9 : va_P (dC, dI) classes (wR ka qa b0 g_159 a0 a1 a2 a3 a4 a5 a6 a7 a8 a9 g_135 a11 g_160) H := hP
                        exact W.iret (v := (-6 : Int32)) hx hb hr (fun t ht hW => ⟨⟨(-6 : Int32), (g_159, g_135, a11, g_160), rfl, ⟨by subst hg_135; subst hg_159; subst hg_160; subst hx6; unfold f_R_invoke; rw [if_neg c_1, if_neg c_2, if_neg c_3, if_neg c_4, if_neg c_5, if_neg c_42, if_neg c_83, if_pos c_136]; unfold f_R_invoke_c10; rw [if_neg c_138]; unfold f_R_invoke_c12; rw [if_pos c_161, if_neg c_164], (pr2 (by subst hg_135; subst hg_159; subst hg_160; subst hx6; unfold s_R_invoke_b1; rw [if_neg c_1, if_neg c_2, if_neg c_3, if_neg c_4, if_neg c_5, if_neg c_42, if_neg c_83, if_pos c_136]; unfold s_R_invoke_b1_c10; rw [if_neg c_138]; unfold s_R_invoke_b1_c12; rw [if_pos c_161, if_neg c_164]) (pr2 (by subst hg_135; subst hg_159; subst hg_160; subst hx6; unfold s_R_invoke_a10; rw [if_neg c_1, if_neg c_2, if_neg c_3, if_neg c_4, if_neg c_5, if_neg c_42, if_neg c_83, if_pos c_136]; unfold s_R_invoke_a10_c10; rw [if_neg c_138]; unfold s_R_invoke_a10_c12; rw [if_pos c_161, if_neg c_164]) (pr2 (by subst hg_135; subst hg_159; subst hg_160; subst hx6; unfold s_R_invoke_a11; rw [if_neg c_1, if_neg c_2, if_neg c_3, if_neg c_4, if_neg c_5, if_neg c_42, if_neg c_83, if_pos c_136]; unfold s_R_invoke_a11_c10; rw [if_neg c_138]; unfold s_R_invoke_a11_c12; rw [if_pos c_161, if_neg c_164]) (by subst hg_135; subst hg_159; subst hg_160; subst hx6; unfold s_R_invoke_a12; rw [if_neg c_1, if_neg c_2, if_neg c_3, if_neg c_4, if_neg c_5, if_neg c_42, if_neg c_83, if_pos c_136]; unfold s_R_invoke_a12_c10; rw [if_neg c_138]; unfold s_R_invoke_a12_c12; rw [if_pos c_161, if_neg c_164]))))⟩, hp_at ht hP9⟩, hS.F ht⟩) hS.2.2 d_R_invoke_175
                    · have c_161 : ¬ ((0 : Int32) ≤ x6) := c_161
                      refine lv_iload hx hb d_R_invoke_149 (lv_at hl 0 rfl) ?_
                      have hP9 : va_P (dC, dI) classes (wR ka qa b0 g_159 a0 a1 a2 a3 a4 a5 a6 a7 a8 a9 g_135 a11 g_160) H := hP
                      exact W.iret (v := x6) hx hb hr (fun t ht hW => ⟨⟨x6, (g_159, g_135, a11, g_160), rfl, ⟨by subst hg_135; subst hg_159; subst hg_160; subst hx6; unfold f_R_invoke; rw [if_neg c_1, if_neg c_2, if_neg c_3, if_neg c_4, if_neg c_5, if_neg c_42, if_neg c_83, if_pos c_136]; unfold f_R_invoke_c10; rw [if_neg c_138]; unfold f_R_invoke_c12; rw [if_neg c_161], (pr2 (by subst hg_135; subst hg_159; subst hg_160; subst hx6; unfold s_R_invoke_b1; rw [if_neg c_1, if_neg c_2, if_neg c_3, if_neg c_4, if_neg c_5, if_neg c_42, if_neg c_83, if_pos c_136]; unfold s_R_invoke_b1_c10; rw [if_neg c_138]; unfold s_R_invoke_b1_c12; rw [if_neg c_161]) (pr2 (by subst hg_135; subst hg_159; subst hg_160; subst hx6; unfold s_R_invoke_a10; rw [if_neg c_1, if_neg c_2, if_neg c_3, if_neg c_4, if_neg c_5, if_neg c_42, if_neg c_83, if_pos c_136]; unfold s_R_invoke_a10_c10; rw [if_neg c_138]; unfold s_R_invoke_a10_c12; rw [if_neg c_161]) (pr2 (by subst hg_135; subst hg_159; subst hg_160; subst hx6; unfold s_R_invoke_a11; rw [if_neg c_1, if_neg c_2, if_neg c_3, if_neg c_4, if_neg c_5, if_neg c_42, if_neg c_83, if_pos c_136]; unfold s_R_invoke_a11_c10; rw [if_neg c_138]; unfold s_R_invoke_a11_c12; rw [if_neg c_161]) (by subst hg_135; subst hg_159; subst hg_160; subst hx6; unfold s_R_invoke_a12; rw [if_neg c_1, if_neg c_2, if_neg c_3, if_neg c_4, if_neg c_5, if_neg c_42, if_neg c_83, if_pos c_136]; unfold s_R_invoke_a12_c10; rw [if_neg c_138]; unfold s_R_invoke_a12_c12; rw [if_neg c_161]))))⟩, hp_at ht hP9⟩, hS.F ht⟩) hS.2.2 d_R_invoke_151
                · have c_136 : ¬ (p5 = (0 : Int32)) := c_136
                  refine lv_iconst (v := (-1 : Int32)) hx hb d_R_invoke_75 (by decide +kernel) ?_
                  have hP9 : va_P (dC, dI) classes (wR ka qa b0 b1 a0 a1 a2 a3 a4 a5 a6 a7 a8 a9 g_135 a11 a12) H := hP
                  exact W.iret (v := (-1 : Int32)) hx hb hr (fun t ht hW => ⟨⟨(-1 : Int32), (b1, g_135, a11, a12), rfl, ⟨by subst hg_135; unfold f_R_invoke; rw [if_neg c_1, if_neg c_2, if_neg c_3, if_neg c_4, if_neg c_5, if_neg c_42, if_neg c_83, if_neg c_136], (pr2 (by subst hg_135; unfold s_R_invoke_b1; rw [if_neg c_1, if_neg c_2, if_neg c_3, if_neg c_4, if_neg c_5, if_neg c_42, if_neg c_83, if_neg c_136]) (pr2 (by subst hg_135; unfold s_R_invoke_a10; rw [if_neg c_1, if_neg c_2, if_neg c_3, if_neg c_4, if_neg c_5, if_neg c_42, if_neg c_83, if_neg c_136]) (pr2 (by subst hg_135; unfold s_R_invoke_a11; rw [if_neg c_1, if_neg c_2, if_neg c_3, if_neg c_4, if_neg c_5, if_neg c_42, if_neg c_83, if_neg c_136]) (by subst hg_135; unfold s_R_invoke_a12; rw [if_neg c_1, if_neg c_2, if_neg c_3, if_neg c_4, if_neg c_5, if_neg c_42, if_neg c_83, if_neg c_136]))))⟩, hp_at ht hP9⟩, hS.F ht⟩) hS.2.2 d_R_invoke_76
        · have c_4 : (f_R_in p4 (0 : Int32) (3 : Int32)) = (0 : Int32) := c_4
          refine lv_iconst (v := (-1 : Int32)) hx hb d_R_invoke_35 (by decide +kernel) ?_
          have hP9 : va_P (dC, dI) classes (wR ka qa b0 b1 a0 a1 a2 a3 a4 a5 a6 a7 a8 a9 a10 a11 a12) H := hP
          exact W.iret (v := (-1 : Int32)) hx hb hr (fun t ht hW => ⟨⟨(-1 : Int32), (b1, a10, a11, a12), rfl, ⟨by unfold f_R_invoke; rw [if_neg c_1, if_neg c_2, if_neg c_3, if_pos c_4], (pr2 (by unfold s_R_invoke_b1; rw [if_neg c_1, if_neg c_2, if_neg c_3, if_pos c_4]) (pr2 (by unfold s_R_invoke_a10; rw [if_neg c_1, if_neg c_2, if_neg c_3, if_pos c_4]) (pr2 (by unfold s_R_invoke_a11; rw [if_neg c_1, if_neg c_2, if_neg c_3, if_pos c_4]) (by unfold s_R_invoke_a12; rw [if_neg c_1, if_neg c_2, if_neg c_3, if_pos c_4]))))⟩, hp_at ht hP9⟩, hS.F ht⟩) hS.2.2 d_R_invoke_36
