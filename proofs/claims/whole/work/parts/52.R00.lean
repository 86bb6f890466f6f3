set_option maxHeartbeats 1000000 in
set_option maxRecDepth 100000 in
theorem c_R_use (l : Launch) (dC : Nat → ClassId) (dI : Nat → Nat → Nat) (ka : Nat → ClassId) (qa : Nat → Nat) (sz : Nat) (b0 b1 : Int32) (a0 a1 a2 a3 a4 a5 a6 a7 a8 a9 a10 a11 a12 : Nat → Int32) (p1 p2 p3 p4 : Int32) (hT : vT b0) (hpa : vPar a4) (hdi : vDir a6) (hdc : vDc a7) : Met l y_R_use w_R_use ({ frames := 6, cells := 0, slots := 0, locals := 147 } : Room) (mu_P dC dI (wR ka qa b0 b1 a0 a1 a2 a3 a4 a5 a6 a7 a8 a9 a10 a11 a12) (tR ka) sz [.ref (qa 0), .int p1, .int p2, .int p3, .int p4]) (mu_Q (fun (S9 : (Nat → Int32) × (Nat → Int32)) => (wR ka qa b0 b1 a0 a1 a2 a3 a4 a5 a6 a7 a8 a9 S9.1 a11 S9.2)) dC dI (f_R_use b0 a0 a1 a3 a4 a5 a6 a7 a8 a9 a10 a12 p1 p2 p3 p4) ((s_R_use_a10 b0 a0 a1 a3 a4 a5 a6 a7 a8 a9 a10 a12 p1 p2 p3 p4), (s_R_use_a12 b0 a0 a1 a3 a4 a5 a6 a7 a8 a9 a10 a12 p1 p2 p3 p4)) (va_A (wR ka qa b0 b1 a0 a1 a2 a3 a4 a5 a6 a7 a8 a9 a10 a11 a12) sz)) 0 0 (va_A (wR ka qa b0 b1 a0 a1 a2 a3 a4 a5 a6 a7 a8 a9 a10 a11 a12) sz) := by
  refine Met.ofW (cc := b_R_use) (maxL := 7) (ret := (some .int)) (by decide) rfl ?_
  intro p e s m args below meth c s₁ B hml hv
  obtain ⟨rfl, hsz, hP, hK, hN, hD0⟩ := hv
  have hx := B.exec
  have hb := B.bytes
  have hr := B.returns
  have hts := tl_of (atoms_spec (ws := w_R_use) B.pre)
  have hown : s.vm.findClass R_R = some m.cls := findClass_of_methodNamed B.named
  have hlocks := B.notSynchronized
  subst hsz
  have hD := hD0.self (sz := s.heap.size)
  generalize hAe : va_A (wR ka qa b0 b1 a0 a1 a2 a3 a4 a5 a6 a7 a8 a9 a10 a11 a12) s.heap.size = A at hD ⊢
  have hA : ∀ q : Nat, s.heap.size ≤ q → A q := fun q h => by rw [← hAe]; exact Or.inr h
  have hS : va_S A s.heap s.heap [] := va_S.rf
  have hl := lv_entry ([.ref (qa 0), .int p1, .int p2, .int p3, .int p4]) (n := 7) (Nat.le_of_ble_eq_true rfl)
  rw [lg_entry_eq]
  generalize (lg_sl ([.ref (qa 0), .int p1, .int p2, .int p3, .int p4]) ++ List.replicate (7 - (lg_sl ([.ref (qa 0), .int p1, .int p2, .int p3, .int p4])).length) Slot.unset).toArray = ls at hl ⊢
  have hl : lv_has ls 7 [(0, .ref (qa 0)), (1, .int p1), (2, .int p2), (3, .int p3), (4, .int p4)] := hl
  refine lv_aload_n hx hb d_R_use_0 rfl (lv_at hl 0 rfl) ?_
  refine lv_iload_n hx hb d_R_use_1 rfl (lv_at hl 1 rfl) ?_
  refine va_calli (va_runV (As := [.int p1]) (rest := []) ⟨hx, hb, hml, hown, hts⟩ (c_R_there l dC dI ka qa s.heap.size b0 b1 a0 a1 a2 a3 a4 a5 a6 a7 a8 a9 a10 a11 a12 p1) (cwV 1 hts k_g72 rfl rfl rfl (by decide +kernel) ⟨Nat.le_of_ble_eq_true rfl, Nat.le_of_ble_eq_true rfl⟩) ⟨fb_ro, va_recv hK hP (ci := 3) (q0 := 0) rfl rfl, fun U hU hW => ⟨rfl, by rw [hU], by rw [hU]; exact hP, va_K.moved hW.alike (hK), NX.warm hW hN⟩⟩ rfl rfl hl.1 rfl (lv_room (Nat.le_of_ble_eq_true rfl)) d_R_use_2 ⟨Nat.zero_le _, Nat.zero_le _⟩) hS (fun z h1 h2 => absurd h1 (Nat.not_lt.mpr h2)) (fun z h => hA z (Nat.le_trans hS.1 h)) (fun r u t H1 locs ht hvm hpo hB hz1 hk1 hS => ?_)
  subst hpo
  have hP := kp_P hP hk1
  generalize H1 = H at hP hS ⊢
  refine lv_if_eq (tgt := 25) hx hb d_R_use_5 (by decide) (fun c_1 => ?_) (fun c_1 => ?_)
  · have c_1 : (f_R_there b0 p1) = (0 : Int32) := c_1
    refine lv_iconst (v := (-1 : Int32)) hx hb d_R_use_25 (by decide +kernel) ?_
    have hP9 : va_P (dC, dI) classes (wR ka qa b0 b1 a0 a1 a2 a3 a4 a5 a6 a7 a8 a9 a10 a11 a12) H := hP
    exact W.iret (v := (-1 : Int32)) hx hb hr (fun t ht hW => ⟨⟨(-1 : Int32), (a10, a12), rfl, ⟨by unfold f_R_use; rw [if_pos c_1], (pr2 (by unfold s_R_use_a10; rw [if_pos c_1]) (by unfold s_R_use_a12; rw [if_pos c_1]))⟩, hp_at ht hP9⟩, hS.F ht⟩) hS.2.2 d_R_use_26
  · have c_1 : ¬ ((f_R_there b0 p1) = (0 : Int32)) := c_1
    refine lv_aload_n hx hb d_R_use_8 rfl (lv_at hl 0 rfl) ?_
    refine lv_iload_n hx hb d_R_use_9 rfl (lv_at hl 2 rfl) ?_
    refine va_calli (va_runV (As := [.int p2]) (rest := []) ⟨hx, hb, hml, hown, hts⟩ (c_R_there l dC dI ka qa H.size b0 b1 a0 a1 a2 a3 a4 a5 a6 a7 a8 a9 a10 a11 a12 p2) (cwV 1 hts k_g72 rfl rfl rfl (by decide +kernel) ⟨Nat.le_of_ble_eq_true rfl, Nat.le_of_ble_eq_true rfl⟩) ⟨fb_ro, va_recv hK hP (ci := 3) (q0 := 0) rfl rfl, fun U hU hW => ⟨rfl, by rw [hU], by rw [hU]; exact hP, va_K.moved hW.alike (hK), NX.warm hW hN⟩⟩ rfl rfl hl.1 rfl (lv_room (Nat.le_of_ble_eq_true rfl)) d_R_use_10 ⟨Nat.zero_le _, Nat.zero_le _⟩) hS (fun z h1 h2 => absurd h1 (Nat.not_lt.mpr h2)) (fun z h => hA z (Nat.le_trans hS.1 h)) (fun r u t H1 locs ht hvm hpo hB hz1 hk1 hS => ?_)
    subst hpo
    have hP := kp_P hP hk1
    generalize H1 = H at hP hS ⊢
    refine lv_if_eq (tgt := 25) hx hb d_R_use_13 (by decide) (fun c_2 => ?_) (fun c_2 => ?_)
    · have c_2 : (f_R_there b0 p2) = (0 : Int32) := c_2
      refine lv_iconst (v := (-1 : Int32)) hx hb d_R_use_25 (by decide +kernel) ?_
      have hP9 : va_P (dC, dI) classes (wR ka qa b0 b1 a0 a1 a2 a3 a4 a5 a6 a7 a8 a9 a10 a11 a12) H := hP
      exact W.iret (v := (-1 : Int32)) hx hb hr (fun t ht hW => ⟨⟨(-1 : Int32), (a10, a12), rfl, ⟨by unfold f_R_use; rw [if_neg c_1, if_pos c_2], (pr2 (by unfold s_R_use_a10; rw [if_neg c_1, if_pos c_2]) (by unfold s_R_use_a12; rw [if_neg c_1, if_pos c_2]))⟩, hp_at ht hP9⟩, hS.F ht⟩) hS.2.2 d_R_use_26
    · have c_2 : ¬ ((f_R_there b0 p2) = (0 : Int32)) := c_2
      refine lv_iload_n hx hb d_R_use_16 rfl (lv_at hl 3 rfl) ?_
      refine lv_iconst (v := (0 : Int32)) hx hb d_R_use_17 (by decide +kernel) ?_
      refine lv_iconst (v := (3 : Int32)) hx hb d_R_use_18 (by decide +kernel) ?_
      refine va_calli (va_runS (As := [.int p3, .int (0 : Int32), .int (3 : Int32)]) (rest := []) ⟨hx, hb, hml, hown, hts⟩ (c_R_in l dC dI  H.size  p3 (0 : Int32) (3 : Int32)) (cwS 3 hts k_g69 rfl rfl rfl (by decide +kernel) ⟨Nat.le_of_ble_eq_true rfl, Nat.le_of_ble_eq_true rfl⟩) ⟨fb_ro, fun U hU hW => ⟨rfl, by rw [hU], by rw [hU]; exact hP.sub (ws' := ([] : va_W)) [] rfl, va_K.moved hW.alike (hK.sub (tys' := []) [] rfl), NX.warm hW hN⟩⟩ rfl rfl hl.1 rfl (lv_room (Nat.le_of_ble_eq_true rfl)) d_R_use_19 ⟨Nat.zero_le _, Nat.zero_le _⟩) hS (fun z h1 h2 => absurd h1 (Nat.not_lt.mpr h2)) (fun z h => hA z (Nat.le_trans hS.1 h)) (fun r u t H1 locs ht hvm hpo hB hz1 hk1 hS => ?_)
      subst hpo
      have hP := kp_P hP hk1
      generalize H1 = H at hP hS ⊢
      refine lv_if_ne (tgt := 27) hx hb d_R_use_22 (by decide) (fun c_3 => ?_) (fun c_3 => ?_)
      · have c_3 : ¬ ((f_R_in p3 (0 : Int32) (3 : Int32)) = (0 : Int32)) := c_3
        refine lv_aload_n hx hb d_R_use_27 rfl (lv_at hl 0 rfl) ?_
        have hq_4 : vT b0 := by with_reducible assumption
        have hq_5 : vPar a4 := by with_reducible assumption
        have hq_6 : vDir a6 := by with_reducible assumption
        have hq_7 : vDc a7 := by with_reducible assumption
        have hFc := va_free (wc := (wR ka qa b0 b1 a0 a1 a2 a3 a4 a5 a6 a7 a8 a9 a10 a11 a12)) hD hS hA [0, 1, 2, 3, 4, 5, 6, 7, 8, 9, 10, 11, 12, 13] rfl
        refine va_callv (va_runV (As := []) (rest := []) ⟨hx, hb, hml, hown, hts⟩ (c_R_closeAbove l dC dI ka qa H.size b0 b1 a0 a1 a2 a3 a4 a5 a6 a7 a8 a9 a10 a11 a12  hq_4 hq_5 hq_6 hq_7) (cwV 0 hts k_g81 rfl rfl rfl (by decide +kernel) ⟨Nat.le_of_ble_eq_true rfl, Nat.le_of_ble_eq_true rfl⟩) ⟨fb_mu, va_recv hK hP (ci := 3) (q0 := 0) rfl rfl, fun U hU hW => ⟨rfl, by rw [hU], by rw [hU]; exact hP, va_K.moved hW.alike hK, NX.warm hW hN, hD.weaken (fun _ _ _ _ => trivial)⟩⟩ rfl rfl hl.1 rfl (lv_room (Nat.le_of_ble_eq_true rfl)) d_R_use_28 ⟨Nat.zero_le _, Nat.zero_le _⟩) hS (fun q _ h => hFc q h) hFc (fun u t H1 locs ht hvm hpo hB hz1 hk1 hS => ?_)
        subst hpo
        have hP : va_P (dC, dI) classes (wR ka qa b0 b1 a0 a1 a2 a3 a4 a5 a6 a7 a8 a9 (s_R_closeAbove_a10 b0 a4 a6 a7 a10) a11 a12) H1 := hp_to ht hB
        have hD : va_D A (wR ka qa b0 b1 a0 a1 a2 a3 a4 a5 a6 a7 a8 a9 (s_R_closeAbove_a10 b0 a4 a6 a7 a10) a11 a12) := ad_R hD
        generalize hg_8 : (s_R_closeAbove_a10 b0 a4 a6 a7 a10) = g_8 at hP hD
        generalize H1 = H at hP hS ⊢
        refine lv_aload_n hx hb d_R_use_31 rfl (lv_at hl 0 rfl) ?_
        refine va_get (D := (dC, dI)) (ci := 3) (v := .int b1) (C := R_R) (T := F_R) (N := 15) hx hb hts i_R hown hK hP 0 rfl rfl 14 (by decide) (hts _ k_56) (fun _ h9 => h9) rfl d_R_use_32 ?_
        refine lv_istore (lv' := [(5, .int b1), (0, .ref (qa 0)), (1, .int p1), (2, .int p2), (3, .int p3), (4, .int p4)]) hx hb d_R_use_35 hl (by decide) rfl (fun ls hl => ?_)
        refine lv_aload_n hx hb d_R_use_37 rfl (lv_at hl 1 rfl) ?_
        refine lv_iconst (v := (0 : Int32)) hx hb d_R_use_38 (by decide +kernel) ?_
        refine lv_iload_n hx hb d_R_use_39 rfl (lv_at hl 2 rfl) ?_
        refine lv_iload_n hx hb d_R_use_40 rfl (lv_at hl 3 rfl) ?_
        refine lv_iload_n hx hb d_R_use_41 rfl (lv_at hl 4 rfl) ?_
        have hq_9 : vT b0 := by with_reducible assumption
        have hq_10 : vPar a4 := by with_reducible assumption
        have hq_11 : vDir a6 := by with_reducible assumption
        have hq_12 : vDc a7 := by with_reducible assumption
        have hq_13 : vp_in p1 13 := by first | with_reducible assumption | exact rin_has hT (by with_reducible assumption)
        have hq_14 : vp_in p2 13 := by first | with_reducible assumption | exact rin_has hT (by with_reducible assumption)
        have hq_15 : vp_in p3 4 := by first | with_reducible assumption | exact jn_name (by with_reducible assumption)
        have hFc := va_free (wc := (wR ka qa b0 b1 a0 a1 a2 a3 a4 a5 a6 a7 a8 a9 g_8 a11 a12)) hD hS hA [0, 1, 2, 3, 4, 5, 6, 7, 8, 9, 10, 11, 12, 13] rfl
        refine va_calli (va_runV (As := [.int (0 : Int32), .int p1, .int p2, .int p3]) (rest := []) ⟨hx, hb, hml, hown, hts⟩ (c_R_resolved l dC dI ka qa H.size b0 b1 a0 a1 a2 a3 a4 a5 a6 a7 a8 a9 g_8 a11 a12 (0 : Int32) p1 p2 p3 hq_9 hq_10 hq_11 hq_12 hq_13 hq_14 hq_15) (cwV 4 hts k_g90 rfl rfl rfl (by decide +kernel) ⟨Nat.le_of_ble_eq_true rfl, Nat.le_of_ble_eq_true rfl⟩) ⟨fb_mu, va_recv hK hP (ci := 3) (q0 := 0) rfl rfl, fun U hU hW => ⟨rfl, by rw [hU], by rw [hU]; exact hP, va_K.moved hW.alike hK, NX.warm hW hN, hD.weaken (fun _ _ _ _ => trivial)⟩⟩ rfl rfl hl.1 rfl (lv_room (Nat.le_of_ble_eq_true rfl)) d_R_use_42 ⟨Nat.zero_le _, Nat.zero_le _⟩) hS (fun q _ h => hFc q h) hFc (fun r u t H1 locs ht hvm hpo hB hz1 hk1 hS => ?_)
        obtain ⟨rfl, rfl⟩ := hpo
        have hP : va_P (dC, dI) classes (wR ka qa b0 (s_R_resolved_b1 b0 a0 a1 a3 a4 a5 a6 a7 a8 a9 g_8 a12 (0 : Int32) p1 p2 p3) a0 a1 a2 a3 a4 a5 a6 a7 a8 a9 g_8 a11 (s_R_resolved_a12 b0 a0 a1 a3 a4 a5 a6 a7 a8 a9 g_8 a12 (0 : Int32) p1 p2 p3)) H1 := hp_to ht hB
        have hD : va_D A (wR ka qa b0 (s_R_resolved_b1 b0 a0 a1 a3 a4 a5 a6 a7 a8 a9 g_8 a12 (0 : Int32) p1 p2 p3) a0 a1 a2 a3 a4 a5 a6 a7 a8 a9 g_8 a11 (s_R_resolved_a12 b0 a0 a1 a3 a4 a5 a6 a7 a8 a9 g_8 a12 (0 : Int32) p1 p2 p3)) := ad_R hD
        generalize hg_16 : (s_R_resolved_b1 b0 a0 a1 a3 a4 a5 a6 a7 a8 a9 g_8 a12 (0 : Int32) p1 p2 p3) = g_16 at hP hD
        generalize hg_17 : (s_R_resolved_a12 b0 a0 a1 a3 a4 a5 a6 a7 a8 a9 g_8 a12 (0 : Int32) p1 p2 p3) = g_17 at hP hD
        generalize H1 = H at hP hS ⊢
        refine lv_istore (lv' := [(6, .int (f_R_resolved b0 a0 a1 a3 a4 a5 a6 a7 a8 a9 g_8 a12 (0 : Int32) p1 p2 p3)), (5, .int b1), (0, .ref (qa 0)), (1, .int p1), (2, .int p2), (3, .int p3), (4, .int p4)]) hx hb d_R_use_45 hl (by decide) rfl (fun ls hl => ?_)
        refine lv_aload_n hx hb d_R_use_47 rfl (lv_at hl 2 rfl) ?_
        refine lv_iload hx hb d_R_use_48 (lv_at hl 1 rfl) ?_
        refine va_put (D := (dC, dI)) (ci := 3) (v := .int b1) (ty := .int) (C := R_R) (T := F_R) (N := 15) hx hb hts i_R t_R t_R_ok n_R hown hK hP hD hS 0 rfl rfl 14 (by decide) (hts _ k_56) (fun _ h9 => h9) rfl (by decide +kernel) rfl rfl (Nat.le_of_ble_eq_true rfl) d_R_use_50 (fun H locs hP hD hS => ?_)
        have hP : va_P (dC, dI) classes (wR ka qa b0 b1 a0 a1 a2 a3 a4 a5 a6 a7 a8 a9 g_8 a11 g_17) H := hP
        have hD : va_D A (wR ka qa b0 b1 a0 a1 a2 a3 a4 a5 a6 a7 a8 a9 g_8 a11 g_17) := hD
        refine lv_iload hx hb d_R_use_53 (lv_at hl 0 rfl) ?_
        refine lv_if_le (tgt := 88) hx hb d_R_use_55 (by decide) (fun c_18 => ?_) (fun c_18 => ?_)
        · have c_18 : (f_R_resolved b0 a0 a1 a3 a4 a5 a6 a7 a8 a9 g_8 a12 (0 : Int32) p1 p2 p3) ≤ (0 : Int32) := c_18
          refine lv_iload hx hb d_R_use_88 (lv_at hl 0 rfl) ?_
          have hP9 : va_P (dC, dI) classes (wR ka qa b0 b1 a0 a1 a2 a3 a4 a5 a6 a7 a8 a9 g_8 a11 g_17) H := hP
          exact W.iret (v := (f_R_resolved b0 a0 a1 a3 a4 a5 a6 a7 a8 a9 g_8 a12 (0 : Int32) p1 p2 p3)) hx hb hr (fun t ht hW => ⟨⟨(f_R_resolved b0 a0 a1 a3 a4 a5 a6 a7 a8 a9 g_8 a12 (0 : Int32) p1 p2 p3), (g_8, g_17), rfl, ⟨by subst hg_8; subst hg_16; subst hg_17; unfold f_R_use; rw [if_neg c_1, if_neg c_2, if_neg c_3, if_pos c_18], (pr2 (by subst hg_8; subst hg_16; subst hg_17; unfold s_R_use_a10; rw [if_neg c_1, if_neg c_2, if_neg c_3, if_pos c_18]) (by subst hg_8; subst hg_16; subst hg_17; unfold s_R_use_a12; rw [if_neg c_1, if_neg c_2, if_neg c_3, if_pos c_18]))⟩, hp_at ht hP9⟩, hS.F ht⟩) hS.2.2 d_R_use_90
        · have c_18 : ¬ ((f_R_resolved b0 a0 a1 a3 a4 a5 a6 a7 a8 a9 g_8 a12 (0 : Int32) p1 p2 p3) ≤ (0 : Int32)) := c_18
          refine lv_aload_n hx hb d_R_use_58 rfl (lv_at hl 2 rfl) ?_
          refine va_get (D := (dC, dI)) (ci := 3) (v := .ref (qa 9)) (C := R_R) (T := F_R) (N := 15) hx hb hts i_R hown hK hP 0 rfl rfl 9 (by decide) (hts _ k_55) (fun _ h9 => h9) rfl d_R_use_59 ?_
          refine lv_iconst (v := (4 : Int32)) hx hb d_R_use_62 (by decide +kernel) ?_
          refine lv_iload hx hb d_R_use_63 (lv_at hl 0 rfl) ?_
          refine lv_imul hx hb d_R_use_65 ?_
          refine lv_iload_n hx hb d_R_use_66 rfl (lv_at hl 5 rfl) ?_
          refine lv_iadd hx hb d_R_use_67 ?_
          have hi_19 : vp_in (((4 : Int32) * (f_R_resolved b0 a0 a1 a3 a4 a5 a6 a7 a8 a9 g_8 a12 (0 : Int32) p1 p2 p3)) + p3) 52 := by first | with_reducible assumption | exact jn_52 (by first | with_reducible assumption | exact in_rsd hT hpa hdi hdc (by with_reducible assumption) (by with_reducible assumption) | exact in_rsd hT hpa hdi hdc (by with_reducible assumption) (ge_of (by with_reducible assumption))) (by first | with_reducible assumption | exact jn_name (by with_reducible assumption))
          refine va_iald (D := (dC, dI)) (f := a8) hx hb hK hP 9 8 rfl rfl hi_19 d_R_use_68 ?_
          refine lv_iconst (v := (4 : Int32)) hx hb d_R_use_69 (by decide +kernel) ?_
          refine lv_icmp_lt (tgt := 77) hx hb d_R_use_70 (by decide) (fun c_20 => ?_) (fun c_20 => ?_)
          · have c_20 : (a8 (((4 : Int32) * (f_R_resolved b0 a0 a1 a3 a4 a5 a6 a7 a8 a9 g_8 a12 (0 : Int32) p1 p2 p3)) + p3).toNatClampNeg) < (4 : Int32) := c_20
            refine lv_iconst (v := (0 : Int32)) hx hb d_R_use_77 (by decide +kernel) ?_
            refine lv_iload hx hb d_R_use_78 (lv_at hl 6 rfl) ?_
            refine lv_icmp_eq (tgt := 88) hx hb d_R_use_80 (by decide) (fun c_21 => ?_) (fun c_21 => ?_)
            · have c_21 : (0 : Int32) = p4 := c_21
              refine lv_iload hx hb d_R_use_88 (lv_at hl 0 rfl) ?_
              have hP9 : va_P (dC, dI) classes (wR ka qa b0 b1 a0 a1 a2 a3 a4 a5 a6 a7 a8 a9 g_8 a11 g_17) H := hP
              exact W.iret (v := (f_R_resolved b0 a0 a1 a3 a4 a5 a6 a7 a8 a9 g_8 a12 (0 : Int32) p1 p2 p3)) hx hb hr (fun t ht hW => ⟨⟨(f_R_resolved b0 a0 a1 a3 a4 a5 a6 a7 a8 a9 g_8 a12 (0 : Int32) p1 p2 p3), (g_8, g_17), rfl, ⟨by subst hg_8; subst hg_16; subst hg_17; unfold f_R_use; rw [if_neg c_1, if_neg c_2, if_neg c_3, if_neg c_18, if_pos c_20, if_pos c_21], (pr2 (by subst hg_8; subst hg_16; subst hg_17; unfold s_R_use_a10; rw [if_neg c_1, if_neg c_2, if_neg c_3, if_neg c_18, if_pos c_20, if_pos c_21]) (by subst hg_8; subst hg_16; subst hg_17; unfold s_R_use_a12; rw [if_neg c_1, if_neg c_2, if_neg c_3, if_neg c_18, if_pos c_20, if_pos c_21]))⟩, hp_at ht hP9⟩, hS.F ht⟩) hS.2.2 d_R_use_90
            · have c_21 : ¬ ((0 : Int32) = p4) := c_21
              refine lv_bipush (v := (-6 : Int32)) hx hb d_R_use_83 (by decide +kernel) ?_
              refine lv_goto (tgt := 90) hx hb d_R_use_85 (by decide) ?_
              have hP9 : va_P (dC, dI) classes (wR ka qa b0 b1 a0 a1 a2 a3 a4 a5 a6 a7 a8 a9 g_8 a11 g_17) H := hP
              exact W.iret (v := (-6 : Int32)) hx hb hr (fun t ht hW => ⟨⟨(-6 : Int32), (g_8, g_17), rfl, ⟨by subst hg_8; subst hg_16; subst hg_17; unfold f_R_use; rw [if_neg c_1, if_neg c_2, if_neg c_3, if_neg c_18, if_pos c_20, if_neg c_21], (pr2 (by subst hg_8; subst hg_16; subst hg_17; unfold s_R_use_a10; rw [if_neg c_1, if_neg c_2, if_neg c_3, if_neg c_18, if_pos c_20, if_neg c_21]) (by subst hg_8; subst hg_16; subst hg_17; unfold s_R_use_a12; rw [if_neg c_1, if_neg c_2, if_neg c_3, if_neg c_18, if_pos c_20, if_neg c_21]))⟩, hp_at ht hP9⟩, hS.F ht⟩) hS.2.2 d_R_use_90
          · have c_20 : ¬ ((a8 (((4 : Int32) * (f_R_resolved b0 a0 a1 a3 a4 a5 a6 a7 a8 a9 g_8 a12 (0 : Int32) p1 p2 p3)) + p3).toNatClampNeg) < (4 : Int32)) := c_20
            refine lv_iconst (v := (1 : Int32)) hx hb d_R_use_73 (by decide +kernel) ?_
            refine lv_goto (tgt := 78) hx hb d_R_use_74 (by decide) ?_
            refine lv_iload hx hb d_R_use_78 (lv_at hl 6 rfl) ?_
            refine lv_icmp_eq (tgt := 88) hx hb d_R_use_80 (by decide) (fun c_22 => ?_) (fun c_22 => ?_)
            · have c_22 : (1 : Int32) = p4 := c_22
              refine lv_iload hx hb d_R_use_88 (lv_at hl 0 rfl) ?_
              have hP9 : va_P (dC, dI) classes (wR ka qa b0 b1 a0 a1 a2 a3 a4 a5 a6 a7 a8 a9 g_8 a11 g_17) H := hP
              exact W.iret (v := (f_R_resolved b0 a0 a1 a3 a4 a5 a6 a7 a8 a9 g_8 a12 (0 : Int32) p1 p2 p3)) hx hb hr (fun t ht hW => ⟨⟨(f_R_resolved b0 a0 a1 a3 a4 a5 a6 a7 a8 a9 g_8 a12 (0 : Int32) p1 p2 p3), (g_8, g_17), rfl, ⟨by subst hg_8; subst hg_16; subst hg_17; unfold f_R_use; rw [if_neg c_1, if_neg c_2, if_neg c_3, if_neg c_18, if_neg c_20, if_pos c_22], (pr2 (by subst hg_8; subst hg_16; subst hg_17; unfold s_R_use_a10; rw [if_neg c_1, if_neg c_2, if_neg c_3, if_neg c_18, if_neg c_20, if_pos c_22]) (by subst hg_8; subst hg_16; subst hg_17; unfold s_R_use_a12; rw [if_neg c_1, if_neg c_2, if_neg c_3, if_neg c_18, if_neg c_20, if_pos c_22]))⟩, hp_at ht hP9⟩, hS.F ht⟩) hS.2.2 d_R_use_90
            · have c_22 : ¬ ((1 : Int32) = p4) := c_22
              refine lv_bipush (v := (-6 : Int32)) hx hb d_R_use_83 (by decide +kernel) ?_
              refine lv_goto (tgt := 90) hx hb d_R_use_85 (by decide) ?_
              have hP9 : va_P (dC, dI) classes (wR ka qa b0 b1 a0 a1 a2 a3 a4 a5 a6 a7 a8 a9 g_8 a11 g_17) H := hP
              exact W.iret (v := (-6 : Int32)) hx hb hr (fun t ht hW => ⟨⟨(-6 : Int32), (g_8, g_17), rfl, ⟨by subst hg_8; subst hg_16; subst hg_17; unfold f_R_use; rw [if_neg c_1, if_neg c_2, if_neg c_3, if_neg c_18, if_neg c_20, if_neg c_22], (pr2 (by subst hg_8; subst hg_16; subst hg_17; unfold s_R_use_a10; rw [if_neg c_1, if_neg c_2, if_neg c_3, if_neg c_18, if_neg c_20, if_neg c_22]) (by subst hg_8; subst hg_16; subst hg_17; unfold s_R_use_a12; rw [if_neg c_1, if_neg c_2, if_neg c_3, if_neg c_18, if_neg c_20, if_neg c_22]))⟩, hp_at ht hP9⟩, hS.F ht⟩) hS.2.2 d_R_use_90
      · have c_3 : (f_R_in p3 (0 : Int32) (3 : Int32)) = (0 : Int32) := c_3
        refine lv_iconst (v := (-1 : Int32)) hx hb d_R_use_25 (by decide +kernel) ?_
        have hP9 : va_P (dC, dI) classes (wR ka qa b0 b1 a0 a1 a2 a3 a4 a5 a6 a7 a8 a9 a10 a11 a12) H := hP
        exact W.iret (v := (-1 : Int32)) hx hb hr (fun t ht hW => ⟨⟨(-1 : Int32), (a10, a12), rfl, ⟨by unfold f_R_use; rw [if_neg c_1, if_neg c_2, if_pos c_3], (pr2 (by unfold s_R_use_a10; rw [if_neg c_1, if_neg c_2, if_pos c_3]) (by unfold s_R_use_a12; rw [if_neg c_1, if_neg c_2, if_pos c_3]))⟩, hp_at ht hP9⟩, hS.F ht⟩) hS.2.2 d_R_use_26
