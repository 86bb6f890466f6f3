set_option maxHeartbeats 1000000 in
set_option maxRecDepth 100000 in
theorem c_R_resolve (l : Launch) (dC : Nat → ClassId) (dI : Nat → Nat → Nat) (ka : Nat → ClassId) (qa : Nat → Nat) (sz : Nat) (b0 b1 : Int32) (a0 a1 a2 a3 a4 a5 a6 a7 a8 a9 a10 a11 a12 : Nat → Int32) (p1 p2 p3 p4 : Int32) (hT : vT b0) (hpa : vPar a4) (hdi : vDir a6) (hdc : vDc a7) : Met l y_R_resolve w_R_resolve ({ frames := 6, cells := 0, slots := 0, locals := 147 } : Room) (mu_P dC dI (wR ka qa b0 b1 a0 a1 a2 a3 a4 a5 a6 a7 a8 a9 a10 a11 a12) (tR ka) sz [.ref (qa 0), .int p1, .int p2, .int p3, .int p4]) (mu_Q (fun (S9 : Int32 × (Nat → Int32) × (Nat → Int32)) => (wR ka qa b0 S9.1 a0 a1 a2 a3 a4 a5 a6 a7 a8 a9 S9.2.1 a11 S9.2.2)) dC dI (f_R_resolve b0 b1 a0 a1 a3 a4 a5 a6 a7 a8 a9 a10 a12 p1 p2 p3 p4) ((s_R_resolve_b1 b0 b1 a0 a1 a3 a4 a5 a6 a7 a8 a9 a10 a12 p1 p2 p3 p4), (s_R_resolve_a10 b0 b1 a0 a1 a3 a4 a5 a6 a7 a8 a9 a10 a12 p1 p2 p3 p4), (s_R_resolve_a12 b0 b1 a0 a1 a3 a4 a5 a6 a7 a8 a9 a10 a12 p1 p2 p3 p4)) (va_A (wR ka qa b0 b1 a0 a1 a2 a3 a4 a5 a6 a7 a8 a9 a10 a11 a12) sz)) 0 0 (va_A (wR ka qa b0 b1 a0 a1 a2 a3 a4 a5 a6 a7 a8 a9 a10 a11 a12) sz) := by
  refine Met.ofW (cc := b_R_resolve) (maxL := 5) (ret := (some .int)) (by decide) rfl ?_
  intro p e s m args below meth c s₁ B hml hv
  obtain ⟨rfl, hsz, hP, hK, hN, hD0⟩ := hv
  have hx := B.exec
  have hb := B.bytes
  have hr := B.returns
  have hts := tl_of (atoms_spec (ws := w_R_resolve) B.pre)
  have hown : s.vm.findClass R_R = some m.cls := findClass_of_methodNamed B.named
  have hlocks := B.notSynchronized
  subst hsz
  have hD := hD0.self (sz := s.heap.size)
  generalize hAe : va_A (wR ka qa b0 b1 a0 a1 a2 a3 a4 a5 a6 a7 a8 a9 a10 a11 a12) s.heap.size = A at hD ⊢
  have hA : ∀ q : Nat, s.heap.size ≤ q → A q := fun q h => by rw [← hAe]; exact Or.inr h
  have hS : va_S A s.heap s.heap [] := va_S.rf
  have hl := lv_entry ([.ref (qa 0), .int p1, .int p2, .int p3, .int p4]) (n := 5) (Nat.le_of_ble_eq_true rfl)
  rw [lg_entry_eq]
  generalize (lg_sl ([.ref (qa 0), .int p1, .int p2, .int p3, .int p4]) ++ List.replicate (5 - (lg_sl ([.ref (qa 0), .int p1, .int p2, .int p3, .int p4])).length) Slot.unset).toArray = ls at hl ⊢
  have hl : lv_has ls 5 [(0, .ref (qa 0)), (1, .int p1), (2, .int p2), (3, .int p3), (4, .int p4)] := hl
  refine lv_iload_n hx hb d_R_resolve_0 rfl (lv_at hl 1 rfl) ?_
  refine lv_iconst (v := (0 : Int32)) hx hb d_R_resolve_1 (by decide +kernel) ?_
  refine lv_iconst (v := (2 : Int32)) hx hb d_R_resolve_2 (by decide +kernel) ?_
  refine va_calli (va_runS (As := [.int p1, .int (0 : Int32), .int (2 : Int32)]) (rest := []) ⟨hx, hb, hml, hown, hts⟩ (c_R_in l dC dI  s.heap.size  p1 (0 : Int32) (2 : Int32)) (cwS 3 hts k_g69 rfl rfl rfl (by decide +kernel) ⟨Nat.le_of_ble_eq_true rfl, Nat.le_of_ble_eq_true rfl⟩) ⟨fb_ro, fun U hU hW => ⟨rfl, by rw [hU], by rw [hU]; exact hP.sub (ws' := ([] : va_W)) [] rfl, va_K.moved hW.alike (hK.sub (tys' := []) [] rfl), NX.warm hW hN⟩⟩ rfl rfl hl.1 rfl (lv_room (Nat.le_of_ble_eq_true rfl)) d_R_resolve_3 ⟨Nat.zero_le _, Nat.zero_le _⟩) hS (fun z h1 h2 => absurd h1 (Nat.not_lt.mpr h2)) (fun z h => hA z (Nat.le_trans hS.1 h)) (fun r u t H1 locs ht hvm hpo hB hz1 hk1 hS => ?_)
  subst hpo
  have hP := kp_P hP hk1
  generalize H1 = H at hP hS ⊢
  refine lv_if_eq (tgt := 35) hx hb d_R_resolve_6 (by decide) (fun c_1 => ?_) (fun c_1 => ?_)
  · have c_1 : (f_R_in p1 (0 : Int32) (2 : Int32)) = (0 : Int32) := c_1
    refine lv_iconst (v := (-1 : Int32)) hx hb d_R_resolve_35 (by decide +kernel) ?_
    have hP9 : va_P (dC, dI) classes (wR ka qa b0 b1 a0 a1 a2 a3 a4 a5 a6 a7 a8 a9 a10 a11 a12) H := hP
    exact W.iret (v := (-1 : Int32)) hx hb hr (fun t ht hW => ⟨⟨(-1 : Int32), (b1, a10, a12), rfl, ⟨by unfold f_R_resolve; rw [if_pos c_1], (pr2 (by unfold s_R_resolve_b1; rw [if_pos c_1]) (pr2 (by unfold s_R_resolve_a10; rw [if_pos c_1]) (by unfold s_R_resolve_a12; rw [if_pos c_1])))⟩, hp_at ht hP9⟩, hS.F ht⟩) hS.2.2 d_R_resolve_36
  · have c_1 : ¬ ((f_R_in p1 (0 : Int32) (2 : Int32)) = (0 : Int32)) := c_1
    refine lv_aload_n hx hb d_R_resolve_9 rfl (lv_at hl 0 rfl) ?_
    refine lv_iload_n hx hb d_R_resolve_10 rfl (lv_at hl 2 rfl) ?_
    refine va_calli (va_runV (As := [.int p2]) (rest := []) ⟨hx, hb, hml, hown, hts⟩ (c_R_there l dC dI ka qa H.size b0 b1 a0 a1 a2 a3 a4 a5 a6 a7 a8 a9 a10 a11 a12 p2) (cwV 1 hts k_g72 rfl rfl rfl (by decide +kernel) ⟨Nat.le_of_ble_eq_true rfl, Nat.le_of_ble_eq_true rfl⟩) ⟨fb_ro, va_recv hK hP (ci := 3) (q0 := 0) rfl rfl, fun U hU hW => ⟨rfl, by rw [hU], by rw [hU]; exact hP, va_K.moved hW.alike (hK), NX.warm hW hN⟩⟩ rfl rfl hl.1 rfl (lv_room (Nat.le_of_ble_eq_true rfl)) d_R_resolve_11 ⟨Nat.zero_le _, Nat.zero_le _⟩) hS (fun z h1 h2 => absurd h1 (Nat.not_lt.mpr h2)) (fun z h => hA z (Nat.le_trans hS.1 h)) (fun r u t H1 locs ht hvm hpo hB hz1 hk1 hS => ?_)
    subst hpo
    have hP := kp_P hP hk1
    generalize H1 = H at hP hS ⊢
    refine lv_if_eq (tgt := 35) hx hb d_R_resolve_14 (by decide) (fun c_2 => ?_) (fun c_2 => ?_)
    · have c_2 : (f_R_there b0 p2) = (0 : Int32) := c_2
      refine lv_iconst (v := (-1 : Int32)) hx hb d_R_resolve_35 (by decide +kernel) ?_
      have hP9 : va_P (dC, dI) classes (wR ka qa b0 b1 a0 a1 a2 a3 a4 a5 a6 a7 a8 a9 a10 a11 a12) H := hP
      exact W.iret (v := (-1 : Int32)) hx hb hr (fun t ht hW => ⟨⟨(-1 : Int32), (b1, a10, a12), rfl, ⟨by unfold f_R_resolve; rw [if_neg c_1, if_pos c_2], (pr2 (by unfold s_R_resolve_b1; rw [if_neg c_1, if_pos c_2]) (pr2 (by unfold s_R_resolve_a10; rw [if_neg c_1, if_pos c_2]) (by unfold s_R_resolve_a12; rw [if_neg c_1, if_pos c_2])))⟩, hp_at ht hP9⟩, hS.F ht⟩) hS.2.2 d_R_resolve_36
    · have c_2 : ¬ ((f_R_there b0 p2) = (0 : Int32)) := c_2
      refine lv_aload_n hx hb d_R_resolve_17 rfl (lv_at hl 0 rfl) ?_
      refine lv_iload_n hx hb d_R_resolve_18 rfl (lv_at hl 3 rfl) ?_
      refine va_calli (va_runV (As := [.int p3]) (rest := []) ⟨hx, hb, hml, hown, hts⟩ (c_R_there l dC dI ka qa H.size b0 b1 a0 a1 a2 a3 a4 a5 a6 a7 a8 a9 a10 a11 a12 p3) (cwV 1 hts k_g72 rfl rfl rfl (by decide +kernel) ⟨Nat.le_of_ble_eq_true rfl, Nat.le_of_ble_eq_true rfl⟩) ⟨fb_ro, va_recv hK hP (ci := 3) (q0 := 0) rfl rfl, fun U hU hW => ⟨rfl, by rw [hU], by rw [hU]; exact hP, va_K.moved hW.alike (hK), NX.warm hW hN⟩⟩ rfl rfl hl.1 rfl (lv_room (Nat.le_of_ble_eq_true rfl)) d_R_resolve_19 ⟨Nat.zero_le _, Nat.zero_le _⟩) hS (fun z h1 h2 => absurd h1 (Nat.not_lt.mpr h2)) (fun z h => hA z (Nat.le_trans hS.1 h)) (fun r u t H1 locs ht hvm hpo hB hz1 hk1 hS => ?_)
      subst hpo
      have hP := kp_P hP hk1
      generalize H1 = H at hP hS ⊢
      refine lv_if_eq (tgt := 35) hx hb d_R_resolve_22 (by decide) (fun c_3 => ?_) (fun c_3 => ?_)
      · have c_3 : (f_R_there b0 p3) = (0 : Int32) := c_3
        refine lv_iconst (v := (-1 : Int32)) hx hb d_R_resolve_35 (by decide +kernel) ?_
        have hP9 : va_P (dC, dI) classes (wR ka qa b0 b1 a0 a1 a2 a3 a4 a5 a6 a7 a8 a9 a10 a11 a12) H := hP
        exact W.iret (v := (-1 : Int32)) hx hb hr (fun t ht hW => ⟨⟨(-1 : Int32), (b1, a10, a12), rfl, ⟨by unfold f_R_resolve; rw [if_neg c_1, if_neg c_2, if_pos c_3], (pr2 (by unfold s_R_resolve_b1; rw [if_neg c_1, if_neg c_2, if_pos c_3]) (pr2 (by unfold s_R_resolve_a10; rw [if_neg c_1, if_neg c_2, if_pos c_3]) (by unfold s_R_resolve_a12; rw [if_neg c_1, if_neg c_2, if_pos c_3])))⟩, hp_at ht hP9⟩, hS.F ht⟩) hS.2.2 d_R_resolve_36
      · have c_3 : ¬ ((f_R_there b0 p3) = (0 : Int32)) := c_3
        refine lv_iload hx hb d_R_resolve_25 (lv_at hl 4 rfl) ?_
        refine lv_iconst (v := (0 : Int32)) hx hb d_R_resolve_27 (by decide +kernel) ?_
        refine lv_iconst (v := (3 : Int32)) hx hb d_R_resolve_28 (by decide +kernel) ?_
        refine va_calli (va_runS (As := [.int p4, .int (0 : Int32), .int (3 : Int32)]) (rest := []) ⟨hx, hb, hml, hown, hts⟩ (c_R_in l dC dI  H.size  p4 (0 : Int32) (3 : Int32)) (cwS 3 hts k_g69 rfl rfl rfl (by decide +kernel) ⟨Nat.le_of_ble_eq_true rfl, Nat.le_of_ble_eq_true rfl⟩) ⟨fb_ro, fun U hU hW => ⟨rfl, by rw [hU], by rw [hU]; exact hP.sub (ws' := ([] : va_W)) [] rfl, va_K.moved hW.alike (hK.sub (tys' := []) [] rfl), NX.warm hW hN⟩⟩ rfl rfl hl.1 rfl (lv_room (Nat.le_of_ble_eq_true rfl)) d_R_resolve_29 ⟨Nat.zero_le _, Nat.zero_le _⟩) hS (fun z h1 h2 => absurd h1 (Nat.not_lt.mpr h2)) (fun z h => hA z (Nat.le_trans hS.1 h)) (fun r u t H1 locs ht hvm hpo hB hz1 hk1 hS => ?_)
        subst hpo
        have hP := kp_P hP hk1
        generalize H1 = H at hP hS ⊢
        refine lv_if_ne (tgt := 37) hx hb d_R_resolve_32 (by decide) (fun c_4 => ?_) (fun c_4 => ?_)
        · have c_4 : ¬ ((f_R_in p4 (0 : Int32) (3 : Int32)) = (0 : Int32)) := c_4
          refine lv_aload_n hx hb d_R_resolve_37 rfl (lv_at hl 0 rfl) ?_
          have hq_5 : vT b0 := by with_reducible assumption
          have hq_6 : vPar a4 := by with_reducible assumption
          have hq_7 : vDir a6 := by with_reducible assumption
          have hq_8 : vDc a7 := by with_reducible assumption
          have hFc := va_free (wc := (wR ka qa b0 b1 a0 a1 a2 a3 a4 a5 a6 a7 a8 a9 a10 a11 a12)) hD hS hA [0, 1, 2, 3, 4, 5, 6, 7, 8, 9, 10, 11, 12, 13] rfl
          refine va_callv (va_runV (As := []) (rest := []) ⟨hx, hb, hml, hown, hts⟩ (c_R_closeAbove l dC dI ka qa H.size b0 b1 a0 a1 a2 a3 a4 a5 a6 a7 a8 a9 a10 a11 a12  hq_5 hq_6 hq_7 hq_8) (cwV 0 hts k_g81 rfl rfl rfl (by decide +kernel) ⟨Nat.le_of_ble_eq_true rfl, Nat.le_of_ble_eq_true rfl⟩) ⟨fb_mu, va_recv hK hP (ci := 3) (q0 := 0) rfl rfl, fun U hU hW => ⟨rfl, by rw [hU], by rw [hU]; exact hP, va_K.moved hW.alike hK, NX.warm hW hN, hD.weaken (fun _ _ _ _ => trivial)⟩⟩ rfl rfl hl.1 rfl (lv_room (Nat.le_of_ble_eq_true rfl)) d_R_resolve_38 ⟨Nat.zero_le _, Nat.zero_le _⟩) hS (fun q _ h => hFc q h) hFc (fun u t H1 locs ht hvm hpo hB hz1 hk1 hS => ?_)
          subst hpo
          have hP : va_P (dC, dI) classes (wR ka qa b0 b1 a0 a1 a2 a3 a4 a5 a6 a7 a8 a9 (s_R_closeAbove_a10 b0 a4 a6 a7 a10) a11 a12) H1 := hp_to ht hB
          have hD : va_D A (wR ka qa b0 b1 a0 a1 a2 a3 a4 a5 a6 a7 a8 a9 (s_R_closeAbove_a10 b0 a4 a6 a7 a10) a11 a12) := ad_R hD
          generalize hg_9 : (s_R_closeAbove_a10 b0 a4 a6 a7 a10) = g_9 at hP hD
          generalize H1 = H at hP hS ⊢
          refine lv_aload_n hx hb d_R_resolve_41 rfl (lv_at hl 0 rfl) ?_
          refine lv_iload_n hx hb d_R_resolve_42 rfl (lv_at hl 1 rfl) ?_
          refine lv_iload_n hx hb d_R_resolve_43 rfl (lv_at hl 2 rfl) ?_
          refine lv_iload_n hx hb d_R_resolve_44 rfl (lv_at hl 3 rfl) ?_
          refine lv_iload hx hb d_R_resolve_45 (lv_at hl 4 rfl) ?_
          have hq_10 : vT b0 := by with_reducible assumption
          have hq_11 : vPar a4 := by with_reducible assumption
          have hq_12 : vDir a6 := by with_reducible assumption
          have hq_13 : vDc a7 := by with_reducible assumption
          have hq_14 : vp_in p2 13 := by first | with_reducible assumption | exact rin_has hT (by with_reducible assumption)
          have hq_15 : vp_in p3 13 := by first | with_reducible assumption | exact rin_has hT (by with_reducible assumption)
          have hq_16 : vp_in p4 4 := by first | with_reducible assumption | exact jn_name (by with_reducible assumption)
          have hFc := va_free (wc := (wR ka qa b0 b1 a0 a1 a2 a3 a4 a5 a6 a7 a8 a9 g_9 a11 a12)) hD hS hA [0, 1, 2, 3, 4, 5, 6, 7, 8, 9, 10, 11, 12, 13] rfl
          refine va_calli (va_runV (As := [.int p1, .int p2, .int p3, .int p4]) (rest := []) ⟨hx, hb, hml, hown, hts⟩ (c_R_resolved l dC dI ka qa H.size b0 b1 a0 a1 a2 a3 a4 a5 a6 a7 a8 a9 g_9 a11 a12 p1 p2 p3 p4 hq_10 hq_11 hq_12 hq_13 hq_14 hq_15 hq_16) (cwV 4 hts k_g90 rfl rfl rfl (by decide +kernel) ⟨Nat.le_of_ble_eq_true rfl, Nat.le_of_ble_eq_true rfl⟩) ⟨fb_mu, va_recv hK hP (ci := 3) (q0 := 0) rfl rfl, fun U hU hW => ⟨rfl, by rw [hU], by rw [hU]; exact hP, va_K.moved hW.alike hK, NX.warm hW hN, hD.weaken (fun _ _ _ _ => trivial)⟩⟩ rfl rfl hl.1 rfl (lv_room (Nat.le_of_ble_eq_true rfl)) d_R_resolve_47 ⟨Nat.zero_le _, Nat.zero_le _⟩) hS (fun q _ h => hFc q h) hFc (fun r u t H1 locs ht hvm hpo hB hz1 hk1 hS => ?_)
          obtain ⟨rfl, rfl⟩ := hpo
          have hP : va_P (dC, dI) classes (wR ka qa b0 (s_R_resolved_b1 b0 a0 a1 a3 a4 a5 a6 a7 a8 a9 g_9 a12 p1 p2 p3 p4) a0 a1 a2 a3 a4 a5 a6 a7 a8 a9 g_9 a11 (s_R_resolved_a12 b0 a0 a1 a3 a4 a5 a6 a7 a8 a9 g_9 a12 p1 p2 p3 p4)) H1 := hp_to ht hB
          have hD : va_D A (wR ka qa b0 (s_R_resolved_b1 b0 a0 a1 a3 a4 a5 a6 a7 a8 a9 g_9 a12 p1 p2 p3 p4) a0 a1 a2 a3 a4 a5 a6 a7 a8 a9 g_9 a11 (s_R_resolved_a12 b0 a0 a1 a3 a4 a5 a6 a7 a8 a9 g_9 a12 p1 p2 p3 p4)) := ad_R hD
          generalize hg_17 : (s_R_resolved_b1 b0 a0 a1 a3 a4 a5 a6 a7 a8 a9 g_9 a12 p1 p2 p3 p4) = g_17 at hP hD
          generalize hg_18 : (s_R_resolved_a12 b0 a0 a1 a3 a4 a5 a6 a7 a8 a9 g_9 a12 p1 p2 p3 p4) = g_18 at hP hD
          generalize H1 = H at hP hS ⊢
          have hP9 : va_P (dC, dI) classes (wR ka qa b0 g_17 a0 a1 a2 a3 a4 a5 a6 a7 a8 a9 g_9 a11 g_18) H := hP
          exact W.iret (v := (f_R_resolved b0 a0 a1 a3 a4 a5 a6 a7 a8 a9 g_9 a12 p1 p2 p3 p4)) hx hb hr (fun t ht hW => ⟨⟨(f_R_resolved b0 a0 a1 a3 a4 a5 a6 a7 a8 a9 g_9 a12 p1 p2 p3 p4), (g_17, g_9, g_18), rfl, ⟨by subst hg_9; subst hg_17; subst hg_18; unfold f_R_resolve; rw [if_neg c_1, if_neg c_2, if_neg c_3, if_neg c_4], (pr2 (by subst hg_9; subst hg_17; subst hg_18; unfold s_R_resolve_b1; rw [if_neg c_1, if_neg c_2, if_neg c_3, if_neg c_4]) (pr2 (by subst hg_9; subst hg_17; subst hg_18; unfold s_R_resolve_a10; rw [if_neg c_1, if_neg c_2, if_neg c_3, if_neg c_4]) (by subst hg_9; subst hg_17; subst hg_18; unfold s_R_resolve_a12; rw [if_neg c_1, if_neg c_2, if_neg c_3, if_neg c_4])))⟩, hp_at ht hP9⟩, hS.F ht⟩) hS.2.2 d_R_resolve_50
        · have c_4 : (f_R_in p4 (0 : Int32) (3 : Int32)) = (0 : Int32) := c_4
          refine lv_iconst (v := (-1 : Int32)) hx hb d_R_resolve_35 (by decide +kernel) ?_
          have hP9 : va_P (dC, dI) classes (wR ka qa b0 b1 a0 a1 a2 a3 a4 a5 a6 a7 a8 a9 a10 a11 a12) H := hP
          exact W.iret (v := (-1 : Int32)) hx hb hr (fun t ht hW => ⟨⟨(-1 : Int32), (b1, a10, a12), rfl, ⟨by unfold f_R_resolve; rw [if_neg c_1, if_neg c_2, if_neg c_3, if_pos c_4], (pr2 (by unfold s_R_resolve_b1; rw [if_neg c_1, if_neg c_2, if_neg c_3, if_pos c_4]) (pr2 (by unfold s_R_resolve_a10; rw [if_neg c_1, if_neg c_2, if_neg c_3, if_pos c_4]) (by unfold s_R_resolve_a12; rw [if_neg c_1, if_neg c_2, if_neg c_3, if_pos c_4])))⟩, hp_at ht hP9⟩, hS.F ht⟩) hS.2.2 d_R_resolve_36
