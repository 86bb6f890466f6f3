set_option maxHeartbeats 1000000 in
set_option maxRecDepth 100000 in
theorem c_R_isA (l : Launch) (dC : Nat → ClassId) (dI : Nat → Nat → Nat) (ka : Nat → ClassId) (qa : Nat → Nat) (sz : Nat) (b0 b1 : Int32) (a0 a1 a2 a3 a4 a5 a6 a7 a8 a9 a10 a11 a12 : Nat → Int32) (p1 p2 : Int32) (hT : vT b0) (hpa : vPar a4) (hdi : vDir a6) (hdc : vDc a7) : Met l y_R_isA w_R_isA ({ frames := 2, cells := 0, slots := 0, locals := 43 } : Room) (mu_P dC dI (wR ka qa b0 b1 a0 a1 a2 a3 a4 a5 a6 a7 a8 a9 a10 a11 a12) (tR ka) sz [.ref (qa 0), .int p1, .int p2]) (mu_Q (fun (S9 : (Nat → Int32)) => (wR ka qa b0 b1 a0 a1 a2 a3 a4 a5 a6 a7 a8 a9 S9 a11 a12)) dC dI (f_R_isA b0 a4 a6 a7 a10 p1 p2) ((s_R_isA_a10 b0 a4 a6 a7 a10 p1 p2)) (va_A (wR ka qa b0 b1 a0 a1 a2 a3 a4 a5 a6 a7 a8 a9 a10 a11 a12) sz)) 0 0 (va_A (wR ka qa b0 b1 a0 a1 a2 a3 a4 a5 a6 a7 a8 a9 a10 a11 a12) sz) := by
  refine Met.ofW (cc := b_R_isA) (maxL := 3) (ret := (some .boolean)) (by decide) rfl ?_
  intro p e s m args below meth c s₁ B hml hv
  obtain ⟨rfl, hsz, hP, hK, hN, hD0⟩ := hv
  have hx := B.exec
  have hb := B.bytes
  have hr := B.returns
  have hts := tl_of (atoms_spec (ws := w_R_isA) B.pre)
  have hown : s.vm.findClass R_R = some m.cls := findClass_of_methodNamed B.named
  have hlocks := B.notSynchronized
  subst hsz
  have hD := hD0.self (sz := s.heap.size)
  generalize hAe : va_A (wR ka qa b0 b1 a0 a1 a2 a3 a4 a5 a6 a7 a8 a9 a10 a11 a12) s.heap.size = A at hD ⊢
  have hA : ∀ q : Nat, s.heap.size ≤ q → A q := fun q h => by rw [← hAe]; exact Or.inr h
  have hS : va_S A s.heap s.heap [] := va_S.rf
  have hl := lv_entry ([.ref (qa 0), .int p1, .int p2]) (n := 3) (Nat.le_of_ble_eq_true rfl)
  rw [lg_entry_eq]
  generalize (lg_sl ([.ref (qa 0), .int p1, .int p2]) ++ List.replicate (3 - (lg_sl ([.ref (qa 0), .int p1, .int p2])).length) Slot.unset).toArray = ls at hl ⊢
  have hl : lv_has ls 3 [(0, .ref (qa 0)), (1, .int p1), (2, .int p2)] := hl
  refine lv_aload_n hx hb d_R_isA_0 rfl (lv_at hl 0 rfl) ?_
  have hq_1 : vT b0 := by with_reducible assumption
  have hq_2 : vPar a4 := by with_reducible assumption
  have hq_3 : vDir a6 := by with_reducible assumption
  have hq_4 : vDc a7 := by with_reducible assumption
  have hFc := va_free (wc := (wR ka qa b0 b1 a0 a1 a2 a3 a4 a5 a6 a7 a8 a9 a10 a11 a12)) hD hS hA [0, 1, 2, 3, 4, 5, 6, 7, 8, 9, 10, 11, 12, 13] rfl
  refine va_callv (va_runV (As := []) (rest := []) ⟨hx, hb, hml, hown, hts⟩ (c_R_closeAbove l dC dI ka qa s.heap.size b0 b1 a0 a1 a2 a3 a4 a5 a6 a7 a8 a9 a10 a11 a12  hq_1 hq_2 hq_3 hq_4) (cwV 0 hts k_g81 rfl rfl rfl (by decide +kernel) ⟨Nat.le_of_ble_eq_true rfl, Nat.le_of_ble_eq_true rfl⟩) ⟨fb_mu, va_recv hK hP (ci := 3) (q0 := 0) rfl rfl, fun U hU hW => ⟨rfl, by rw [hU], by rw [hU]; exact hP, va_K.moved hW.alike hK, NX.warm hW hN, hD.weaken (fun _ _ _ _ => trivial)⟩⟩ rfl rfl hl.1 rfl (lv_room (Nat.le_of_ble_eq_true rfl)) d_R_isA_1 ⟨Nat.zero_le _, Nat.zero_le _⟩) hS (fun q _ h => hFc q h) hFc (fun u t H1 locs ht hvm hpo hB hz1 hk1 hS => ?_)
  subst hpo
  have hP : va_P (dC, dI) classes (wR ka qa b0 b1 a0 a1 a2 a3 a4 a5 a6 a7 a8 a9 (s_R_closeAbove_a10 b0 a4 a6 a7 a10) a11 a12) H1 := hp_to ht hB
  have hD : va_D A (wR ka qa b0 b1 a0 a1 a2 a3 a4 a5 a6 a7 a8 a9 (s_R_closeAbove_a10 b0 a4 a6 a7 a10) a11 a12) := ad_R hD
  generalize hg_5 : (s_R_closeAbove_a10 b0 a4 a6 a7 a10) = g_5 at hP hD
  generalize H1 = H at hP hS ⊢
  refine lv_aload_n hx hb d_R_isA_4 rfl (lv_at hl 0 rfl) ?_
  refine lv_iload_n hx hb d_R_isA_5 rfl (lv_at hl 1 rfl) ?_
  refine va_calli (va_runV (As := [.int p1]) (rest := []) ⟨hx, hb, hml, hown, hts⟩ (c_R_there l dC dI ka qa H.size b0 b1 a0 a1 a2 a3 a4 a5 a6 a7 a8 a9 g_5 a11 a12 p1) (cwV 1 hts k_g72 rfl rfl rfl (by decide +kernel) ⟨Nat.le_of_ble_eq_true rfl, Nat.le_of_ble_eq_true rfl⟩) ⟨fb_ro, va_recv hK hP (ci := 3) (q0 := 0) rfl rfl, fun U hU hW => ⟨rfl, by rw [hU], by rw [hU]; exact hP, va_K.moved hW.alike (hK), NX.warm hW hN⟩⟩ rfl rfl hl.1 rfl (lv_room (Nat.le_of_ble_eq_true rfl)) d_R_isA_6 ⟨Nat.zero_le _, Nat.zero_le _⟩) hS (fun z h1 h2 => absurd h1 (Nat.not_lt.mpr h2)) (fun z h => hA z (Nat.le_trans hS.1 h)) (fun r u t H1 locs ht hvm hpo hB hz1 hk1 hS => ?_)
  subst hpo
  have hP := kp_P hP hk1
  generalize H1 = H at hP hS ⊢
  refine lv_if_eq (tgt := 33) hx hb d_R_isA_9 (by decide) (fun c_6 => ?_) (fun c_6 => ?_)
  · have c_6 : (f_R_there b0 p1) = (0 : Int32) := c_6
    refine lv_iconst (v := (0 : Int32)) hx hb d_R_isA_33 (by decide +kernel) ?_
    have hP9 : va_P (dC, dI) classes (wR ka qa b0 b1 a0 a1 a2 a3 a4 a5 a6 a7 a8 a9 g_5 a11 a12) H := hP
    exact W.zret (v := (0 : Int32)) hx hb hr (by decide +kernel) (fun t ht hW => ⟨⟨(0 : Int32), (g_5), rfl, ⟨by subst hg_5; unfold f_R_isA; rw [if_pos c_6], (by subst hg_5; unfold s_R_isA_a10; rw [if_pos c_6])⟩, hp_at ht hP9⟩, hS.F ht⟩) hS.2.2 d_R_isA_34
  · have c_6 : ¬ ((f_R_there b0 p1) = (0 : Int32)) := c_6
    refine lv_aload_n hx hb d_R_isA_12 rfl (lv_at hl 0 rfl) ?_
    refine lv_iload_n hx hb d_R_isA_13 rfl (lv_at hl 2 rfl) ?_
    refine va_calli (va_runV (As := [.int p2]) (rest := []) ⟨hx, hb, hml, hown, hts⟩ (c_R_there l dC dI ka qa H.size b0 b1 a0 a1 a2 a3 a4 a5 a6 a7 a8 a9 g_5 a11 a12 p2) (cwV 1 hts k_g72 rfl rfl rfl (by decide +kernel) ⟨Nat.le_of_ble_eq_true rfl, Nat.le_of_ble_eq_true rfl⟩) ⟨fb_ro, va_recv hK hP (ci := 3) (q0 := 0) rfl rfl, fun U hU hW => ⟨rfl, by rw [hU], by rw [hU]; exact hP, va_K.moved hW.alike (hK), NX.warm hW hN⟩⟩ rfl rfl hl.1 rfl (lv_room (Nat.le_of_ble_eq_true rfl)) d_R_isA_14 ⟨Nat.zero_le _, Nat.zero_le _⟩) hS (fun z h1 h2 => absurd h1 (Nat.not_lt.mpr h2)) (fun z h => hA z (Nat.le_trans hS.1 h)) (fun r u t H1 locs ht hvm hpo hB hz1 hk1 hS => ?_)
    subst hpo
    have hP := kp_P hP hk1
    generalize H1 = H at hP hS ⊢
    refine lv_if_eq (tgt := 33) hx hb d_R_isA_17 (by decide) (fun c_7 => ?_) (fun c_7 => ?_)
    · have c_7 : (f_R_there b0 p2) = (0 : Int32) := c_7
      refine lv_iconst (v := (0 : Int32)) hx hb d_R_isA_33 (by decide +kernel) ?_
      have hP9 : va_P (dC, dI) classes (wR ka qa b0 b1 a0 a1 a2 a3 a4 a5 a6 a7 a8 a9 g_5 a11 a12) H := hP
      exact W.zret (v := (0 : Int32)) hx hb hr (by decide +kernel) (fun t ht hW => ⟨⟨(0 : Int32), (g_5), rfl, ⟨by subst hg_5; unfold f_R_isA; rw [if_neg c_6, if_pos c_7], (by subst hg_5; unfold s_R_isA_a10; rw [if_neg c_6, if_pos c_7])⟩, hp_at ht hP9⟩, hS.F ht⟩) hS.2.2 d_R_isA_34
    · have c_7 : ¬ ((f_R_there b0 p2) = (0 : Int32)) := c_7
      refine lv_aload_n hx hb d_R_isA_20 rfl (lv_at hl 0 rfl) ?_
      refine lv_iload_n hx hb d_R_isA_21 rfl (lv_at hl 1 rfl) ?_
      refine lv_iload_n hx hb d_R_isA_22 rfl (lv_at hl 2 rfl) ?_
      have hq_8 : vp_in p1 13 := by first | with_reducible assumption | exact rin_has hT (by with_reducible assumption)
      refine va_calli (va_runV (As := [.int p1, .int p2]) (rest := []) ⟨hx, hb, hml, hown, hts⟩ (c_R_is l dC dI ka qa H.size b0 b1 a0 a1 a2 a3 a4 a5 a6 a7 a8 a9 g_5 a11 a12 p1 p2 hq_8) (cwV 2 hts k_g70 rfl rfl rfl (by decide +kernel) ⟨Nat.le_of_ble_eq_true rfl, Nat.le_of_ble_eq_true rfl⟩) ⟨fb_ro, va_recv hK hP (ci := 3) (q0 := 0) rfl rfl, fun U hU hW => ⟨rfl, by rw [hU], by rw [hU]; exact hP, va_K.moved hW.alike (hK), NX.warm hW hN⟩⟩ rfl rfl hl.1 rfl (lv_room (Nat.le_of_ble_eq_true rfl)) d_R_isA_23 ⟨Nat.zero_le _, Nat.zero_le _⟩) hS (fun z h1 h2 => absurd h1 (Nat.not_lt.mpr h2)) (fun z h => hA z (Nat.le_trans hS.1 h)) (fun r u t H1 locs ht hvm hpo hB hz1 hk1 hS => ?_)
      subst hpo
      have hP := kp_P hP hk1
      generalize H1 = H at hP hS ⊢
      refine lv_if_eq (tgt := 33) hx hb d_R_isA_26 (by decide) (fun c_9 => ?_) (fun c_9 => ?_)
      · have c_9 : (f_R_is g_5 p1 p2) = (0 : Int32) := c_9
        refine lv_iconst (v := (0 : Int32)) hx hb d_R_isA_33 (by decide +kernel) ?_
        have hP9 : va_P (dC, dI) classes (wR ka qa b0 b1 a0 a1 a2 a3 a4 a5 a6 a7 a8 a9 g_5 a11 a12) H := hP
        exact W.zret (v := (0 : Int32)) hx hb hr (by decide +kernel) (fun t ht hW => ⟨⟨(0 : Int32), (g_5), rfl, ⟨by subst hg_5; unfold f_R_isA; rw [if_neg c_6, if_neg c_7, if_pos c_9], (by subst hg_5; unfold s_R_isA_a10; rw [if_neg c_6, if_neg c_7, if_pos c_9])⟩, hp_at ht hP9⟩, hS.F ht⟩) hS.2.2 d_R_isA_34
      · have c_9 : ¬ ((f_R_is g_5 p1 p2) = (0 : Int32)) := c_9
        refine lv_iconst (v := (1 : Int32)) hx hb d_R_isA_29 (by decide +kernel) ?_
        refine lv_goto (tgt := 34) hx hb d_R_isA_30 (by decide) ?_
        have hP9 : va_P (dC, dI) classes (wR ka qa b0 b1 a0 a1 a2 a3 a4 a5 a6 a7 a8 a9 g_5 a11 a12) H := hP
        exact W.zret (v := (1 : Int32)) hx hb hr (by decide +kernel) (fun t ht hW => ⟨⟨(1 : Int32), (g_5), rfl, ⟨by subst hg_5; unfold f_R_isA; rw [if_neg c_6, if_neg c_7, if_neg c_9], (by subst hg_5; unfold s_R_isA_a10; rw [if_neg c_6, if_neg c_7, if_neg c_9])⟩, hp_at ht hP9⟩, hS.F ht⟩) hS.2.2 d_R_isA_34
