set_option maxHeartbeats 1000000 in
set_option maxRecDepth 100000 in
theorem c_R_overrides (l : Launch) (dC : Nat → ClassId) (dI : Nat → Nat → Nat) (ka : Nat → ClassId) (qa : Nat → Nat) (sz : Nat) (b0 b1 : Int32) (a0 a1 a2 a3 a4 a5 a6 a7 a8 a9 a10 a11 a12 : Nat → Int32) (p1 p2 p3 : Int32) (hT : vT b0) (hpa : vPar a4) (hdi : vDir a6) (hdc : vDc a7) (hz : vZ a11) : Met l y_R_overrides w_R_overrides ({ frames := 3, cells := 0, slots := 0, locals := 70 } : Room) (mu_P dC dI (wR ka qa b0 b1 a0 a1 a2 a3 a4 a5 a6 a7 a8 a9 a10 a11 a12) (tR ka) sz [.ref (qa 0), .int p1, .int p2, .int p3]) (mu_Q (fun (S9 : (Nat → Int32) × (Nat → Int32)) => (wR ka qa b0 b1 a0 a1 a2 a3 a4 a5 a6 a7 a8 a9 S9.1 S9.2 a12)) dC dI (f_R_overrides b0 a0 a3 a4 a6 a7 a9 a10 a11 p1 p2 p3) ((s_R_overrides_a10 b0 a0 a3 a4 a6 a7 a9 a10 a11 p1 p2 p3), (s_R_overrides_a11 b0 a0 a3 a4 a6 a7 a9 a10 a11 p1 p2 p3)) (va_A (wR ka qa b0 b1 a0 a1 a2 a3 a4 a5 a6 a7 a8 a9 a10 a11 a12) sz)) 0 0 (va_A (wR ka qa b0 b1 a0 a1 a2 a3 a4 a5 a6 a7 a8 a9 a10 a11 a12) sz) := by
  refine Met.ofW (cc := b_R_overrides) (maxL := 4) (ret := (some .boolean)) (by decide) rfl ?_
  intro p e s m args below meth c s₁ B hml hv
  obtain ⟨rfl, hsz, hP, hK, hN, hD0⟩ := hv
  have hx := B.exec
  have hb := B.bytes
  have hr := B.returns
  have hts := tl_of (atoms_spec (ws := w_R_overrides) B.pre)
  have hown : s.vm.findClass R_R = some m.cls := findClass_of_methodNamed B.named
  have hlocks := B.notSynchronized
  subst hsz
  have hD := hD0.self (sz := s.heap.size)
  generalize hAe : va_A (wR ka qa b0 b1 a0 a1 a2 a3 a4 a5 a6 a7 a8 a9 a10 a11 a12) s.heap.size = A at hD ⊢
  have hA : ∀ q : Nat, s.heap.size ≤ q → A q := fun q h => by rw [← hAe]; exact Or.inr h
  have hS : va_S A s.heap s.heap [] := va_S.rf
  have hl := lv_entry ([.ref (qa 0), .int p1, .int p2, .int p3]) (n := 4) (Nat.le_of_ble_eq_true rfl)
  rw [lg_entry_eq]
  generalize (lg_sl ([.ref (qa 0), .int p1, .int p2, .int p3]) ++ List.replicate (4 - (lg_sl ([.ref (qa 0), .int p1, .int p2, .int p3])).length) Slot.unset).toArray = ls at hl ⊢
  have hl : lv_has ls 4 [(0, .ref (qa 0)), (1, .int p1), (2, .int p2), (3, .int p3)] := hl
  refine lv_aload_n hx hb d_R_overrides_0 rfl (lv_at hl 0 rfl) ?_
  refine lv_iload_n hx hb d_R_overrides_1 rfl (lv_at hl 1 rfl) ?_
  refine va_calli (va_runV (As := [.int p1]) (rest := []) ⟨hx, hb, hml, hown, hts⟩ (c_R_there l dC dI ka qa s.heap.size b0 b1 a0 a1 a2 a3 a4 a5 a6 a7 a8 a9 a10 a11 a12 p1) (cwV 1 hts k_g72 rfl rfl rfl (by decide +kernel) ⟨Nat.le_of_ble_eq_true rfl, Nat.le_of_ble_eq_true rfl⟩) ⟨fb_ro, va_recv hK hP (ci := 3) (q0 := 0) rfl rfl, fun U hU hW => ⟨rfl, by rw [hU], by rw [hU]; exact hP, va_K.moved hW.alike (hK), NX.warm hW hN⟩⟩ rfl rfl hl.1 rfl (lv_room (Nat.le_of_ble_eq_true rfl)) d_R_overrides_2 ⟨Nat.zero_le _, Nat.zero_le _⟩) hS (fun z h1 h2 => absurd h1 (Nat.not_lt.mpr h2)) (fun z h => hA z (Nat.le_trans hS.1 h)) (fun r u t H1 locs ht hvm hpo hB hz1 hk1 hS => ?_)
  subst hpo
  have hP := kp_P hP hk1
  generalize H1 = H at hP hS ⊢
  refine lv_if_eq (tgt := 34) hx hb d_R_overrides_5 (by decide) (fun c_1 => ?_) (fun c_1 => ?_)
  · have c_1 : (f_R_there b0 p1) = (0 : Int32) := c_1
    refine lv_iconst (v := (0 : Int32)) hx hb d_R_overrides_34 (by decide +kernel) ?_
    have hP9 : va_P (dC, dI) classes (wR ka qa b0 b1 a0 a1 a2 a3 a4 a5 a6 a7 a8 a9 a10 a11 a12) H := hP
    exact W.zret (v := (0 : Int32)) hx hb hr (by decide +kernel) (fun t ht hW => ⟨⟨(0 : Int32), (a10, a11), rfl, ⟨by unfold f_R_overrides; rw [if_pos c_1], (pr2 (by unfold s_R_overrides_a10; rw [if_pos c_1]) (by unfold s_R_overrides_a11; rw [if_pos c_1]))⟩, hp_at ht hP9⟩, hS.F ht⟩) hS.2.2 d_R_overrides_35
  · have c_1 : ¬ ((f_R_there b0 p1) = (0 : Int32)) := c_1
    refine lv_aload_n hx hb d_R_overrides_8 rfl (lv_at hl 0 rfl) ?_
    refine lv_iload_n hx hb d_R_overrides_9 rfl (lv_at hl 2 rfl) ?_
    refine va_calli (va_runV (As := [.int p2]) (rest := []) ⟨hx, hb, hml, hown, hts⟩ (c_R_there l dC dI ka qa H.size b0 b1 a0 a1 a2 a3 a4 a5 a6 a7 a8 a9 a10 a11 a12 p2) (cwV 1 hts k_g72 rfl rfl rfl (by decide +kernel) ⟨Nat.le_of_ble_eq_true rfl, Nat.le_of_ble_eq_true rfl⟩) ⟨fb_ro, va_recv hK hP (ci := 3) (q0 := 0) rfl rfl, fun U hU hW => ⟨rfl, by rw [hU], by rw [hU]; exact hP, va_K.moved hW.alike (hK), NX.warm hW hN⟩⟩ rfl rfl hl.1 rfl (lv_room (Nat.le_of_ble_eq_true rfl)) d_R_overrides_10 ⟨Nat.zero_le _, Nat.zero_le _⟩) hS (fun z h1 h2 => absurd h1 (Nat.not_lt.mpr h2)) (fun z h => hA z (Nat.le_trans hS.1 h)) (fun r u t H1 locs ht hvm hpo hB hz1 hk1 hS => ?_)
    subst hpo
    have hP := kp_P hP hk1
    generalize H1 = H at hP hS ⊢
    refine lv_if_eq (tgt := 34) hx hb d_R_overrides_13 (by decide) (fun c_2 => ?_) (fun c_2 => ?_)
    · have c_2 : (f_R_there b0 p2) = (0 : Int32) := c_2
      refine lv_iconst (v := (0 : Int32)) hx hb d_R_overrides_34 (by decide +kernel) ?_
      have hP9 : va_P (dC, dI) classes (wR ka qa b0 b1 a0 a1 a2 a3 a4 a5 a6 a7 a8 a9 a10 a11 a12) H := hP
      exact W.zret (v := (0 : Int32)) hx hb hr (by decide +kernel) (fun t ht hW => ⟨⟨(0 : Int32), (a10, a11), rfl, ⟨by unfold f_R_overrides; rw [if_neg c_1, if_pos c_2], (pr2 (by unfold s_R_overrides_a10; rw [if_neg c_1, if_pos c_2]) (by unfold s_R_overrides_a11; rw [if_neg c_1, if_pos c_2]))⟩, hp_at ht hP9⟩, hS.F ht⟩) hS.2.2 d_R_overrides_35
    · have c_2 : ¬ ((f_R_there b0 p2) = (0 : Int32)) := c_2
      refine lv_iload_n hx hb d_R_overrides_16 rfl (lv_at hl 3 rfl) ?_
      refine lv_iconst (v := (0 : Int32)) hx hb d_R_overrides_17 (by decide +kernel) ?_
      refine lv_iconst (v := (3 : Int32)) hx hb d_R_overrides_18 (by decide +kernel) ?_
      refine va_calli (va_runS (As := [.int p3, .int (0 : Int32), .int (3 : Int32)]) (rest := []) ⟨hx, hb, hml, hown, hts⟩ (c_R_in l dC dI  H.size  p3 (0 : Int32) (3 : Int32)) (cwS 3 hts k_g69 rfl rfl rfl (by decide +kernel) ⟨Nat.le_of_ble_eq_true rfl, Nat.le_of_ble_eq_true rfl⟩) ⟨fb_ro, fun U hU hW => ⟨rfl, by rw [hU], by rw [hU]; exact hP.sub (ws' := ([] : va_W)) [] rfl, va_K.moved hW.alike (hK.sub (tys' := []) [] rfl), NX.warm hW hN⟩⟩ rfl rfl hl.1 rfl (lv_room (Nat.le_of_ble_eq_true rfl)) d_R_overrides_19 ⟨Nat.zero_le _, Nat.zero_le _⟩) hS (fun z h1 h2 => absurd h1 (Nat.not_lt.mpr h2)) (fun z h => hA z (Nat.le_trans hS.1 h)) (fun r u t H1 locs ht hvm hpo hB hz1 hk1 hS => ?_)
      subst hpo
      have hP := kp_P hP hk1
      generalize H1 = H at hP hS ⊢
      refine lv_if_eq (tgt := 34) hx hb d_R_overrides_22 (by decide) (fun c_3 => ?_) (fun c_3 => ?_)
      · have c_3 : (f_R_in p3 (0 : Int32) (3 : Int32)) = (0 : Int32) := c_3
        refine lv_iconst (v := (0 : Int32)) hx hb d_R_overrides_34 (by decide +kernel) ?_
        have hP9 : va_P (dC, dI) classes (wR ka qa b0 b1 a0 a1 a2 a3 a4 a5 a6 a7 a8 a9 a10 a11 a12) H := hP
        exact W.zret (v := (0 : Int32)) hx hb hr (by decide +kernel) (fun t ht hW => ⟨⟨(0 : Int32), (a10, a11), rfl, ⟨by unfold f_R_overrides; rw [if_neg c_1, if_neg c_2, if_pos c_3], (pr2 (by unfold s_R_overrides_a10; rw [if_neg c_1, if_neg c_2, if_pos c_3]) (by unfold s_R_overrides_a11; rw [if_neg c_1, if_neg c_2, if_pos c_3]))⟩, hp_at ht hP9⟩, hS.F ht⟩) hS.2.2 d_R_overrides_35
      · have c_3 : ¬ ((f_R_in p3 (0 : Int32) (3 : Int32)) = (0 : Int32)) := c_3
        refine lv_aload_n hx hb d_R_overrides_25 rfl (lv_at hl 0 rfl) ?_
        refine va_get (D := (dC, dI)) (ci := 3) (v := .ref (qa 1)) (C := R_R) (T := F_R) (N := 15) hx hb hts i_R hown hK hP 0 rfl rfl 1 (by decide) (hts _ k_52) (fun _ h9 => h9) rfl d_R_overrides_26 ?_
        refine lv_iload_n hx hb d_R_overrides_29 rfl (lv_at hl 1 rfl) ?_
        have hi_4 : vp_in p1 13 := by first | with_reducible assumption | exact rin_has hT (by with_reducible assumption)
        refine va_zald (D := (dC, dI)) (f := a0) hx hb hK hP 1 0 rfl rfl hi_4 d_R_overrides_30 ?_
        refine lv_if_eq (tgt := 36) hx hb d_R_overrides_31 (by decide) (fun c_5 => ?_) (fun c_5 => ?_)
        · have c_5 : (a0 p1.toNatClampNeg) = (0 : Int32) := c_5
          refine lv_aload_n hx hb d_R_overrides_36 rfl (lv_at hl 0 rfl) ?_
          refine lv_iload_n hx hb d_R_overrides_37 rfl (lv_at hl 3 rfl) ?_
          have hq_6 : vT b0 := by with_reducible assumption
          have hq_7 : vPar a4 := by with_reducible assumption
          have hq_8 : vDir a6 := by with_reducible assumption
          have hq_9 : vDc a7 := by with_reducible assumption
          have hq_10 : vp_in p3 4 := by first | with_reducible assumption | exact jn_name (by with_reducible assumption)
          have hFc := va_free (wc := (wR ka qa b0 b1 a0 a1 a2 a3 a4 a5 a6 a7 a8 a9 a10 a11 a12)) hD hS hA [0, 1, 2, 3, 4, 5, 6, 7, 8, 9, 10, 11, 12, 13] rfl
          refine va_callv (va_runV (As := [.int p3]) (rest := []) ⟨hx, hb, hml, hown, hts⟩ (c_R_fillCan l dC dI ka qa H.size b0 b1 a0 a1 a2 a3 a4 a5 a6 a7 a8 a9 a10 a11 a12 p3 hq_6 hq_7 hq_8 hq_9 hq_10) (cwV 1 hts k_g83 rfl rfl rfl (by decide +kernel) ⟨Nat.le_of_ble_eq_true rfl, Nat.le_of_ble_eq_true rfl⟩) ⟨fb_mu, va_recv hK hP (ci := 3) (q0 := 0) rfl rfl, fun U hU hW => ⟨rfl, by rw [hU], by rw [hU]; exact hP, va_K.moved hW.alike hK, NX.warm hW hN, hD.weaken (fun _ _ _ _ => trivial)⟩⟩ rfl rfl hl.1 rfl (lv_room (Nat.le_of_ble_eq_true rfl)) d_R_overrides_38 ⟨Nat.zero_le _, Nat.zero_le _⟩) hS (fun q _ h => hFc q h) hFc (fun u t H1 locs ht hvm hpo hB hz1 hk1 hS => ?_)
          subst hpo
          have hP : va_P (dC, dI) classes (wR ka qa b0 b1 a0 a1 a2 a3 a4 a5 a6 a7 a8 a9 (s_R_fillCan_a10 b0 a3 a4 a6 a7 a9 a10 a11 p3) (s_R_fillCan_a11 b0 a3 a4 a6 a7 a9 a10 a11 p3) a12) H1 := hp_to ht hB
          have hD : va_D A (wR ka qa b0 b1 a0 a1 a2 a3 a4 a5 a6 a7 a8 a9 (s_R_fillCan_a10 b0 a3 a4 a6 a7 a9 a10 a11 p3) (s_R_fillCan_a11 b0 a3 a4 a6 a7 a9 a10 a11 p3) a12) := ad_R hD
          generalize hg_11 : (s_R_fillCan_a10 b0 a3 a4 a6 a7 a9 a10 a11 p3) = g_11 at hP hD
          generalize hg_12 : (s_R_fillCan_a11 b0 a3 a4 a6 a7 a9 a10 a11 p3) = g_12 at hP hD
          generalize H1 = H at hP hS ⊢
          refine lv_aload_n hx hb d_R_overrides_41 rfl (lv_at hl 0 rfl) ?_
          refine va_get (D := (dC, dI)) (ci := 3) (v := .ref (qa 12)) (C := R_R) (T := F_R) (N := 15) hx hb hts i_R hown hK hP 0 rfl rfl 12 (by decide) (hts _ k_57) (fun _ h9 => h9) rfl d_R_overrides_42 ?_
          refine lv_bipush (v := (13 : Int32)) hx hb d_R_overrides_45 (by decide +kernel) ?_
          refine lv_iload_n hx hb d_R_overrides_47 rfl (lv_at hl 1 rfl) ?_
          refine lv_imul hx hb d_R_overrides_48 ?_
          refine lv_iload_n hx hb d_R_overrides_49 rfl (lv_at hl 2 rfl) ?_
          refine lv_iadd hx hb d_R_overrides_50 ?_
          have hi_13 : vp_in (((13 : Int32) * p1) + p2) 169 := by exact jn_169 (by first | with_reducible assumption | exact rin_has hT (by with_reducible assumption)) (by first | with_reducible assumption | exact rin_has hT (by with_reducible assumption))
          refine va_zald (D := (dC, dI)) (f := g_12) hx hb hK hP 12 11 rfl rfl hi_13 d_R_overrides_51 ?_
          have hP9 : va_P (dC, dI) classes (wR ka qa b0 b1 a0 a1 a2 a3 a4 a5 a6 a7 a8 a9 g_11 g_12 a12) H := hP
          exact W.zret (v := (g_12 (((13 : Int32) * p1) + p2).toNatClampNeg)) hx hb hr (by subst hg_12; exact vZ_fill hz _) (fun t ht hW => ⟨⟨(g_12 (((13 : Int32) * p1) + p2).toNatClampNeg), (g_11, g_12), rfl, ⟨by subst hg_11; subst hg_12; unfold f_R_overrides; rw [if_neg c_1, if_neg c_2, if_neg c_3, if_pos c_5], (pr2 (by subst hg_11; subst hg_12; unfold s_R_overrides_a10; rw [if_neg c_1, if_neg c_2, if_neg c_3, if_pos c_5]) (by subst hg_11; subst hg_12; unfold s_R_overrides_a11; rw [if_neg c_1, if_neg c_2, if_neg c_3, if_pos c_5]))⟩, hp_at ht hP9⟩, hS.F ht⟩) hS.2.2 d_R_overrides_52
        · have c_5 : ¬ ((a0 p1.toNatClampNeg) = (0 : Int32)) := c_5
          refine lv_iconst (v := (0 : Int32)) hx hb d_R_overrides_34 (by decide +kernel) ?_
          have hP9 : va_P (dC, dI) classes (wR ka qa b0 b1 a0 a1 a2 a3 a4 a5 a6 a7 a8 a9 a10 a11 a12) H := hP
          exact W.zret (v := (0 : Int32)) hx hb hr (by decide +kernel) (fun t ht hW => ⟨⟨(0 : Int32), (a10, a11), rfl, ⟨by unfold f_R_overrides; rw [if_neg c_1, if_neg c_2, if_neg c_3, if_neg c_5], (pr2 (by unfold s_R_overrides_a10; rw [if_neg c_1, if_neg c_2, if_neg c_3, if_neg c_5]) (by unfold s_R_overrides_a11; rw [if_neg c_1, if_neg c_2, if_neg c_3, if_neg c_5]))⟩, hp_at ht hP9⟩, hS.F ht⟩) hS.2.2 d_R_overrides_35
