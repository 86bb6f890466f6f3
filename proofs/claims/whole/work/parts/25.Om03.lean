set_option maxHeartbeats 1000000 in
set_option maxRecDepth 100000 in
theorem c_O_invokeSpecial (l : Launch) (dC : Nat → ClassId) (dI : Nat → Nat → Nat) (h0 : Nat) (kw kf km : Nat → ClassId) (qw qf qm : Nat → Nat) (sz : Nat) (v : ES) (lc : Int32) (p1 p2 p3 : Int32) (hw : WF v.1) (hp1 : vp_in p1 13) (hp2 : vp_in p2 13) (hp3 : vp_in p3 4) : Met l y_O_invokeSpecial w_O_invokeSpecial ({ frames := 5, cells := 0, slots := 0, locals := 117 } : Room) (mu_P dC dI (wO h0 kw kf km qw qf qm v lc) (tO kw kf km) sz [.ref h0, .int p1, .int p2, .int p3]) (mu_Q (fun (S9 : Int32) => (wO h0 kw kf km qw qf qm v S9)) dC dI (f_O_invokeSpecial v p1 p2 p3) (s_O_invokeSpecial v p1 p2 p3) (va_A (wO h0 kw kf km qw qf qm v lc) sz)) 0 0 (va_A (wO h0 kw kf km qw qf qm v lc) sz) := by
  refine Met.ofW (cc := b_O_invokeSpecial) (maxL := 8) (ret := (some .int)) (by decide) rfl ?_
  intro p e s m args below meth c s₁ B hml hv
  obtain ⟨rfl, hsz, hP, hK, hN, hD0⟩ := hv
  have hx := B.exec
  have hb := B.bytes
  have hr := B.returns
  have hts := tl_of (atoms_spec (ws := w_O_invokeSpecial) B.pre)
  have hown : s.vm.findClass R_O = some m.cls := findClass_of_methodNamed B.named
  have hlocks := B.notSynchronized
  subst hsz
  have hD := hD0.self (sz := s.heap.size)
  generalize hAe : va_A (wO h0 kw kf km qw qf qm v lc) s.heap.size = A at hD ⊢
  have hA : ∀ q : Nat, s.heap.size ≤ q → A q := fun q h => by rw [← hAe]; exact Or.inr h
  have hS : va_S A s.heap s.heap [] := va_S.rf
  have hl := lv_entry ([.ref h0, .int p1, .int p2, .int p3]) (n := 8) (Nat.le_of_ble_eq_true rfl)
  rw [lg_entry_eq]
  generalize (lg_sl ([.ref h0, .int p1, .int p2, .int p3]) ++ List.replicate (8 - (lg_sl ([.ref h0, .int p1, .int p2, .int p3])).length) Slot.unset).toArray = ls at hl ⊢
  have hl : lv_has ls 8 [(0, .ref h0), (1, .int p1), (2, .int p2), (3, .int p3)] := hl
  refine lv_aload_n hx hb d_O_invokeSpecial_0 rfl (lv_at hl 0 rfl) ?_
  refine lv_aload_n hx hb d_O_invokeSpecial_1 rfl (lv_at hl 0 rfl) ?_
  refine va_get (D := (dC, dI)) (ci := 2) (v := .ref (qw 0)) (C := R_O) (T := F_O) (N := 4) hx hb hts i_O hown hK hP 0 rfl rfl 0 (by decide) (hts _ k_22) (fun _ h9 => h9) rfl d_O_invokeSpecial_2 ?_
  refine lv_iload_n hx hb d_O_invokeSpecial_5 rfl (lv_at hl 1 rfl) ?_
  refine va_calli (va_runV (As := [.int p1]) (rest := [.ref h0]) ⟨hx, hb, hml, hown, hts⟩ (c_W_isInterface l dC dI kw qw s.heap.size v.1  p1) (cwV 1 hts k_g33 rfl rfl rfl (by decide +kernel) ⟨Nat.le_of_ble_eq_true rfl, Nat.le_of_ble_eq_true rfl⟩) ⟨fb_ro, va_recv hK hP (ci := 0) (q0 := 1) rfl rfl, fun U hU hW => ⟨rfl, by rw [hU], by rw [hU]; exact hP.sub (ws' := (wW kw qw v.1)) [1, 2, 3, 4, 5, 6, 7] rfl, va_K.moved hW.alike (hK.sub (tys' := (tW kw)) [0, 1, 2, 3, 4, 5] rfl), NX.warm hW hN⟩⟩ rfl rfl hl.1 rfl (lv_room (Nat.le_of_ble_eq_true rfl)) d_O_invokeSpecial_6 ⟨Nat.zero_le _, Nat.zero_le _⟩) hS (fun z h1 h2 => absurd h1 (Nat.not_lt.mpr h2)) (fun z h => hA z (Nat.le_trans hS.1 h)) (fun r u t H1 locs ht hvm hpo hB hz1 hk1 hS => ?_)
  subst hpo
  have hP := kp_P hP hk1
  generalize H1 = H at hP hS ⊢
  refine lv_iload_n hx hb d_O_invokeSpecial_9 rfl (lv_at hl 2 rfl) ?_
  refine lv_iload_n hx hb d_O_invokeSpecial_10 rfl (lv_at hl 1 rfl) ?_
  refine lv_iload_n hx hb d_O_invokeSpecial_11 rfl (lv_at hl 3 rfl) ?_
  have hq_1 : WF v.1 := by first | with_reducible assumption | exact hw
  have hq_2 : vp_in p2 13 := by first | with_reducible assumption | exact in_has hw (by with_reducible assumption) | exact in_cls hw (by with_reducible assumption) | exact in_ifc hw (by with_reducible assumption) | exact in_ext hw (by with_reducible assumption) | exact in_eq0 (by with_reducible assumption) | exact hfd (by with_reducible assumption) | exact in_rcv hw (by with_reducible assumption) (Or.inl (by with_reducible assumption)) | exact in_rcv hw (by with_reducible assumption) (Or.inr (by with_reducible assumption))
  have hq_3 : vp_in p1 13 := by first | with_reducible assumption | exact in_has hw (by with_reducible assumption) | exact in_cls hw (by with_reducible assumption) | exact in_ifc hw (by with_reducible assumption) | exact in_ext hw (by with_reducible assumption) | exact in_eq0 (by with_reducible assumption) | exact hfd (by with_reducible assumption) | exact in_rcv hw (by with_reducible assumption) (Or.inl (by with_reducible assumption)) | exact in_rcv hw (by with_reducible assumption) (Or.inr (by with_reducible assumption))
  have hq_4 : vp_in p3 4 := by first | with_reducible assumption | exact in_name (by with_reducible assumption) | exact in4_4 (by with_reducible assumption) | exact in4_5 (by with_reducible assumption) | exact in4_6 (by with_reducible assumption) | exact in4_7 (by with_reducible assumption)
  have hPc := hP.sub (ws' := (wO h0 kw kf km qw qf qm v lc)) [0, 1, 2, 3, 4, 5, 6, 7, 8, 9, 10, 11, 12, 13, 14, 15, 16, 17, 18, 19] rfl
  have hDc := hD.sub (ws' := (wO h0 kw kf km qw qf qm v lc)) [0, 1, 2, 3, 4, 5, 6, 7, 8, 9, 10, 11, 12, 13, 14, 15, 16, 17, 18, 19] (by decide) rfl
  have hFc := va_free (wc := (wO h0 kw kf km qw qf qm v lc)) hD hS hA [0, 1, 2, 3, 4, 5, 6, 7, 8, 9, 10, 11, 12, 13, 14, 15, 16, 17, 18, 19] rfl
  refine va_calli (va_runV (As := [.int (f_W_isInterface v.1 p1), .int p2, .int p1, .int p3]) (rest := []) ⟨hx, hb, hml, hown, hts⟩ (c_O_resolveMethod l dC dI h0 kw kf km qw qf qm H.size v lc (f_W_isInterface v.1 p1) p2 p1 p3 hq_1 hq_2 hq_3 hq_4) (cwV 4 hts k_g36 rfl rfl rfl (by decide +kernel) ⟨Nat.le_of_ble_eq_true rfl, Nat.le_of_ble_eq_true rfl⟩) ⟨fb_mu, va_recv hK hP (ci := 2) (q0 := 0) rfl rfl, fun U hU hW => ⟨rfl, by rw [hU], by rw [hU]; exact hPc, va_K.moved hW.alike (hK.sub (tys' := (tO kw kf km)) [0, 1, 2, 3, 4, 5, 6, 7, 8, 9, 10, 11, 12, 13, 14, 15] rfl), NX.warm hW hN, hDc.weaken (fun _ _ _ _ => trivial)⟩⟩ rfl rfl hl.1 rfl (lv_room (Nat.le_of_ble_eq_true rfl)) d_O_invokeSpecial_12 ⟨Nat.zero_le _, Nat.zero_le _⟩) hS (fun q _ h => hFc q h) hFc (fun r u t H1 locs ht hvm hpo hB hz1 hk1 hS => ?_)
  obtain ⟨rfl, rfl⟩ := hpo
  have hB : va_P (dC, dI) classes (wO h0 kw kf km qw qf qm v (s_O_resolveMethod v (f_W_isInterface v.1 p1) p2 p1 p3)) H1 := hp_to ht hB
  obtain ⟨hP, hD⟩ := va_join (wr := ([] : va_W)) (w1 := (wO h0 kw kf km qw qf qm v (s_O_resolveMethod v (f_W_isInterface v.1 p1) p2 p1 p3))) hP hD [0, 1, 2, 3, 4, 5, 6, 7, 8, 9, 10, 11, 12, 13, 14, 15, 16, 17, 18, 19] [] rfl rfl (by decide) (by decide) hk1 hFc hB (ad_D hDc.self rfl)
  have hP := hP.sub (ws' := (wO h0 kw kf km qw qf qm v (s_O_resolveMethod v (f_W_isInterface v.1 p1) p2 p1 p3))) [0, 1, 2, 3, 4, 5, 6, 7, 8, 9, 10, 11, 12, 13, 14, 15, 16, 17, 18, 19] rfl
  have hD := hD.sub (ws' := (wO h0 kw kf km qw qf qm v (s_O_resolveMethod v (f_W_isInterface v.1 p1) p2 p1 p3))) [0, 1, 2, 3, 4, 5, 6, 7, 8, 9, 10, 11, 12, 13, 14, 15, 16, 17, 18, 19] (by decide) rfl
  generalize H1 = H at hP hS ⊢
  refine lv_istore (lv' := [(4, .int (f_O_resolveMethod v (f_W_isInterface v.1 p1) p2 p1 p3)), (0, .ref h0), (1, .int p1), (2, .int p2), (3, .int p3)]) hx hb d_O_invokeSpecial_15 hl (by decide) rfl (fun ls hl => ?_)
  refine lv_iload hx hb d_O_invokeSpecial_17 (lv_at hl 0 rfl) ?_
  refine lv_if_gt (tgt := 25) hx hb d_O_invokeSpecial_19 (by decide) (fun c_5 => ?_) (fun c_5 => ?_)
  · have c_5 : (0 : Int32) < (f_O_resolveMethod v (f_W_isInterface v.1 p1) p2 p1 p3) := c_5
    refine lv_aload_n hx hb d_O_invokeSpecial_25 rfl (lv_at hl 1 rfl) ?_
    refine va_get (D := (dC, dI)) (ci := 2) (v := .ref (qm 0)) (C := R_O) (T := F_O) (N := 4) hx hb hts i_O hown hK hP 0 rfl rfl 2 (by decide) (hts _ k_23) (fun _ h9 => h9) rfl d_O_invokeSpecial_26 ?_
    refine lv_iload hx hb d_O_invokeSpecial_29 (lv_at hl 0 rfl) ?_
    refine lv_iload_n hx hb d_O_invokeSpecial_31 rfl (lv_at hl 4 rfl) ?_
    have hq_6 : vp_in p3 4 := by first | with_reducible assumption | exact in_name (by with_reducible assumption) | exact in4_4 (by with_reducible assumption) | exact in4_5 (by with_reducible assumption) | exact in4_6 (by with_reducible assumption) | exact in4_7 (by with_reducible assumption)
    refine va_calli (va_runV (As := [.int (f_O_resolveMethod v (f_W_isInterface v.1 p1) p2 p1 p3), .int p3]) (rest := []) ⟨hx, hb, hml, hown, hts⟩ (c_M_isStatic l dC dI km qm H.size v.2.2  (f_O_resolveMethod v (f_W_isInterface v.1 p1) p2 p1 p3) p3 hq_6) (cwV 2 hts k_g37 rfl rfl rfl (by decide +kernel) ⟨Nat.le_of_ble_eq_true rfl, Nat.le_of_ble_eq_true rfl⟩) ⟨fb_ro, va_recv hK hP (ci := 1) (q0 := 14) rfl rfl, fun U hU hW => ⟨rfl, by rw [hU], by rw [hU]; exact hP.sub (ws' := (wM km qm v.2.2)) [14, 15, 16, 17, 18, 19] rfl, va_K.moved hW.alike (hK.sub (tys' := (tM km)) [11, 12, 13, 14, 15] rfl), NX.warm hW hN⟩⟩ rfl rfl hl.1 rfl (lv_room (Nat.le_of_ble_eq_true rfl)) d_O_invokeSpecial_32 ⟨Nat.zero_le _, Nat.zero_le _⟩) hS (fun z h1 h2 => absurd h1 (Nat.not_lt.mpr h2)) (fun z h => hA z (Nat.le_trans hS.1 h)) (fun r u t H1 locs ht hvm hpo hB hz1 hk1 hS => ?_)
    subst hpo
    have hP := kp_P hP hk1
    generalize H1 = H at hP hS ⊢
    refine lv_if_eq (tgt := 41) hx hb d_O_invokeSpecial_35 (by decide) (fun c_7 => ?_) (fun c_7 => ?_)
    · have c_7 : (f_M_isStatic v.2.2 (f_O_resolveMethod v (f_W_isInterface v.1 p1) p2 p1 p3) p3) = (0 : Int32) := c_7
      refine lv_aload_n hx hb d_O_invokeSpecial_41 rfl (lv_at hl 1 rfl) ?_
      refine va_get (D := (dC, dI)) (ci := 2) (v := .ref (qw 0)) (C := R_O) (T := F_O) (N := 4) hx hb hts i_O hown hK hP 0 rfl rfl 0 (by decide) (hts _ k_22) (fun _ h9 => h9) rfl d_O_invokeSpecial_42 ?_
      refine lv_iload_n hx hb d_O_invokeSpecial_45 rfl (lv_at hl 2 rfl) ?_
      refine va_calli (va_runV (As := [.int p1]) (rest := []) ⟨hx, hb, hml, hown, hts⟩ (c_W_isClass l dC dI kw qw H.size v.1  p1) (cwV 1 hts k_g32 rfl rfl rfl (by decide +kernel) ⟨Nat.le_of_ble_eq_true rfl, Nat.le_of_ble_eq_true rfl⟩) ⟨fb_ro, va_recv hK hP (ci := 0) (q0 := 1) rfl rfl, fun U hU hW => ⟨rfl, by rw [hU], by rw [hU]; exact hP.sub (ws' := (wW kw qw v.1)) [1, 2, 3, 4, 5, 6, 7] rfl, va_K.moved hW.alike (hK.sub (tys' := (tW kw)) [0, 1, 2, 3, 4, 5] rfl), NX.warm hW hN⟩⟩ rfl rfl hl.1 rfl (lv_room (Nat.le_of_ble_eq_true rfl)) d_O_invokeSpecial_46 ⟨Nat.zero_le _, Nat.zero_le _⟩) hS (fun z h1 h2 => absurd h1 (Nat.not_lt.mpr h2)) (fun z h => hA z (Nat.le_trans hS.1 h)) (fun r u t H1 locs ht hvm hpo hB hz1 hk1 hS => ?_)
      subst hpo
      have hP := kp_P hP hk1
      generalize H1 = H at hP hS ⊢
      refine lv_if_eq (tgt := 61) hx hb d_O_invokeSpecial_49 (by decide) (fun c_8 => ?_) (fun c_8 => ?_)
      · have c_8 : (f_W_isClass v.1 p1) = (0 : Int32) := c_8
        refine lv_iconst (v := (0 : Int32)) hx hb d_O_invokeSpecial_61 (by decide +kernel) ?_
        refine lv_istore (lv' := [(5, .int (0 : Int32)), (4, .int (f_O_resolveMethod v (f_W_isInterface v.1 p1) p2 p1 p3)), (0, .ref h0), (1, .int p1), (2, .int p2), (3, .int p3)]) hx hb d_O_invokeSpecial_62 hl (by decide) rfl (fun ls hl => ?_)
        refine lv_iload hx hb d_O_invokeSpecial_64 (lv_at hl 0 rfl) ?_
        refine lv_if_eq (tgt := 80) hx hb d_O_invokeSpecial_66 (by decide) (fun c_9 => ?_) (fun c_9 => ?_)
        · have c_9 : (0 : Int32) = (0 : Int32) := c_9
          refine lv_iload_n hx hb d_O_invokeSpecial_80 rfl (lv_at hl 3 rfl) ?_
          refine lv_istore (lv' := [(6, .int p1), (5, .int (0 : Int32)), (4, .int (f_O_resolveMethod v (f_W_isInterface v.1 p1) p2 p1 p3)), (0, .ref h0), (1, .int p1), (2, .int p2), (3, .int p3)]) hx hb d_O_invokeSpecial_81 hl (by decide) rfl (fun ls hl => ?_)
          refine lv_aload_n hx hb d_O_invokeSpecial_83 rfl (lv_at hl 3 rfl) ?_
          refine va_get (D := (dC, dI)) (ci := 2) (v := .ref (qw 0)) (C := R_O) (T := F_O) (N := 4) hx hb hts i_O hown hK hP 0 rfl rfl 0 (by decide) (hts _ k_22) (fun _ h9 => h9) rfl d_O_invokeSpecial_84 ?_
          refine lv_iload hx hb d_O_invokeSpecial_87 (lv_at hl 0 rfl) ?_
          have hq_10 : vp_in p1 13 := by first | with_reducible assumption | exact in_has hw (by with_reducible assumption) | exact in_cls hw (by with_reducible assumption) | exact in_ifc hw (by with_reducible assumption) | exact in_ext hw (by with_reducible assumption) | exact in_eq0 (by with_reducible assumption) | exact hfd (by with_reducible assumption) | exact in_rcv hw (by with_reducible assumption) (Or.inl (by with_reducible assumption)) | exact in_rcv hw (by with_reducible assumption) (Or.inr (by with_reducible assumption))
          refine va_calli (va_runV (As := [.int p1]) (rest := []) ⟨hx, hb, hml, hown, hts⟩ (c_W_chain l dC dI kw qw H.size v.1  p1 hq_10) (cwV 1 hts k_g21 rfl rfl rfl (by decide +kernel) ⟨Nat.le_of_ble_eq_true rfl, Nat.le_of_ble_eq_true rfl⟩) ⟨fb_ro, va_recv hK hP (ci := 0) (q0 := 1) rfl rfl, fun U hU hW => ⟨rfl, by rw [hU], by rw [hU]; exact hP.sub (ws' := (wW kw qw v.1)) [1, 2, 3, 4, 5, 6, 7] rfl, va_K.moved hW.alike (hK.sub (tys' := (tW kw)) [0, 1, 2, 3, 4, 5] rfl), NX.warm hW hN⟩⟩ rfl rfl hl.1 rfl (lv_room (Nat.le_of_ble_eq_true rfl)) d_O_invokeSpecial_89 ⟨Nat.zero_le _, Nat.zero_le _⟩) hS (fun z h1 h2 => absurd h1 (Nat.not_lt.mpr h2)) (fun z h => hA z (Nat.le_trans hS.1 h)) (fun r u t H1 locs ht hvm hpo hB hz1 hk1 hS => ?_)
          subst hpo
          have hP := kp_P hP hk1
          generalize H1 = H at hP hS ⊢
          refine lv_aload_n hx hb d_O_invokeSpecial_92 rfl (lv_at hl 3 rfl) ?_
          refine va_get (D := (dC, dI)) (ci := 2) (v := .ref (qm 0)) (C := R_O) (T := F_O) (N := 4) hx hb hts i_O hown hK hP 0 rfl rfl 2 (by decide) (hts _ k_23) (fun _ h9 => h9) rfl d_O_invokeSpecial_93 ?_
          refine lv_iload_n hx hb d_O_invokeSpecial_96 rfl (lv_at hl 6 rfl) ?_
          have hq_11 : vp_in p3 4 := by first | with_reducible assumption | exact in_name (by with_reducible assumption) | exact in4_4 (by with_reducible assumption) | exact in4_5 (by with_reducible assumption) | exact in4_6 (by with_reducible assumption) | exact in4_7 (by with_reducible assumption)
          refine va_calli (va_runV (As := [.int p3]) (rest := [.int (f_W_chain v.1 p1)]) ⟨hx, hb, hml, hown, hts⟩ (c_M_instances l dC dI km qm H.size v.2.2  p3 hq_11) (cwV 1 hts k_g20 rfl rfl rfl (by decide +kernel) ⟨Nat.le_of_ble_eq_true rfl, Nat.le_of_ble_eq_true rfl⟩) ⟨fb_ro, va_recv hK hP (ci := 1) (q0 := 14) rfl rfl, fun U hU hW => ⟨rfl, by rw [hU], by rw [hU]; exact hP.sub (ws' := (wM km qm v.2.2)) [14, 15, 16, 17, 18, 19] rfl, va_K.moved hW.alike (hK.sub (tys' := (tM km)) [11, 12, 13, 14, 15] rfl), NX.warm hW hN⟩⟩ rfl rfl hl.1 rfl (lv_room (Nat.le_of_ble_eq_true rfl)) d_O_invokeSpecial_97 ⟨Nat.zero_le _, Nat.zero_le _⟩) hS (fun z h1 h2 => absurd h1 (Nat.not_lt.mpr h2)) (fun z h => hA z (Nat.le_trans hS.1 h)) (fun r u t H1 locs ht hvm hpo hB hz1 hk1 hS => ?_)
          subst hpo
          have hP := kp_P hP hk1
          generalize H1 = H at hP hS ⊢
          refine lv_iand hx hb d_O_invokeSpecial_100 ?_
          refine va_calli (va_runS (As := [.int ((f_W_chain v.1 p1) &&& (f_M_instances v.2.2 p3))]) (rest := []) ⟨hx, hb, hml, hown, hts⟩ (c_O_greatestOf l dC dI  H.size   ((f_W_chain v.1 p1) &&& (f_M_instances v.2.2 p3))) (cwS 1 hts k_g34 rfl rfl rfl (by decide +kernel) ⟨Nat.le_of_ble_eq_true rfl, Nat.le_of_ble_eq_true rfl⟩) ⟨fb_ro, fun U hU hW => ⟨rfl, by rw [hU], by rw [hU]; exact hP.sub (ws' := ([] : va_W)) [] rfl, va_K.moved hW.alike (hK.sub (tys' := []) [] rfl), NX.warm hW hN⟩⟩ rfl rfl hl.1 rfl (lv_room (Nat.le_of_ble_eq_true rfl)) d_O_invokeSpecial_101 ⟨Nat.zero_le _, Nat.zero_le _⟩) hS (fun z h1 h2 => absurd h1 (Nat.not_lt.mpr h2)) (fun z h => hA z (Nat.le_trans hS.1 h)) (fun r u t H1 locs ht hvm hpo hB hz1 hk1 hS => ?_)
          subst hpo
          have hP := kp_P hP hk1
          generalize H1 = H at hP hS ⊢
          refine lv_istore (lv' := [(7, .int (f_O_greatestOf ((f_W_chain v.1 p1) &&& (f_M_instances v.2.2 p3)))), (6, .int p1), (5, .int (0 : Int32)), (4, .int (f_O_resolveMethod v (f_W_isInterface v.1 p1) p2 p1 p3)), (0, .ref h0), (1, .int p1), (2, .int p2), (3, .int p3)]) hx hb d_O_invokeSpecial_104 hl (by decide) rfl (fun ls hl => ?_)
          refine lv_iload hx hb d_O_invokeSpecial_106 (lv_at hl 0 rfl) ?_
          refine lv_if_ne (tgt := 120) hx hb d_O_invokeSpecial_108 (by decide) (fun c_12 => ?_) (fun c_12 => ?_)
          · have c_12 : ¬ ((f_O_greatestOf ((f_W_chain v.1 p1) &&& (f_M_instances v.2.2 p3))) = (0 : Int32)) := c_12
            refine lv_aload_n hx hb d_O_invokeSpecial_120 rfl (lv_at hl 4 rfl) ?_
            refine lv_iload hx hb d_O_invokeSpecial_121 (lv_at hl 0 rfl) ?_
            refine lv_iload_n hx hb d_O_invokeSpecial_123 rfl (lv_at hl 7 rfl) ?_
            have hq_13 : vp_in p3 4 := by first | with_reducible assumption | exact in_name (by with_reducible assumption) | exact in4_4 (by with_reducible assumption) | exact in4_5 (by with_reducible assumption) | exact in4_6 (by with_reducible assumption) | exact in4_7 (by with_reducible assumption)
            refine va_calli (va_runV (As := [.int (f_O_greatestOf ((f_W_chain v.1 p1) &&& (f_M_instances v.2.2 p3))), .int p3]) (rest := []) ⟨hx, hb, hml, hown, hts⟩ (c_O_runnable l dC dI h0 kw kf km qw qf qm H.size v (s_O_resolveMethod v (f_W_isInterface v.1 p1) p2 p1 p3) (f_O_greatestOf ((f_W_chain v.1 p1) &&& (f_M_instances v.2.2 p3))) p3 hq_13) (cwV 2 hts k_g39 rfl rfl rfl (by decide +kernel) ⟨Nat.le_of_ble_eq_true rfl, Nat.le_of_ble_eq_true rfl⟩) ⟨fb_ro, va_recv hK hP (ci := 2) (q0 := 0) rfl rfl, fun U hU hW => ⟨rfl, by rw [hU], by rw [hU]; exact hP.sub (ws' := (wO h0 kw kf km qw qf qm v (s_O_resolveMethod v (f_W_isInterface v.1 p1) p2 p1 p3))) [0, 1, 2, 3, 4, 5, 6, 7, 8, 9, 10, 11, 12, 13, 14, 15, 16, 17, 18, 19] rfl, va_K.moved hW.alike (hK.sub (tys' := (tO kw kf km)) [0, 1, 2, 3, 4, 5, 6, 7, 8, 9, 10, 11, 12, 13, 14, 15] rfl), NX.warm hW hN⟩⟩ rfl rfl hl.1 rfl (lv_room (Nat.le_of_ble_eq_true rfl)) d_O_invokeSpecial_124 ⟨Nat.zero_le _, Nat.zero_le _⟩) hS (fun z h1 h2 => absurd h1 (Nat.not_lt.mpr h2)) (fun z h => hA z (Nat.le_trans hS.1 h)) (fun r u t H1 locs ht hvm hpo hB hz1 hk1 hS => ?_)
            subst hpo
            have hP := kp_P hP hk1
            generalize H1 = H at hP hS ⊢
            have hP9 : va_P (dC, dI) classes (wO h0 kw kf km qw qf qm v (s_O_resolveMethod v (f_W_isInterface v.1 p1) p2 p1 p3)) H := hP
            exact W.iret (v := (f_O_runnable v (f_O_greatestOf ((f_W_chain v.1 p1) &&& (f_M_instances v.2.2 p3))) p3)) hx hb hr (fun t ht hW => ⟨⟨(f_O_runnable v (f_O_greatestOf ((f_W_chain v.1 p1) &&& (f_M_instances v.2.2 p3))) p3), (s_O_resolveMethod v (f_W_isInterface v.1 p1) p2 p1 p3), rfl, ⟨by unfold f_O_invokeSpecial; rw [if_pos c_5, if_pos c_7, if_pos c_8, if_pos c_9, if_neg c_12], by unfold s_O_invokeSpecial; rw [if_pos c_5, if_pos c_7, if_pos c_8, if_pos c_9, if_neg c_12]⟩, hp_at ht hP9⟩, hS.F ht⟩) hS.2.2 d_O_invokeSpecial_127
          · have c_12 : (f_O_greatestOf ((f_W_chain v.1 p1) &&& (f_M_instances v.2.2 p3))) = (0 : Int32) := c_12
            refine lv_aload_n hx hb d_O_invokeSpecial_111 rfl (lv_at hl 4 rfl) ?_
            refine lv_iload hx hb d_O_invokeSpecial_112 (lv_at hl 1 rfl) ?_
            refine lv_iload_n hx hb d_O_invokeSpecial_114 rfl (lv_at hl 7 rfl) ?_
            have hq_14 : vp_in p1 13 := by first | with_reducible assumption | exact in_has hw (by with_reducible assumption) | exact in_cls hw (by with_reducible assumption) | exact in_ifc hw (by with_reducible assumption) | exact in_ext hw (by with_reducible assumption) | exact in_eq0 (by with_reducible assumption) | exact hfd (by with_reducible assumption) | exact in_rcv hw (by with_reducible assumption) (Or.inl (by with_reducible assumption)) | exact in_rcv hw (by with_reducible assumption) (Or.inr (by with_reducible assumption))
            have hq_15 : vp_in p3 4 := by first | with_reducible assumption | exact in_name (by with_reducible assumption) | exact in4_4 (by with_reducible assumption) | exact in4_5 (by with_reducible assumption) | exact in4_6 (by with_reducible assumption) | exact in4_7 (by with_reducible assumption)
            refine va_calli (va_runV (As := [.int p1, .int p3]) (rest := []) ⟨hx, hb, hml, hown, hts⟩ (c_O_bestOfInterfaces l dC dI h0 kw kf km qw qf qm H.size v (s_O_resolveMethod v (f_W_isInterface v.1 p1) p2 p1 p3) p1 p3 hq_14 hq_15) (cwV 2 hts k_g24 rfl rfl rfl (by decide +kernel) ⟨Nat.le_of_ble_eq_true rfl, Nat.le_of_ble_eq_true rfl⟩) ⟨fb_ro, va_recv hK hP (ci := 2) (q0 := 0) rfl rfl, fun U hU hW => ⟨rfl, by rw [hU], by rw [hU]; exact hP.sub (ws' := (wO h0 kw kf km qw qf qm v (s_O_resolveMethod v (f_W_isInterface v.1 p1) p2 p1 p3))) [0, 1, 2, 3, 4, 5, 6, 7, 8, 9, 10, 11, 12, 13, 14, 15, 16, 17, 18, 19] rfl, va_K.moved hW.alike (hK.sub (tys' := (tO kw kf km)) [0, 1, 2, 3, 4, 5, 6, 7, 8, 9, 10, 11, 12, 13, 14, 15] rfl), NX.warm hW hN⟩⟩ rfl rfl hl.1 rfl (lv_room (Nat.le_of_ble_eq_true rfl)) d_O_invokeSpecial_115 ⟨Nat.zero_le _, Nat.zero_le _⟩) hS (fun z h1 h2 => absurd h1 (Nat.not_lt.mpr h2)) (fun z h => hA z (Nat.le_trans hS.1 h)) (fun r u t H1 locs ht hvm hpo hB hz1 hk1 hS => ?_)
            subst hpo
            have hP := kp_P hP hk1
            generalize H1 = H at hP hS ⊢
            refine lv_istore (lv' := [(7, .int (f_O_bestOfInterfaces v p1 p3)), (6, .int p1), (5, .int (0 : Int32)), (4, .int (f_O_resolveMethod v (f_W_isInterface v.1 p1) p2 p1 p3)), (0, .ref h0), (1, .int p1), (2, .int p2), (3, .int p3)]) hx hb d_O_invokeSpecial_118 hl (by decide) rfl (fun ls hl => ?_)
            refine lv_aload_n hx hb d_O_invokeSpecial_120 rfl (lv_at hl 4 rfl) ?_
            refine lv_iload hx hb d_O_invokeSpecial_121 (lv_at hl 0 rfl) ?_
            refine lv_iload_n hx hb d_O_invokeSpecial_123 rfl (lv_at hl 7 rfl) ?_
            have hq_16 : vp_in p3 4 := by first | with_reducible assumption | exact in_name (by with_reducible assumption) | exact in4_4 (by with_reducible assumption) | exact in4_5 (by with_reducible assumption) | exact in4_6 (by with_reducible assumption) | exact in4_7 (by with_reducible assumption)
            refine va_calli (va_runV (As := [.int (f_O_bestOfInterfaces v p1 p3), .int p3]) (rest := []) ⟨hx, hb, hml, hown, hts⟩ (c_O_runnable l dC dI h0 kw kf km qw qf qm H.size v (s_O_resolveMethod v (f_W_isInterface v.1 p1) p2 p1 p3) (f_O_bestOfInterfaces v p1 p3) p3 hq_16) (cwV 2 hts k_g39 rfl rfl rfl (by decide +kernel) ⟨Nat.le_of_ble_eq_true rfl, Nat.le_of_ble_eq_true rfl⟩) ⟨fb_ro, va_recv hK hP (ci := 2) (q0 := 0) rfl rfl, fun U hU hW => ⟨rfl, by rw [hU], by rw [hU]; exact hP.sub (ws' := (wO h0 kw kf km qw qf qm v (s_O_resolveMethod v (f_W_isInterface v.1 p1) p2 p1 p3))) [0, 1, 2, 3, 4, 5, 6, 7, 8, 9, 10, 11, 12, 13, 14, 15, 16, 17, 18, 19] rfl, va_K.moved hW.alike (hK.sub (tys' := (tO kw kf km)) [0, 1, 2, 3, 4, 5, 6, 7, 8, 9, 10, 11, 12, 13, 14, 15] rfl), NX.warm hW hN⟩⟩ rfl rfl hl.1 rfl (lv_room (Nat.le_of_ble_eq_true rfl)) d_O_invokeSpecial_124 ⟨Nat.zero_le _, Nat.zero_le _⟩) hS (fun z h1 h2 => absurd h1 (Nat.not_lt.mpr h2)) (fun z h => hA z (Nat.le_trans hS.1 h)) (fun r u t H1 locs ht hvm hpo hB hz1 hk1 hS => ?_)
            subst hpo
            have hP := kp_P hP hk1
            generalize H1 = H at hP hS ⊢
            have hP9 : va_P (dC, dI) classes (wO h0 kw kf km qw qf qm v (s_O_resolveMethod v (f_W_isInterface v.1 p1) p2 p1 p3)) H := hP
            exact W.iret (v := (f_O_runnable v (f_O_bestOfInterfaces v p1 p3) p3)) hx hb hr (fun t ht hW => ⟨⟨(f_O_runnable v (f_O_bestOfInterfaces v p1 p3) p3), (s_O_resolveMethod v (f_W_isInterface v.1 p1) p2 p1 p3), rfl, ⟨by unfold f_O_invokeSpecial; rw [if_pos c_5, if_pos c_7, if_pos c_8, if_pos c_9, if_pos c_12], by unfold s_O_invokeSpecial; rw [if_pos c_5, if_pos c_7, if_pos c_8, if_pos c_9, if_pos c_12]⟩, hp_at ht hP9⟩, hS.F ht⟩) hS.2.2 d_O_invokeSpecial_127
        · have c_9 : ¬ ((0 : Int32) = (0 : Int32)) := c_9
          refine lv_aload_n hx hb d_O_invokeSpecial_69 rfl (lv_at hl 2 rfl) ?_
          refine va_get (D := (dC, dI)) (ci := 2) (v := .ref (qw 0)) (C := R_O) (T := F_O) (N := 4) hx hb hts i_O hown hK hP 0 rfl rfl 0 (by decide) (hts _ k_22) (fun _ h9 => h9) rfl d_O_invokeSpecial_70 ?_
          refine lv_iload_n hx hb d_O_invokeSpecial_73 rfl (lv_at hl 4 rfl) ?_
          have hq_17 : vp_in p2 13 := by first | with_reducible assumption | exact in_has hw (by with_reducible assumption) | exact in_cls hw (by with_reducible assumption) | exact in_ifc hw (by with_reducible assumption) | exact in_ext hw (by with_reducible assumption) | exact in_eq0 (by with_reducible assumption) | exact hfd (by with_reducible assumption) | exact in_rcv hw (by with_reducible assumption) (Or.inl (by with_reducible assumption)) | exact in_rcv hw (by with_reducible assumption) (Or.inr (by with_reducible assumption))
          refine va_calli (va_runV (As := [.int p2]) (rest := []) ⟨hx, hb, hml, hown, hts⟩ (c_W_superclassOf l dC dI kw qw H.size v.1  p2 hq_17) (cwV 1 hts k_g40 rfl rfl rfl (by decide +kernel) ⟨Nat.le_of_ble_eq_true rfl, Nat.le_of_ble_eq_true rfl⟩) ⟨fb_ro, va_recv hK hP (ci := 0) (q0 := 1) rfl rfl, fun U hU hW => ⟨rfl, by rw [hU], by rw [hU]; exact hP.sub (ws' := (wW kw qw v.1)) [1, 2, 3, 4, 5, 6, 7] rfl, va_K.moved hW.alike (hK.sub (tys' := (tW kw)) [0, 1, 2, 3, 4, 5] rfl), NX.warm hW hN⟩⟩ rfl rfl hl.1 rfl (lv_room (Nat.le_of_ble_eq_true rfl)) d_O_invokeSpecial_74 ⟨Nat.zero_le _, Nat.zero_le _⟩) hS (fun z h1 h2 => absurd h1 (Nat.not_lt.mpr h2)) (fun z h => hA z (Nat.le_trans hS.1 h)) (fun r u t H1 locs ht hvm hpo hB hz1 hk1 hS => ?_)
          subst hpo
          have hP := kp_P hP hk1
          generalize H1 = H at hP hS ⊢
          refine lv_goto (tgt := 81) hx hb d_O_invokeSpecial_77 (by decide) ?_
          refine lv_istore (lv' := [(6, .int (f_W_superclassOf v.1 p2)), (5, .int (0 : Int32)), (4, .int (f_O_resolveMethod v (f_W_isInterface v.1 p1) p2 p1 p3)), (0, .ref h0), (1, .int p1), (2, .int p2), (3, .int p3)]) hx hb d_O_invokeSpecial_81 hl (by decide) rfl (fun ls hl => ?_)
          refine lv_aload_n hx hb d_O_invokeSpecial_83 rfl (lv_at hl 3 rfl) ?_
          refine va_get (D := (dC, dI)) (ci := 2) (v := .ref (qw 0)) (C := R_O) (T := F_O) (N := 4) hx hb hts i_O hown hK hP 0 rfl rfl 0 (by decide) (hts _ k_22) (fun _ h9 => h9) rfl d_O_invokeSpecial_84 ?_
          refine lv_iload hx hb d_O_invokeSpecial_87 (lv_at hl 0 rfl) ?_
          have hq_18 : vp_in (f_W_superclassOf v.1 p2) 13 := by first | with_reducible assumption | exact wf_sup hw (by with_reducible assumption)
          refine va_calli (va_runV (As := [.int (f_W_superclassOf v.1 p2)]) (rest := []) ⟨hx, hb, hml, hown, hts⟩ (c_W_chain l dC dI kw qw H.size v.1  (f_W_superclassOf v.1 p2) hq_18) (cwV 1 hts k_g21 rfl rfl rfl (by decide +kernel) ⟨Nat.le_of_ble_eq_true rfl, Nat.le_of_ble_eq_true rfl⟩) ⟨fb_ro, va_recv hK hP (ci := 0) (q0 := 1) rfl rfl, fun U hU hW => ⟨rfl, by rw [hU], by rw [hU]; exact hP.sub (ws' := (wW kw qw v.1)) [1, 2, 3, 4, 5, 6, 7] rfl, va_K.moved hW.alike (hK.sub (tys' := (tW kw)) [0, 1, 2, 3, 4, 5] rfl), NX.warm hW hN⟩⟩ rfl rfl hl.1 rfl (lv_room (Nat.le_of_ble_eq_true rfl)) d_O_invokeSpecial_89 ⟨Nat.zero_le _, Nat.zero_le _⟩) hS (fun z h1 h2 => absurd h1 (Nat.not_lt.mpr h2)) (fun z h => hA z (Nat.le_trans hS.1 h)) (fun r u t H1 locs ht hvm hpo hB hz1 hk1 hS => ?_)
          subst hpo
          have hP := kp_P hP hk1
          generalize H1 = H at hP hS ⊢
          refine lv_aload_n hx hb d_O_invokeSpecial_92 rfl (lv_at hl 3 rfl) ?_
          refine va_get (D := (dC, dI)) (ci := 2) (v := .ref (qm 0)) (C := R_O) (T := F_O) (N := 4) hx hb hts i_O hown hK hP 0 rfl rfl 2 (by decide) (hts _ k_23) (fun _ h9 => h9) rfl d_O_invokeSpecial_93 ?_
          refine lv_iload_n hx hb d_O_invokeSpecial_96 rfl (lv_at hl 6 rfl) ?_
          have hq_19 : vp_in p3 4 := by first | with_reducible assumption | exact in_name (by with_reducible assumption) | exact in4_4 (by with_reducible assumption) | exact in4_5 (by with_reducible assumption) | exact in4_6 (by with_reducible assumption) | exact in4_7 (by with_reducible assumption)
          refine va_calli (va_runV (As := [.int p3]) (rest := [.int (f_W_chain v.1 (f_W_superclassOf v.1 p2))]) ⟨hx, hb, hml, hown, hts⟩ (c_M_instances l dC dI km qm H.size v.2.2  p3 hq_19) (cwV 1 hts k_g20 rfl rfl rfl (by decide +kernel) ⟨Nat.le_of_ble_eq_true rfl, Nat.le_of_ble_eq_true rfl⟩) ⟨fb_ro, va_recv hK hP (ci := 1) (q0 := 14) rfl rfl, fun U hU hW => ⟨rfl, by rw [hU], by rw [hU]; exact hP.sub (ws' := (wM km qm v.2.2)) [14, 15, 16, 17, 18, 19] rfl, va_K.moved hW.alike (hK.sub (tys' := (tM km)) [11, 12, 13, 14, 15] rfl), NX.warm hW hN⟩⟩ rfl rfl hl.1 rfl (lv_room (Nat.le_of_ble_eq_true rfl)) d_O_invokeSpecial_97 ⟨Nat.zero_le _, Nat.zero_le _⟩) hS (fun z h1 h2 => absurd h1 (Nat.not_lt.mpr h2)) (fun z h => hA z (Nat.le_trans hS.1 h)) (fun r u t H1 locs ht hvm hpo hB hz1 hk1 hS => ?_)
          subst hpo
          have hP := kp_P hP hk1
          generalize H1 = H at hP hS ⊢
          refine lv_iand hx hb d_O_invokeSpecial_100 ?_
          refine va_calli (va_runS (As := [.int ((f_W_chain v.1 (f_W_superclassOf v.1 p2)) &&& (f_M_instances v.2.2 p3))]) (rest := []) ⟨hx, hb, hml, hown, hts⟩ (c_O_greatestOf l dC dI  H.size   ((f_W_chain v.1 (f_W_superclassOf v.1 p2)) &&& (f_M_instances v.2.2 p3))) (cwS 1 hts k_g34 rfl rfl rfl (by decide +kernel) ⟨Nat.le_of_ble_eq_true rfl, Nat.le_of_ble_eq_true rfl⟩) ⟨fb_ro, fun U hU hW => ⟨rfl, by rw [hU], by rw [hU]; exact hP.sub (ws' := ([] : va_W)) [] rfl, va_K.moved hW.alike (hK.sub (tys' := []) [] rfl), NX.warm hW hN⟩⟩ rfl rfl hl.1 rfl (lv_room (Nat.le_of_ble_eq_true rfl)) d_O_invokeSpecial_101 ⟨Nat.zero_le _, Nat.zero_le _⟩) hS (fun z h1 h2 => absurd h1 (Nat.not_lt.mpr h2)) (fun z h => hA z (Nat.le_trans hS.1 h)) (fun r u t H1 locs ht hvm hpo hB hz1 hk1 hS => ?_)
          subst hpo
          have hP := kp_P hP hk1
          generalize H1 = H at hP hS ⊢
          refine lv_istore (lv' := [(7, .int (f_O_greatestOf ((f_W_chain v.1 (f_W_superclassOf v.1 p2)) &&& (f_M_instances v.2.2 p3)))), (6, .int (f_W_superclassOf v.1 p2)), (5, .int (0 : Int32)), (4, .int (f_O_resolveMethod v (f_W_isInterface v.1 p1) p2 p1 p3)), (0, .ref h0), (1, .int p1), (2, .int p2), (3, .int p3)]) hx hb d_O_invokeSpecial_104 hl (by decide) rfl (fun ls hl => ?_)
          refine lv_iload hx hb d_O_invokeSpecial_106 (lv_at hl 0 rfl) ?_
          refine lv_if_ne (tgt := 120) hx hb d_O_invokeSpecial_108 (by decide) (fun c_20 => ?_) (fun c_20 => ?_)
          · have c_20 : ¬ ((f_O_greatestOf ((f_W_chain v.1 (f_W_superclassOf v.1 p2)) &&& (f_M_instances v.2.2 p3))) = (0 : Int32)) := c_20
            refine lv_aload_n hx hb d_O_invokeSpecial_120 rfl (lv_at hl 4 rfl) ?_
            refine lv_iload hx hb d_O_invokeSpecial_121 (lv_at hl 0 rfl) ?_
            refine lv_iload_n hx hb d_O_invokeSpecial_123 rfl (lv_at hl 7 rfl) ?_
            have hq_21 : vp_in p3 4 := by first | with_reducible assumption | exact in_name (by with_reducible assumption) | exact in4_4 (by with_reducible assumption) | exact in4_5 (by with_reducible assumption) | exact in4_6 (by with_reducible assumption) | exact in4_7 (by with_reducible assumption)
            refine va_calli (va_runV (As := [.int (f_O_greatestOf ((f_W_chain v.1 (f_W_superclassOf v.1 p2)) &&& (f_M_instances v.2.2 p3))), .int p3]) (rest := []) ⟨hx, hb, hml, hown, hts⟩ (c_O_runnable l dC dI h0 kw kf km qw qf qm H.size v (s_O_resolveMethod v (f_W_isInterface v.1 p1) p2 p1 p3) (f_O_greatestOf ((f_W_chain v.1 (f_W_superclassOf v.1 p2)) &&& (f_M_instances v.2.2 p3))) p3 hq_21) (cwV 2 hts k_g39 rfl rfl rfl (by decide +kernel) ⟨Nat.le_of_ble_eq_true rfl, Nat.le_of_ble_eq_true rfl⟩) ⟨fb_ro, va_recv hK hP (ci := 2) (q0 := 0) rfl rfl, fun U hU hW => ⟨rfl, by rw [hU], by rw [hU]; exact hP.sub (ws' := (wO h0 kw kf km qw qf qm v (s_O_resolveMethod v (f_W_isInterface v.1 p1) p2 p1 p3))) [0, 1, 2, 3, 4, 5, 6, 7, 8, 9, 10, 11, 12, 13, 14, 15, 16, 17, 18, 19] rfl, va_K.moved hW.alike (hK.sub (tys' := (tO kw kf km)) [0, 1, 2, 3, 4, 5, 6, 7, 8, 9, 10, 11, 12, 13, 14, 15] rfl), NX.warm hW hN⟩⟩ rfl rfl hl.1 rfl (lv_room (Nat.le_of_ble_eq_true rfl)) d_O_invokeSpecial_124 ⟨Nat.zero_le _, Nat.zero_le _⟩) hS (fun z h1 h2 => absurd h1 (Nat.not_lt.mpr h2)) (fun z h => hA z (Nat.le_trans hS.1 h)) (fun r u t H1 locs ht hvm hpo hB hz1 hk1 hS => ?_)
            subst hpo
            have hP := kp_P hP hk1
            generalize H1 = H at hP hS ⊢
            have hP9 : va_P (dC, dI) classes (wO h0 kw kf km qw qf qm v (s_O_resolveMethod v (f_W_isInterface v.1 p1) p2 p1 p3)) H := hP
            exact W.iret (v := (f_O_runnable v (f_O_greatestOf ((f_W_chain v.1 (f_W_superclassOf v.1 p2)) &&& (f_M_instances v.2.2 p3))) p3)) hx hb hr (fun t ht hW => ⟨⟨(f_O_runnable v (f_O_greatestOf ((f_W_chain v.1 (f_W_superclassOf v.1 p2)) &&& (f_M_instances v.2.2 p3))) p3), (s_O_resolveMethod v (f_W_isInterface v.1 p1) p2 p1 p3), rfl, ⟨by unfold f_O_invokeSpecial; rw [if_pos c_5, if_pos c_7, if_pos c_8, if_neg c_9, if_neg c_20], by unfold s_O_invokeSpecial; rw [if_pos c_5, if_pos c_7, if_pos c_8, if_neg c_9, if_neg c_20]⟩, hp_at ht hP9⟩, hS.F ht⟩) hS.2.2 d_O_invokeSpecial_127
          · have c_20 : (f_O_greatestOf ((f_W_chain v.1 (f_W_superclassOf v.1 p2)) &&& (f_M_instances v.2.2 p3))) = (0 : Int32) := c_20
            refine lv_aload_n hx hb d_O_invokeSpecial_111 rfl (lv_at hl 4 rfl) ?_
            refine lv_iload hx hb d_O_invokeSpecial_112 (lv_at hl 1 rfl) ?_
            refine lv_iload_n hx hb d_O_invokeSpecial_114 rfl (lv_at hl 7 rfl) ?_
            have hq_22 : vp_in (f_W_superclassOf v.1 p2) 13 := by first | with_reducible assumption | exact wf_sup hw (by with_reducible assumption)
            have hq_23 : vp_in p3 4 := by first | with_reducible assumption | exact in_name (by with_reducible assumption) | exact in4_4 (by with_reducible assumption) | exact in4_5 (by with_reducible assumption) | exact in4_6 (by with_reducible assumption) | exact in4_7 (by with_reducible assumption)
            refine va_calli (va_runV (As := [.int (f_W_superclassOf v.1 p2), .int p3]) (rest := []) ⟨hx, hb, hml, hown, hts⟩ (c_O_bestOfInterfaces l dC dI h0 kw kf km qw qf qm H.size v (s_O_resolveMethod v (f_W_isInterface v.1 p1) p2 p1 p3) (f_W_superclassOf v.1 p2) p3 hq_22 hq_23) (cwV 2 hts k_g24 rfl rfl rfl (by decide +kernel) ⟨Nat.le_of_ble_eq_true rfl, Nat.le_of_ble_eq_true rfl⟩) ⟨fb_ro, va_recv hK hP (ci := 2) (q0 := 0) rfl rfl, fun U hU hW => ⟨rfl, by rw [hU], by rw [hU]; exact hP.sub (ws' := (wO h0 kw kf km qw qf qm v (s_O_resolveMethod v (f_W_isInterface v.1 p1) p2 p1 p3))) [0, 1, 2, 3, 4, 5, 6, 7, 8, 9, 10, 11, 12, 13, 14, 15, 16, 17, 18, 19] rfl, va_K.moved hW.alike (hK.sub (tys' := (tO kw kf km)) [0, 1, 2, 3, 4, 5, 6, 7, 8, 9, 10, 11, 12, 13, 14, 15] rfl), NX.warm hW hN⟩⟩ rfl rfl hl.1 rfl (lv_room (Nat.le_of_ble_eq_true rfl)) d_O_invokeSpecial_115 ⟨Nat.zero_le _, Nat.zero_le _⟩) hS (fun z h1 h2 => absurd h1 (Nat.not_lt.mpr h2)) (fun z h => hA z (Nat.le_trans hS.1 h)) (fun r u t H1 locs ht hvm hpo hB hz1 hk1 hS => ?_)
            subst hpo
            have hP := kp_P hP hk1
            generalize H1 = H at hP hS ⊢
            refine lv_istore (lv' := [(7, .int (f_O_bestOfInterfaces v (f_W_superclassOf v.1 p2) p3)), (6, .int (f_W_superclassOf v.1 p2)), (5, .int (0 : Int32)), (4, .int (f_O_resolveMethod v (f_W_isInterface v.1 p1) p2 p1 p3)), (0, .ref h0), (1, .int p1), (2, .int p2), (3, .int p3)]) hx hb d_O_invokeSpecial_118 hl (by decide) rfl (fun ls hl => ?_)
            refine lv_aload_n hx hb d_O_invokeSpecial_120 rfl (lv_at hl 4 rfl) ?_
            refine lv_iload hx hb d_O_invokeSpecial_121 (lv_at hl 0 rfl) ?_
            refine lv_iload_n hx hb d_O_invokeSpecial_123 rfl (lv_at hl 7 rfl) ?_
            have hq_24 : vp_in p3 4 := by first | with_reducible assumption | exact in_name (by with_reducible assumption) | exact in4_4 (by with_reducible assumption) | exact in4_5 (by with_reducible assumption) | exact in4_6 (by with_reducible assumption) | exact in4_7 (by with_reducible assumption)
            refine va_calli (va_runV (As := [.int (f_O_bestOfInterfaces v (f_W_superclassOf v.1 p2) p3), .int p3]) (rest := []) ⟨hx, hb, hml, hown, hts⟩ (c_O_runnable l dC dI h0 kw kf km qw qf qm H.size v (s_O_resolveMethod v (f_W_isInterface v.1 p1) p2 p1 p3) (f_O_bestOfInterfaces v (f_W_superclassOf v.1 p2) p3) p3 hq_24) (cwV 2 hts k_g39 rfl rfl rfl (by decide +kernel) ⟨Nat.le_of_ble_eq_true rfl, Nat.le_of_ble_eq_true rfl⟩) ⟨fb_ro, va_recv hK hP (ci := 2) (q0 := 0) rfl rfl, fun U hU hW => ⟨rfl, by rw [hU], by rw [hU]; exact hP.sub (ws' := (wO h0 kw kf km qw qf qm v (s_O_resolveMethod v (f_W_isInterface v.1 p1) p2 p1 p3))) [0, 1, 2, 3, 4, 5, 6, 7, 8, 9, 10, 11, 12, 13, 14, 15, 16, 17, 18, 19] rfl, va_K.moved hW.alike (hK.sub (tys' := (tO kw kf km)) [0, 1, 2, 3, 4, 5, 6, 7, 8, 9, 10, 11, 12, 13, 14, 15] rfl), NX.warm hW hN⟩⟩ rfl rfl hl.1 rfl (lv_room (Nat.le_of_ble_eq_true rfl)) d_O_invokeSpecial_124 ⟨Nat.zero_le _, Nat.zero_le _⟩) hS (fun z h1 h2 => absurd h1 (Nat.not_lt.mpr h2)) (fun z h => hA z (Nat.le_trans hS.1 h)) (fun r u t H1 locs ht hvm hpo hB hz1 hk1 hS => ?_)
            subst hpo
            have hP := kp_P hP hk1
            generalize H1 = H at hP hS ⊢
            have hP9 : va_P (dC, dI) classes (wO h0 kw kf km qw qf qm v (s_O_resolveMethod v (f_W_isInterface v.1 p1) p2 p1 p3)) H := hP
            exact W.iret (v := (f_O_runnable v (f_O_bestOfInterfaces v (f_W_superclassOf v.1 p2) p3) p3)) hx hb hr (fun t ht hW => ⟨⟨(f_O_runnable v (f_O_bestOfInterfaces v (f_W_superclassOf v.1 p2) p3) p3), (s_O_resolveMethod v (f_W_isInterface v.1 p1) p2 p1 p3), rfl, ⟨by unfold f_O_invokeSpecial; rw [if_pos c_5, if_pos c_7, if_pos c_8, if_neg c_9, if_pos c_20], by unfold s_O_invokeSpecial; rw [if_pos c_5, if_pos c_7, if_pos c_8, if_neg c_9, if_pos c_20]⟩, hp_at ht hP9⟩, hS.F ht⟩) hS.2.2 d_O_invokeSpecial_127
      · have c_8 : ¬ ((f_W_isClass v.1 p1) = (0 : Int32)) := c_8
        refine lv_iload_n hx hb d_O_invokeSpecial_52 rfl (lv_at hl 2 rfl) ?_
        refine lv_iload_n hx hb d_O_invokeSpecial_53 rfl (lv_at hl 3 rfl) ?_
        refine lv_icmp_eq (tgt := 61) hx hb d_O_invokeSpecial_54 (by decide) (fun c_25 => ?_) (fun c_25 => ?_)
        · have c_25 : p1 = p2 := c_25
          refine lv_iconst (v := (0 : Int32)) hx hb d_O_invokeSpecial_61 (by decide +kernel) ?_
          refine lv_istore (lv' := [(5, .int (0 : Int32)), (4, .int (f_O_resolveMethod v (f_W_isInterface v.1 p1) p2 p1 p3)), (0, .ref h0), (1, .int p1), (2, .int p2), (3, .int p3)]) hx hb d_O_invokeSpecial_62 hl (by decide) rfl (fun ls hl => ?_)
          refine lv_iload hx hb d_O_invokeSpecial_64 (lv_at hl 0 rfl) ?_
          refine lv_if_eq (tgt := 80) hx hb d_O_invokeSpecial_66 (by decide) (fun c_26 => ?_) (fun c_26 => ?_)
          · have c_26 : (0 : Int32) = (0 : Int32) := c_26
            refine lv_iload_n hx hb d_O_invokeSpecial_80 rfl (lv_at hl 3 rfl) ?_
            refine lv_istore (lv' := [(6, .int p1), (5, .int (0 : Int32)), (4, .int (f_O_resolveMethod v (f_W_isInterface v.1 p1) p2 p1 p3)), (0, .ref h0), (1, .int p1), (2, .int p2), (3, .int p3)]) hx hb d_O_invokeSpecial_81 hl (by decide) rfl (fun ls hl => ?_)
            refine lv_aload_n hx hb d_O_invokeSpecial_83 rfl (lv_at hl 3 rfl) ?_
            refine va_get (D := (dC, dI)) (ci := 2) (v := .ref (qw 0)) (C := R_O) (T := F_O) (N := 4) hx hb hts i_O hown hK hP 0 rfl rfl 0 (by decide) (hts _ k_22) (fun _ h9 => h9) rfl d_O_invokeSpecial_84 ?_
            refine lv_iload hx hb d_O_invokeSpecial_87 (lv_at hl 0 rfl) ?_
            have hq_27 : vp_in p1 13 := by first | with_reducible assumption | exact in_has hw (by with_reducible assumption) | exact in_cls hw (by with_reducible assumption) | exact in_ifc hw (by with_reducible assumption) | exact in_ext hw (by with_reducible assumption) | exact in_eq0 (by with_reducible assumption) | exact hfd (by with_reducible assumption) | exact in_rcv hw (by with_reducible assumption) (Or.inl (by with_reducible assumption)) | exact in_rcv hw (by with_reducible assumption) (Or.inr (by with_reducible assumption))
            refine va_calli (va_runV (As := [.int p1]) (rest := []) ⟨hx, hb, hml, hown, hts⟩ (c_W_chain l dC dI kw qw H.size v.1  p1 hq_27) (cwV 1 hts k_g21 rfl rfl rfl (by decide +kernel) ⟨Nat.le_of_ble_eq_true rfl, Nat.le_of_ble_eq_true rfl⟩) ⟨fb_ro, va_recv hK hP (ci := 0) (q0 := 1) rfl rfl, fun U hU hW => ⟨rfl, by rw [hU], by rw [hU]; exact hP.sub (ws' := (wW kw qw v.1)) [1, 2, 3, 4, 5, 6, 7] rfl, va_K.moved hW.alike (hK.sub (tys' := (tW kw)) [0, 1, 2, 3, 4, 5] rfl), NX.warm hW hN⟩⟩ rfl rfl hl.1 rfl (lv_room (Nat.le_of_ble_eq_true rfl)) d_O_invokeSpecial_89 ⟨Nat.zero_le _, Nat.zero_le _⟩) hS (fun z h1 h2 => absurd h1 (Nat.not_lt.mpr h2)) (fun z h => hA z (Nat.le_trans hS.1 h)) (fun r u t H1 locs ht hvm hpo hB hz1 hk1 hS => ?_)
            subst hpo
            have hP := kp_P hP hk1
            generalize H1 = H at hP hS ⊢
            refine lv_aload_n hx hb d_O_invokeSpecial_92 rfl (lv_at hl 3 rfl) ?_
            refine va_get (D := (dC, dI)) (ci := 2) (v := .ref (qm 0)) (C := R_O) (T := F_O) (N := 4) hx hb hts i_O hown hK hP 0 rfl rfl 2 (by decide) (hts _ k_23) (fun _ h9 => h9) rfl d_O_invokeSpecial_93 ?_
            refine lv_iload_n hx hb d_O_invokeSpecial_96 rfl (lv_at hl 6 rfl) ?_
            have hq_28 : vp_in p3 4 := by first | with_reducible assumption | exact in_name (by with_reducible assumption) | exact in4_4 (by with_reducible assumption) | exact in4_5 (by with_reducible assumption) | exact in4_6 (by with_reducible assumption) | exact in4_7 (by with_reducible assumption)
            refine va_calli (va_runV (As := [.int p3]) (rest := [.int (f_W_chain v.1 p1)]) ⟨hx, hb, hml, hown, hts⟩ (c_M_instances l dC dI km qm H.size v.2.2  p3 hq_28) (cwV 1 hts k_g20 rfl rfl rfl (by decide +kernel) ⟨Nat.le_of_ble_eq_true rfl, Nat.le_of_ble_eq_true rfl⟩) ⟨fb_ro, va_recv hK hP (ci := 1) (q0 := 14) rfl rfl, fun U hU hW => ⟨rfl, by rw [hU], by rw [hU]; exact hP.sub (ws' := (wM km qm v.2.2)) [14, 15, 16, 17, 18, 19] rfl, va_K.moved hW.alike (hK.sub (tys' := (tM km)) [11, 12, 13, 14, 15] rfl), NX.warm hW hN⟩⟩ rfl rfl hl.1 rfl (lv_room (Nat.le_of_ble_eq_true rfl)) d_O_invokeSpecial_97 ⟨Nat.zero_le _, Nat.zero_le _⟩) hS (fun z h1 h2 => absurd h1 (Nat.not_lt.mpr h2)) (fun z h => hA z (Nat.le_trans hS.1 h)) (fun r u t H1 locs ht hvm hpo hB hz1 hk1 hS => ?_)
            subst hpo
            have hP := kp_P hP hk1
            generalize H1 = H at hP hS ⊢
            refine lv_iand hx hb d_O_invokeSpecial_100 ?_
            refine va_calli (va_runS (As := [.int ((f_W_chain v.1 p1) &&& (f_M_instances v.2.2 p3))]) (rest := []) ⟨hx, hb, hml, hown, hts⟩ (c_O_greatestOf l dC dI  H.size   ((f_W_chain v.1 p1) &&& (f_M_instances v.2.2 p3))) (cwS 1 hts k_g34 rfl rfl rfl (by decide +kernel) ⟨Nat.le_of_ble_eq_true rfl, Nat.le_of_ble_eq_true rfl⟩) ⟨fb_ro, fun U hU hW => ⟨rfl, by rw [hU], by rw [hU]; exact hP.sub (ws' := ([] : va_W)) [] rfl, va_K.moved hW.alike (hK.sub (tys' := []) [] rfl), NX.warm hW hN⟩⟩ rfl rfl hl.1 rfl (lv_room (Nat.le_of_ble_eq_true rfl)) d_O_invokeSpecial_101 ⟨Nat.zero_le _, Nat.zero_le _⟩) hS (fun z h1 h2 => absurd h1 (Nat.not_lt.mpr h2)) (fun z h => hA z (Nat.le_trans hS.1 h)) (fun r u t H1 locs ht hvm hpo hB hz1 hk1 hS => ?_)
            subst hpo
            have hP := kp_P hP hk1
            generalize H1 = H at hP hS ⊢
            refine lv_istore (lv' := [(7, .int (f_O_greatestOf ((f_W_chain v.1 p1) &&& (f_M_instances v.2.2 p3)))), (6, .int p1), (5, .int (0 : Int32)), (4, .int (f_O_resolveMethod v (f_W_isInterface v.1 p1) p2 p1 p3)), (0, .ref h0), (1, .int p1), (2, .int p2), (3, .int p3)]) hx hb d_O_invokeSpecial_104 hl (by decide) rfl (fun ls hl => ?_)
            refine lv_iload hx hb d_O_invokeSpecial_106 (lv_at hl 0 rfl) ?_
            refine lv_if_ne (tgt := 120) hx hb d_O_invokeSpecial_108 (by decide) (fun c_29 => ?_) (fun c_29 => ?_)
            · have c_29 : ¬ ((f_O_greatestOf ((f_W_chain v.1 p1) &&& (f_M_instances v.2.2 p3))) = (0 : Int32)) := c_29
              refine lv_aload_n hx hb d_O_invokeSpecial_120 rfl (lv_at hl 4 rfl) ?_
              refine lv_iload hx hb d_O_invokeSpecial_121 (lv_at hl 0 rfl) ?_
              refine lv_iload_n hx hb d_O_invokeSpecial_123 rfl (lv_at hl 7 rfl) ?_
              have hq_30 : vp_in p3 4 := by first | with_reducible assumption | exact in_name (by with_reducible assumption) | exact in4_4 (by with_reducible assumption) | exact in4_5 (by with_reducible assumption) | exact in4_6 (by with_reducible assumption) | exact in4_7 (by with_reducible assumption)
              refine va_calli (va_runV (As := [.int (f_O_greatestOf ((f_W_chain v.1 p1) &&& (f_M_instances v.2.2 p3))), .int p3]) (rest := []) ⟨hx, hb, hml, hown, hts⟩ (c_O_runnable l dC dI h0 kw kf km qw qf qm H.size v (s_O_resolveMethod v (f_W_isInterface v.1 p1) p2 p1 p3) (f_O_greatestOf ((f_W_chain v.1 p1) &&& (f_M_instances v.2.2 p3))) p3 hq_30) (cwV 2 hts k_g39 rfl rfl rfl (by decide +kernel) ⟨Nat.le_of_ble_eq_true rfl, Nat.le_of_ble_eq_true rfl⟩) ⟨fb_ro, va_recv hK hP (ci := 2) (q0 := 0) rfl rfl, fun U hU hW => ⟨rfl, by rw [hU], by rw [hU]; exact hP.sub (ws' := (wO h0 kw kf km qw qf qm v (s_O_resolveMethod v (f_W_isInterface v.1 p1) p2 p1 p3))) [0, 1, 2, 3, 4, 5, 6, 7, 8, 9, 10, 11, 12, 13, 14, 15, 16, 17, 18, 19] rfl, va_K.moved hW.alike (hK.sub (tys' := (tO kw kf km)) [0, 1, 2, 3, 4, 5, 6, 7, 8, 9, 10, 11, 12, 13, 14, 15] rfl), NX.warm hW hN⟩⟩ rfl rfl hl.1 rfl (lv_room (Nat.le_of_ble_eq_true rfl)) d_O_invokeSpecial_124 ⟨Nat.zero_le _, Nat.zero_le _⟩) hS (fun z h1 h2 => absurd h1 (Nat.not_lt.mpr h2)) (fun z h => hA z (Nat.le_trans hS.1 h)) (fun r u t H1 locs ht hvm hpo hB hz1 hk1 hS => ?_)
              subst hpo
              have hP := kp_P hP hk1
              generalize H1 = H at hP hS ⊢
              have hP9 : va_P (dC, dI) classes (wO h0 kw kf km qw qf qm v (s_O_resolveMethod v (f_W_isInterface v.1 p1) p2 p1 p3)) H := hP
              exact W.iret (v := (f_O_runnable v (f_O_greatestOf ((f_W_chain v.1 p1) &&& (f_M_instances v.2.2 p3))) p3)) hx hb hr (fun t ht hW => ⟨⟨(f_O_runnable v (f_O_greatestOf ((f_W_chain v.1 p1) &&& (f_M_instances v.2.2 p3))) p3), (s_O_resolveMethod v (f_W_isInterface v.1 p1) p2 p1 p3), rfl, ⟨by unfold f_O_invokeSpecial; rw [if_pos c_5, if_pos c_7, if_neg c_8, if_pos c_25, if_pos c_26, if_neg c_29], by unfold s_O_invokeSpecial; rw [if_pos c_5, if_pos c_7, if_neg c_8, if_pos c_25, if_pos c_26, if_neg c_29]⟩, hp_at ht hP9⟩, hS.F ht⟩) hS.2.2 d_O_invokeSpecial_127
            · have c_29 : (f_O_greatestOf ((f_W_chain v.1 p1) &&& (f_M_instances v.2.2 p3))) = (0 : Int32) := c_29
              refine lv_aload_n hx hb d_O_invokeSpecial_111 rfl (lv_at hl 4 rfl) ?_
              refine lv_iload hx hb d_O_invokeSpecial_112 (lv_at hl 1 rfl) ?_
              refine lv_iload_n hx hb d_O_invokeSpecial_114 rfl (lv_at hl 7 rfl) ?_
              have hq_31 : vp_in p1 13 := by first | with_reducible assumption | exact in_has hw (by with_reducible assumption) | exact in_cls hw (by with_reducible assumption) | exact in_ifc hw (by with_reducible assumption) | exact in_ext hw (by with_reducible assumption) | exact in_eq0 (by with_reducible assumption) | exact hfd (by with_reducible assumption) | exact in_rcv hw (by with_reducible assumption) (Or.inl (by with_reducible assumption)) | exact in_rcv hw (by with_reducible assumption) (Or.inr (by with_reducible assumption))
              have hq_32 : vp_in p3 4 := by first | with_reducible assumption | exact in_name (by with_reducible assumption) | exact in4_4 (by with_reducible assumption) | exact in4_5 (by with_reducible assumption) | exact in4_6 (by with_reducible assumption) | exact in4_7 (by with_reducible assumption)
              refine va_calli (va_runV (As := [.int p1, .int p3]) (rest := []) ⟨hx, hb, hml, hown, hts⟩ (c_O_bestOfInterfaces l dC dI h0 kw kf km qw qf qm H.size v (s_O_resolveMethod v (f_W_isInterface v.1 p1) p2 p1 p3) p1 p3 hq_31 hq_32) (cwV 2 hts k_g24 rfl rfl rfl (by decide +kernel) ⟨Nat.le_of_ble_eq_true rfl, Nat.le_of_ble_eq_true rfl⟩) ⟨fb_ro, va_recv hK hP (ci := 2) (q0 := 0) rfl rfl, fun U hU hW => ⟨rfl, by rw [hU], by rw [hU]; exact hP.sub (ws' := (wO h0 kw kf km qw qf qm v (s_O_resolveMethod v (f_W_isInterface v.1 p1) p2 p1 p3))) [0, 1, 2, 3, 4, 5, 6, 7, 8, 9, 10, 11, 12, 13, 14, 15, 16, 17, 18, 19] rfl, va_K.moved hW.alike (hK.sub (tys' := (tO kw kf km)) [0, 1, 2, 3, 4, 5, 6, 7, 8, 9, 10, 11, 12, 13, 14, 15] rfl), NX.warm hW hN⟩⟩ rfl rfl hl.1 rfl (lv_room (Nat.le_of_ble_eq_true rfl)) d_O_invokeSpecial_115 ⟨Nat.zero_le _, Nat.zero_le _⟩) hS (fun z h1 h2 => absurd h1 (Nat.not_lt.mpr h2)) (fun z h => hA z (Nat.le_trans hS.1 h)) (fun r u t H1 locs ht hvm hpo hB hz1 hk1 hS => ?_)
              subst hpo
              have hP := kp_P hP hk1
              generalize H1 = H at hP hS ⊢
              refine lv_istore (lv' := [(7, .int (f_O_bestOfInterfaces v p1 p3)), (6, .int p1), (5, .int (0 : Int32)), (4, .int (f_O_resolveMethod v (f_W_isInterface v.1 p1) p2 p1 p3)), (0, .ref h0), (1, .int p1), (2, .int p2), (3, .int p3)]) hx hb d_O_invokeSpecial_118 hl (by decide) rfl (fun ls hl => ?_)
              refine lv_aload_n hx hb d_O_invokeSpecial_120 rfl (lv_at hl 4 rfl) ?_
              refine lv_iload hx hb d_O_invokeSpecial_121 (lv_at hl 0 rfl) ?_
              refine lv_iload_n hx hb d_O_invokeSpecial_123 rfl (lv_at hl 7 rfl) ?_
              have hq_33 : vp_in p3 4 := by first | with_reducible assumption | exact in_name (by with_reducible assumption) | exact in4_4 (by with_reducible assumption) | exact in4_5 (by with_reducible assumption) | exact in4_6 (by with_reducible assumption) | exact in4_7 (by with_reducible assumption)
              refine va_calli (va_runV (As := [.int (f_O_bestOfInterfaces v p1 p3), .int p3]) (rest := []) ⟨hx, hb, hml, hown, hts⟩ (c_O_runnable l dC dI h0 kw kf km qw qf qm H.size v (s_O_resolveMethod v (f_W_isInterface v.1 p1) p2 p1 p3) (f_O_bestOfInterfaces v p1 p3) p3 hq_33) (cwV 2 hts k_g39 rfl rfl rfl (by decide +kernel) ⟨Nat.le_of_ble_eq_true rfl, Nat.le_of_ble_eq_true rfl⟩) ⟨fb_ro, va_recv hK hP (ci := 2) (q0 := 0) rfl rfl, fun U hU hW => ⟨rfl, by rw [hU], by rw [hU]; exact hP.sub (ws' := (wO h0 kw kf km qw qf qm v (s_O_resolveMethod v (f_W_isInterface v.1 p1) p2 p1 p3))) [0, 1, 2, 3, 4, 5, 6, 7, 8, 9, 10, 11, 12, 13, 14, 15, 16, 17, 18, 19] rfl, va_K.moved hW.alike (hK.sub (tys' := (tO kw kf km)) [0, 1, 2, 3, 4, 5, 6, 7, 8, 9, 10, 11, 12, 13, 14, 15] rfl), NX.warm hW hN⟩⟩ rfl rfl hl.1 rfl (lv_room (Nat.le_of_ble_eq_true rfl)) d_O_invokeSpecial_124 ⟨Nat.zero_le _, Nat.zero_le _⟩) hS (fun z h1 h2 => absurd h1 (Nat.not_lt.mpr h2)) (fun z h => hA z (Nat.le_trans hS.1 h)) (fun r u t H1 locs ht hvm hpo hB hz1 hk1 hS => ?_)
              subst hpo
              have hP := kp_P hP hk1
              generalize H1 = H at hP hS ⊢
              have hP9 : va_P (dC, dI) classes (wO h0 kw kf km qw qf qm v (s_O_resolveMethod v (f_W_isInterface v.1 p1) p2 p1 p3)) H := hP
              exact W.iret (v := (f_O_runnable v (f_O_bestOfInterfaces v p1 p3) p3)) hx hb hr (fun t ht hW => ⟨⟨(f_O_runnable v (f_O_bestOfInterfaces v p1 p3) p3), (s_O_resolveMethod v (f_W_isInterface v.1 p1) p2 p1 p3), rfl, ⟨by unfold f_O_invokeSpecial; rw [if_pos c_5, if_pos c_7, if_neg c_8, if_pos c_25, if_pos c_26, if_pos c_29], by unfold s_O_invokeSpecial; rw [if_pos c_5, if_pos c_7, if_neg c_8, if_pos c_25, if_pos c_26, if_pos c_29]⟩, hp_at ht hP9⟩, hS.F ht⟩) hS.2.2 d_O_invokeSpecial_127
          · have c_26 : ¬ ((0 : Int32) = (0 : Int32)) := c_26
            refine lv_aload_n hx hb d_O_invokeSpecial_69 rfl (lv_at hl 2 rfl) ?_
            refine va_get (D := (dC, dI)) (ci := 2) (v := .ref (qw 0)) (C := R_O) (T := F_O) (N := 4) hx hb hts i_O hown hK hP 0 rfl rfl 0 (by decide) (hts _ k_22) (fun _ h9 => h9) rfl d_O_invokeSpecial_70 ?_
            refine lv_iload_n hx hb d_O_invokeSpecial_73 rfl (lv_at hl 4 rfl) ?_
            have hq_34 : vp_in p2 13 := by first | with_reducible assumption | exact in_has hw (by with_reducible assumption) | exact in_cls hw (by with_reducible assumption) | exact in_ifc hw (by with_reducible assumption) | exact in_ext hw (by with_reducible assumption) | exact in_eq0 (by with_reducible assumption) | exact hfd (by with_reducible assumption) | exact in_rcv hw (by with_reducible assumption) (Or.inl (by with_reducible assumption)) | exact in_rcv hw (by with_reducible assumption) (Or.inr (by with_reducible assumption))
            refine va_calli (va_runV (As := [.int p2]) (rest := []) ⟨hx, hb, hml, hown, hts⟩ (c_W_superclassOf l dC dI kw qw H.size v.1  p2 hq_34) (cwV 1 hts k_g40 rfl rfl rfl (by decide +kernel) ⟨Nat.le_of_ble_eq_true rfl, Nat.le_of_ble_eq_true rfl⟩) ⟨fb_ro, va_recv hK hP (ci := 0) (q0 := 1) rfl rfl, fun U hU hW => ⟨rfl, by rw [hU], by rw [hU]; exact hP.sub (ws' := (wW kw qw v.1)) [1, 2, 3, 4, 5, 6, 7] rfl, va_K.moved hW.alike (hK.sub (tys' := (tW kw)) [0, 1, 2, 3, 4, 5] rfl), NX.warm hW hN⟩⟩ rfl rfl hl.1 rfl (lv_room (Nat.le_of_ble_eq_true rfl)) d_O_invokeSpecial_74 ⟨Nat.zero_le _, Nat.zero_le _⟩) hS (fun z h1 h2 => absurd h1 (Nat.not_lt.mpr h2)) (fun z h => hA z (Nat.le_trans hS.1 h)) (fun r u t H1 locs ht hvm hpo hB hz1 hk1 hS => ?_)
            subst hpo
            have hP := kp_P hP hk1
            generalize H1 = H at hP hS ⊢
            refine lv_goto (tgt := 81) hx hb d_O_invokeSpecial_77 (by decide) ?_
            refine lv_istore (lv' := [(6, .int (f_W_superclassOf v.1 p2)), (5, .int (0 : Int32)), (4, .int (f_O_resolveMethod v (f_W_isInterface v.1 p1) p2 p1 p3)), (0, .ref h0), (1, .int p1), (2, .int p2), (3, .int p3)]) hx hb d_O_invokeSpecial_81 hl (by decide) rfl (fun ls hl => ?_)
            refine lv_aload_n hx hb d_O_invokeSpecial_83 rfl (lv_at hl 3 rfl) ?_
            refine va_get (D := (dC, dI)) (ci := 2) (v := .ref (qw 0)) (C := R_O) (T := F_O) (N := 4) hx hb hts i_O hown hK hP 0 rfl rfl 0 (by decide) (hts _ k_22) (fun _ h9 => h9) rfl d_O_invokeSpecial_84 ?_
            refine lv_iload hx hb d_O_invokeSpecial_87 (lv_at hl 0 rfl) ?_
            have hq_35 : vp_in (f_W_superclassOf v.1 p2) 13 := by first | with_reducible assumption | exact wf_sup hw (by with_reducible assumption)
            refine va_calli (va_runV (As := [.int (f_W_superclassOf v.1 p2)]) (rest := []) ⟨hx, hb, hml, hown, hts⟩ (c_W_chain l dC dI kw qw H.size v.1  (f_W_superclassOf v.1 p2) hq_35) (cwV 1 hts k_g21 rfl rfl rfl (by decide +kernel) ⟨Nat.le_of_ble_eq_true rfl, Nat.le_of_ble_eq_true rfl⟩) ⟨fb_ro, va_recv hK hP (ci := 0) (q0 := 1) rfl rfl, fun U hU hW => ⟨rfl, by rw [hU], by rw [hU]; exact hP.sub (ws' := (wW kw qw v.1)) [1, 2, 3, 4, 5, 6, 7] rfl, va_K.moved hW.alike (hK.sub (tys' := (tW kw)) [0, 1, 2, 3, 4, 5] rfl), NX.warm hW hN⟩⟩ rfl rfl hl.1 rfl (lv_room (Nat.le_of_ble_eq_true rfl)) d_O_invokeSpecial_89 ⟨Nat.zero_le _, Nat.zero_le _⟩) hS (fun z h1 h2 => absurd h1 (Nat.not_lt.mpr h2)) (fun z h => hA z (Nat.le_trans hS.1 h)) (fun r u t H1 locs ht hvm hpo hB hz1 hk1 hS => ?_)
            subst hpo
            have hP := kp_P hP hk1
            generalize H1 = H at hP hS ⊢
            refine lv_aload_n hx hb d_O_invokeSpecial_92 rfl (lv_at hl 3 rfl) ?_
            refine va_get (D := (dC, dI)) (ci := 2) (v := .ref (qm 0)) (C := R_O) (T := F_O) (N := 4) hx hb hts i_O hown hK hP 0 rfl rfl 2 (by decide) (hts _ k_23) (fun _ h9 => h9) rfl d_O_invokeSpecial_93 ?_
            refine lv_iload_n hx hb d_O_invokeSpecial_96 rfl (lv_at hl 6 rfl) ?_
            have hq_36 : vp_in p3 4 := by first | with_reducible assumption | exact in_name (by with_reducible assumption) | exact in4_4 (by with_reducible assumption) | exact in4_5 (by with_reducible assumption) | exact in4_6 (by with_reducible assumption) | exact in4_7 (by with_reducible assumption)
            refine va_calli (va_runV (As := [.int p3]) (rest := [.int (f_W_chain v.1 (f_W_superclassOf v.1 p2))]) ⟨hx, hb, hml, hown, hts⟩ (c_M_instances l dC dI km qm H.size v.2.2  p3 hq_36) (cwV 1 hts k_g20 rfl rfl rfl (by decide +kernel) ⟨Nat.le_of_ble_eq_true rfl, Nat.le_of_ble_eq_true rfl⟩) ⟨fb_ro, va_recv hK hP (ci := 1) (q0 := 14) rfl rfl, fun U hU hW => ⟨rfl, by rw [hU], by rw [hU]; exact hP.sub (ws' := (wM km qm v.2.2)) [14, 15, 16, 17, 18, 19] rfl, va_K.moved hW.alike (hK.sub (tys' := (tM km)) [11, 12, 13, 14, 15] rfl), NX.warm hW hN⟩⟩ rfl rfl hl.1 rfl (lv_room (Nat.le_of_ble_eq_true rfl)) d_O_invokeSpecial_97 ⟨Nat.zero_le _, Nat.zero_le _⟩) hS (fun z h1 h2 => absurd h1 (Nat.not_lt.mpr h2)) (fun z h => hA z (Nat.le_trans hS.1 h)) (fun r u t H1 locs ht hvm hpo hB hz1 hk1 hS => ?_)
            subst hpo
            have hP := kp_P hP hk1
            generalize H1 = H at hP hS ⊢
            refine lv_iand hx hb d_O_invokeSpecial_100 ?_
            refine va_calli (va_runS (As := [.int ((f_W_chain v.1 (f_W_superclassOf v.1 p2)) &&& (f_M_instances v.2.2 p3))]) (rest := []) ⟨hx, hb, hml, hown, hts⟩ (c_O_greatestOf l dC dI  H.size   ((f_W_chain v.1 (f_W_superclassOf v.1 p2)) &&& (f_M_instances v.2.2 p3))) (cwS 1 hts k_g34 rfl rfl rfl (by decide +kernel) ⟨Nat.le_of_ble_eq_true rfl, Nat.le_of_ble_eq_true rfl⟩) ⟨fb_ro, fun U hU hW => ⟨rfl, by rw [hU], by rw [hU]; exact hP.sub (ws' := ([] : va_W)) [] rfl, va_K.moved hW.alike (hK.sub (tys' := []) [] rfl), NX.warm hW hN⟩⟩ rfl rfl hl.1 rfl (lv_room (Nat.le_of_ble_eq_true rfl)) d_O_invokeSpecial_101 ⟨Nat.zero_le _, Nat.zero_le _⟩) hS (fun z h1 h2 => absurd h1 (Nat.not_lt.mpr h2)) (fun z h => hA z (Nat.le_trans hS.1 h)) (fun r u t H1 locs ht hvm hpo hB hz1 hk1 hS => ?_)
            subst hpo
            have hP := kp_P hP hk1
            generalize H1 = H at hP hS ⊢
            refine lv_istore (lv' := [(7, .int (f_O_greatestOf ((f_W_chain v.1 (f_W_superclassOf v.1 p2)) &&& (f_M_instances v.2.2 p3)))), (6, .int (f_W_superclassOf v.1 p2)), (5, .int (0 : Int32)), (4, .int (f_O_resolveMethod v (f_W_isInterface v.1 p1) p2 p1 p3)), (0, .ref h0), (1, .int p1), (2, .int p2), (3, .int p3)]) hx hb d_O_invokeSpecial_104 hl (by decide) rfl (fun ls hl => ?_)
            refine lv_iload hx hb d_O_invokeSpecial_106 (lv_at hl 0 rfl) ?_
            refine lv_if_ne (tgt := 120) hx hb d_O_invokeSpecial_108 (by decide) (fun c_37 => ?_) (fun c_37 => ?_)
            · have c_37 : ¬ ((f_O_greatestOf ((f_W_chain v.1 (f_W_superclassOf v.1 p2)) &&& (f_M_instances v.2.2 p3))) = (0 : Int32)) := c_37
              refine lv_aload_n hx hb d_O_invokeSpecial_120 rfl (lv_at hl 4 rfl) ?_
              refine lv_iload hx hb d_O_invokeSpecial_121 (lv_at hl 0 rfl) ?_
              refine lv_iload_n hx hb d_O_invokeSpecial_123 rfl (lv_at hl 7 rfl) ?_
              have hq_38 : vp_in p3 4 := by first | with_reducible assumption | exact in_name (by with_reducible assumption) | exact in4_4 (by with_reducible assumption) | exact in4_5 (by with_reducible assumption) | exact in4_6 (by with_reducible assumption) | exact in4_7 (by with_reducible assumption)
              refine va_calli (va_runV (As := [.int (f_O_greatestOf ((f_W_chain v.1 (f_W_superclassOf v.1 p2)) &&& (f_M_instances v.2.2 p3))), .int p3]) (rest := []) ⟨hx, hb, hml, hown, hts⟩ (c_O_runnable l dC dI h0 kw kf km qw qf qm H.size v (s_O_resolveMethod v (f_W_isInterface v.1 p1) p2 p1 p3) (f_O_greatestOf ((f_W_chain v.1 (f_W_superclassOf v.1 p2)) &&& (f_M_instances v.2.2 p3))) p3 hq_38) (cwV 2 hts k_g39 rfl rfl rfl (by decide +kernel) ⟨Nat.le_of_ble_eq_true rfl, Nat.le_of_ble_eq_true rfl⟩) ⟨fb_ro, va_recv hK hP (ci := 2) (q0 := 0) rfl rfl, fun U hU hW => ⟨rfl, by rw [hU], by rw [hU]; exact hP.sub (ws' := (wO h0 kw kf km qw qf qm v (s_O_resolveMethod v (f_W_isInterface v.1 p1) p2 p1 p3))) [0, 1, 2, 3, 4, 5, 6, 7, 8, 9, 10, 11, 12, 13, 14, 15, 16, 17, 18, 19] rfl, va_K.moved hW.alike (hK.sub (tys' := (tO kw kf km)) [0, 1, 2, 3, 4, 5, 6, 7, 8, 9, 10, 11, 12, 13, 14, 15] rfl), NX.warm hW hN⟩⟩ rfl rfl hl.1 rfl (lv_room (Nat.le_of_ble_eq_true rfl)) d_O_invokeSpecial_124 ⟨Nat.zero_le _, Nat.zero_le _⟩) hS (fun z h1 h2 => absurd h1 (Nat.not_lt.mpr h2)) (fun z h => hA z (Nat.le_trans hS.1 h)) (fun r u t H1 locs ht hvm hpo hB hz1 hk1 hS => ?_)
              subst hpo
              have hP := kp_P hP hk1
              generalize H1 = H at hP hS ⊢
              have hP9 : va_P (dC, dI) classes (wO h0 kw kf km qw qf qm v (s_O_resolveMethod v (f_W_isInterface v.1 p1) p2 p1 p3)) H := hP
              exact W.iret (v := (f_O_runnable v (f_O_greatestOf ((f_W_chain v.1 (f_W_superclassOf v.1 p2)) &&& (f_M_instances v.2.2 p3))) p3)) hx hb hr (fun t ht hW => ⟨⟨(f_O_runnable v (f_O_greatestOf ((f_W_chain v.1 (f_W_superclassOf v.1 p2)) &&& (f_M_instances v.2.2 p3))) p3), (s_O_resolveMethod v (f_W_isInterface v.1 p1) p2 p1 p3), rfl, ⟨by unfold f_O_invokeSpecial; rw [if_pos c_5, if_pos c_7, if_neg c_8, if_pos c_25, if_neg c_26, if_neg c_37], by unfold s_O_invokeSpecial; rw [if_pos c_5, if_pos c_7, if_neg c_8, if_pos c_25, if_neg c_26, if_neg c_37]⟩, hp_at ht hP9⟩, hS.F ht⟩) hS.2.2 d_O_invokeSpecial_127
            · have c_37 : (f_O_greatestOf ((f_W_chain v.1 (f_W_superclassOf v.1 p2)) &&& (f_M_instances v.2.2 p3))) = (0 : Int32) := c_37
              refine lv_aload_n hx hb d_O_invokeSpecial_111 rfl (lv_at hl 4 rfl) ?_
              refine lv_iload hx hb d_O_invokeSpecial_112 (lv_at hl 1 rfl) ?_
              refine lv_iload_n hx hb d_O_invokeSpecial_114 rfl (lv_at hl 7 rfl) ?_
              have hq_39 : vp_in (f_W_superclassOf v.1 p2) 13 := by first | with_reducible assumption | exact wf_sup hw (by with_reducible assumption)
              have hq_40 : vp_in p3 4 := by first | with_reducible assumption | exact in_name (by with_reducible assumption) | exact in4_4 (by with_reducible assumption) | exact in4_5 (by with_reducible assumption) | exact in4_6 (by with_reducible assumption) | exact in4_7 (by with_reducible assumption)
              refine va_calli (va_runV (As := [.int (f_W_superclassOf v.1 p2), .int p3]) (rest := []) ⟨hx, hb, hml, hown, hts⟩ (c_O_bestOfInterfaces l dC dI h0 kw kf km qw qf qm H.size v (s_O_resolveMethod v (f_W_isInterface v.1 p1) p2 p1 p3) (f_W_superclassOf v.1 p2) p3 hq_39 hq_40) (cwV 2 hts k_g24 rfl rfl rfl (by decide +kernel) ⟨Nat.le_of_ble_eq_true rfl, Nat.le_of_ble_eq_true rfl⟩) ⟨fb_ro, va_recv hK hP (ci := 2) (q0 := 0) rfl rfl, fun U hU hW => ⟨rfl, by rw [hU], by rw [hU]; exact hP.sub (ws' := (wO h0 kw kf km qw qf qm v (s_O_resolveMethod v (f_W_isInterface v.1 p1) p2 p1 p3))) [0, 1, 2, 3, 4, 5, 6, 7, 8, 9, 10, 11, 12, 13, 14, 15, 16, 17, 18, 19] rfl, va_K.moved hW.alike (hK.sub (tys' := (tO kw kf km)) [0, 1, 2, 3, 4, 5, 6, 7, 8, 9, 10, 11, 12, 13, 14, 15] rfl), NX.warm hW hN⟩⟩ rfl rfl hl.1 rfl (lv_room (Nat.le_of_ble_eq_true rfl)) d_O_invokeSpecial_115 ⟨Nat.zero_le _, Nat.zero_le _⟩) hS (fun z h1 h2 => absurd h1 (Nat.not_lt.mpr h2)) (fun z h => hA z (Nat.le_trans hS.1 h)) (fun r u t H1 locs ht hvm hpo hB hz1 hk1 hS => ?_)
              subst hpo
              have hP := kp_P hP hk1
              generalize H1 = H at hP hS ⊢
              refine lv_istore (lv' := [(7, .int (f_O_bestOfInterfaces v (f_W_superclassOf v.1 p2) p3)), (6, .int (f_W_superclassOf v.1 p2)), (5, .int (0 : Int32)), (4, .int (f_O_resolveMethod v (f_W_isInterface v.1 p1) p2 p1 p3)), (0, .ref h0), (1, .int p1), (2, .int p2), (3, .int p3)]) hx hb d_O_invokeSpecial_118 hl (by decide) rfl (fun ls hl => ?_)
              refine lv_aload_n hx hb d_O_invokeSpecial_120 rfl (lv_at hl 4 rfl) ?_
              refine lv_iload hx hb d_O_invokeSpecial_121 (lv_at hl 0 rfl) ?_
              refine lv_iload_n hx hb d_O_invokeSpecial_123 rfl (lv_at hl 7 rfl) ?_
              have hq_41 : vp_in p3 4 := by first | with_reducible assumption | exact in_name (by with_reducible assumption) | exact in4_4 (by with_reducible assumption) | exact in4_5 (by with_reducible assumption) | exact in4_6 (by with_reducible assumption) | exact in4_7 (by with_reducible assumption)
              refine va_calli (va_runV (As := [.int (f_O_bestOfInterfaces v (f_W_superclassOf v.1 p2) p3), .int p3]) (rest := []) ⟨hx, hb, hml, hown, hts⟩ (c_O_runnable l dC dI h0 kw kf km qw qf qm H.size v (s_O_resolveMethod v (f_W_isInterface v.1 p1) p2 p1 p3) (f_O_bestOfInterfaces v (f_W_superclassOf v.1 p2) p3) p3 hq_41) (cwV 2 hts k_g39 rfl rfl rfl (by decide +kernel) ⟨Nat.le_of_ble_eq_true rfl, Nat.le_of_ble_eq_true rfl⟩) ⟨fb_ro, va_recv hK hP (ci := 2) (q0 := 0) rfl rfl, fun U hU hW => ⟨rfl, by rw [hU], by rw [hU]; exact hP.sub (ws' := (wO h0 kw kf km qw qf qm v (s_O_resolveMethod v (f_W_isInterface v.1 p1) p2 p1 p3))) [0, 1, 2, 3, 4, 5, 6, 7, 8, 9, 10, 11, 12, 13, 14, 15, 16, 17, 18, 19] rfl, va_K.moved hW.alike (hK.sub (tys' := (tO kw kf km)) [0, 1, 2, 3, 4, 5, 6, 7, 8, 9, 10, 11, 12, 13, 14, 15] rfl), NX.warm hW hN⟩⟩ rfl rfl hl.1 rfl (lv_room (Nat.le_of_ble_eq_true rfl)) d_O_invokeSpecial_124 ⟨Nat.zero_le _, Nat.zero_le _⟩) hS (fun z h1 h2 => absurd h1 (Nat.not_lt.mpr h2)) (fun z h => hA z (Nat.le_trans hS.1 h)) (fun r u t H1 locs ht hvm hpo hB hz1 hk1 hS => ?_)
              subst hpo
              have hP := kp_P hP hk1
              generalize H1 = H at hP hS ⊢
              have hP9 : va_P (dC, dI) classes (wO h0 kw kf km qw qf qm v (s_O_resolveMethod v (f_W_isInterface v.1 p1) p2 p1 p3)) H := hP
              exact W.iret (v := (f_O_runnable v (f_O_bestOfInterfaces v (f_W_superclassOf v.1 p2) p3) p3)) hx hb hr (fun t ht hW => ⟨⟨(f_O_runnable v (f_O_bestOfInterfaces v (f_W_superclassOf v.1 p2) p3) p3), (s_O_resolveMethod v (f_W_isInterface v.1 p1) p2 p1 p3), rfl, ⟨by unfold f_O_invokeSpecial; rw [if_pos c_5, if_pos c_7, if_neg c_8, if_pos c_25, if_neg c_26, if_pos c_37], by unfold s_O_invokeSpecial; rw [if_pos c_5, if_pos c_7, if_neg c_8, if_pos c_25, if_neg c_26, if_pos c_37]⟩, hp_at ht hP9⟩, hS.F ht⟩) hS.2.2 d_O_invokeSpecial_127
        · have c_25 : ¬ (p1 = p2) := c_25
          refine lv_iconst (v := (1 : Int32)) hx hb d_O_invokeSpecial_57 (by decide +kernel) ?_
          refine lv_goto (tgt := 62) hx hb d_O_invokeSpecial_58 (by decide) ?_
          refine lv_istore (lv' := [(5, .int (1 : Int32)), (4, .int (f_O_resolveMethod v (f_W_isInterface v.1 p1) p2 p1 p3)), (0, .ref h0), (1, .int p1), (2, .int p2), (3, .int p3)]) hx hb d_O_invokeSpecial_62 hl (by decide) rfl (fun ls hl => ?_)
          refine lv_iload hx hb d_O_invokeSpecial_64 (lv_at hl 0 rfl) ?_
          refine lv_if_eq (tgt := 80) hx hb d_O_invokeSpecial_66 (by decide) (fun c_42 => ?_) (fun c_42 => ?_)
          · have c_42 : (1 : Int32) = (0 : Int32) := c_42
            refine lv_iload_n hx hb d_O_invokeSpecial_80 rfl (lv_at hl 3 rfl) ?_
            refine lv_istore (lv' := [(6, .int p1), (5, .int (1 : Int32)), (4, .int (f_O_resolveMethod v (f_W_isInterface v.1 p1) p2 p1 p3)), (0, .ref h0), (1, .int p1), (2, .int p2), (3, .int p3)]) hx hb d_O_invokeSpecial_81 hl (by decide) rfl (fun ls hl => ?_)
            refine lv_aload_n hx hb d_O_invokeSpecial_83 rfl (lv_at hl 3 rfl) ?_
            refine va_get (D := (dC, dI)) (ci := 2) (v := .ref (qw 0)) (C := R_O) (T := F_O) (N := 4) hx hb hts i_O hown hK hP 0 rfl rfl 0 (by decide) (hts _ k_22) (fun _ h9 => h9) rfl d_O_invokeSpecial_84 ?_
            refine lv_iload hx hb d_O_invokeSpecial_87 (lv_at hl 0 rfl) ?_
            have hq_43 : vp_in p1 13 := by first | with_reducible assumption | exact in_has hw (by with_reducible assumption) | exact in_cls hw (by with_reducible assumption) | exact in_ifc hw (by with_reducible assumption) | exact in_ext hw (by with_reducible assumption) | exact in_eq0 (by with_reducible assumption) | exact hfd (by with_reducible assumption) | exact in_rcv hw (by with_reducible assumption) (Or.inl (by with_reducible assumption)) | exact in_rcv hw (by with_reducible assumption) (Or.inr (by with_reducible assumption))
            refine va_calli (va_runV (As := [.int p1]) (rest := []) ⟨hx, hb, hml, hown, hts⟩ (c_W_chain l dC dI kw qw H.size v.1  p1 hq_43) (cwV 1 hts k_g21 rfl rfl rfl (by decide +kernel) ⟨Nat.le_of_ble_eq_true rfl, Nat.le_of_ble_eq_true rfl⟩) ⟨fb_ro, va_recv hK hP (ci := 0) (q0 := 1) rfl rfl, fun U hU hW => ⟨rfl, by rw [hU], by rw [hU]; exact hP.sub (ws' := (wW kw qw v.1)) [1, 2, 3, 4, 5, 6, 7] rfl, va_K.moved hW.alike (hK.sub (tys' := (tW kw)) [0, 1, 2, 3, 4, 5] rfl), NX.warm hW hN⟩⟩ rfl rfl hl.1 rfl (lv_room (Nat.le_of_ble_eq_true rfl)) d_O_invokeSpecial_89 ⟨Nat.zero_le _, Nat.zero_le _⟩) hS (fun z h1 h2 => absurd h1 (Nat.not_lt.mpr h2)) (fun z h => hA z (Nat.le_trans hS.1 h)) (fun r u t H1 locs ht hvm hpo hB hz1 hk1 hS => ?_)
            subst hpo
            have hP := kp_P hP hk1
            generalize H1 = H at hP hS ⊢
            refine lv_aload_n hx hb d_O_invokeSpecial_92 rfl (lv_at hl 3 rfl) ?_
            refine va_get (D := (dC, dI)) (ci := 2) (v := .ref (qm 0)) (C := R_O) (T := F_O) (N := 4) hx hb hts i_O hown hK hP 0 rfl rfl 2 (by decide) (hts _ k_23) (fun _ h9 => h9) rfl d_O_invokeSpecial_93 ?_
            refine lv_iload_n hx hb d_O_invokeSpecial_96 rfl (lv_at hl 6 rfl) ?_
            have hq_44 : vp_in p3 4 := by first | with_reducible assumption | exact in_name (by with_reducible assumption) | exact in4_4 (by with_reducible assumption) | exact in4_5 (by with_reducible assumption) | exact in4_6 (by with_reducible assumption) | exact in4_7 (by with_reducible assumption)
            refine va_calli (va_runV (As := [.int p3]) (rest := [.int (f_W_chain v.1 p1)]) ⟨hx, hb, hml, hown, hts⟩ (c_M_instances l dC dI km qm H.size v.2.2  p3 hq_44) (cwV 1 hts k_g20 rfl rfl rfl (by decide +kernel) ⟨Nat.le_of_ble_eq_true rfl, Nat.le_of_ble_eq_true rfl⟩) ⟨fb_ro, va_recv hK hP (ci := 1) (q0 := 14) rfl rfl, fun U hU hW => ⟨rfl, by rw [hU], by rw [hU]; exact hP.sub (ws' := (wM km qm v.2.2)) [14, 15, 16, 17, 18, 19] rfl, va_K.moved hW.alike (hK.sub (tys' := (tM km)) [11, 12, 13, 14, 15] rfl), NX.warm hW hN⟩⟩ rfl rfl hl.1 rfl (lv_room (Nat.le_of_ble_eq_true rfl)) d_O_invokeSpecial_97 ⟨Nat.zero_le _, Nat.zero_le _⟩) hS (fun z h1 h2 => absurd h1 (Nat.not_lt.mpr h2)) (fun z h => hA z (Nat.le_trans hS.1 h)) (fun r u t H1 locs ht hvm hpo hB hz1 hk1 hS => ?_)
            subst hpo
            have hP := kp_P hP hk1
            generalize H1 = H at hP hS ⊢
            refine lv_iand hx hb d_O_invokeSpecial_100 ?_
            refine va_calli (va_runS (As := [.int ((f_W_chain v.1 p1) &&& (f_M_instances v.2.2 p3))]) (rest := []) ⟨hx, hb, hml, hown, hts⟩ (c_O_greatestOf l dC dI  H.size   ((f_W_chain v.1 p1) &&& (f_M_instances v.2.2 p3))) (cwS 1 hts k_g34 rfl rfl rfl (by decide +kernel) ⟨Nat.le_of_ble_eq_true rfl, Nat.le_of_ble_eq_true rfl⟩) ⟨fb_ro, fun U hU hW => ⟨rfl, by rw [hU], by rw [hU]; exact hP.sub (ws' := ([] : va_W)) [] rfl, va_K.moved hW.alike (hK.sub (tys' := []) [] rfl), NX.warm hW hN⟩⟩ rfl rfl hl.1 rfl (lv_room (Nat.le_of_ble_eq_true rfl)) d_O_invokeSpecial_101 ⟨Nat.zero_le _, Nat.zero_le _⟩) hS (fun z h1 h2 => absurd h1 (Nat.not_lt.mpr h2)) (fun z h => hA z (Nat.le_trans hS.1 h)) (fun r u t H1 locs ht hvm hpo hB hz1 hk1 hS => ?_)
            subst hpo
            have hP := kp_P hP hk1
            generalize H1 = H at hP hS ⊢
            refine lv_istore (lv' := [(7, .int (f_O_greatestOf ((f_W_chain v.1 p1) &&& (f_M_instances v.2.2 p3)))), (6, .int p1), (5, .int (1 : Int32)), (4, .int (f_O_resolveMethod v (f_W_isInterface v.1 p1) p2 p1 p3)), (0, .ref h0), (1, .int p1), (2, .int p2), (3, .int p3)]) hx hb d_O_invokeSpecial_104 hl (by decide) rfl (fun ls hl => ?_)
            refine lv_iload hx hb d_O_invokeSpecial_106 (lv_at hl 0 rfl) ?_
            refine lv_if_ne (tgt := 120) hx hb d_O_invokeSpecial_108 (by decide) (fun c_45 => ?_) (fun c_45 => ?_)
            · have c_45 : ¬ ((f_O_greatestOf ((f_W_chain v.1 p1) &&& (f_M_instances v.2.2 p3))) = (0 : Int32)) := c_45
              refine lv_aload_n hx hb d_O_invokeSpecial_120 rfl (lv_at hl 4 rfl) ?_
              refine lv_iload hx hb d_O_invokeSpecial_121 (lv_at hl 0 rfl) ?_
              refine lv_iload_n hx hb d_O_invokeSpecial_123 rfl (lv_at hl 7 rfl) ?_
              have hq_46 : vp_in p3 4 := by first | with_reducible assumption | exact in_name (by with_reducible assumption) | exact in4_4 (by with_reducible assumption) | exact in4_5 (by with_reducible assumption) | exact in4_6 (by with_reducible assumption) | exact in4_7 (by with_reducible assumption)
              refine va_calli (va_runV (As := [.int (f_O_greatestOf ((f_W_chain v.1 p1) &&& (f_M_instances v.2.2 p3))), .int p3]) (rest := []) ⟨hx, hb, hml, hown, hts⟩ (c_O_runnable l dC dI h0 kw kf km qw qf qm H.size v (s_O_resolveMethod v (f_W_isInterface v.1 p1) p2 p1 p3) (f_O_greatestOf ((f_W_chain v.1 p1) &&& (f_M_instances v.2.2 p3))) p3 hq_46) (cwV 2 hts k_g39 rfl rfl rfl (by decide +kernel) ⟨Nat.le_of_ble_eq_true rfl, Nat.le_of_ble_eq_true rfl⟩) ⟨fb_ro, va_recv hK hP (ci := 2) (q0 := 0) rfl rfl, fun U hU hW => ⟨rfl, by rw [hU], by rw [hU]; exact hP.sub (ws' := (wO h0 kw kf km qw qf qm v (s_O_resolveMethod v (f_W_isInterface v.1 p1) p2 p1 p3))) [0, 1, 2, 3, 4, 5, 6, 7, 8, 9, 10, 11, 12, 13, 14, 15, 16, 17, 18, 19] rfl, va_K.moved hW.alike (hK.sub (tys' := (tO kw kf km)) [0, 1, 2, 3, 4, 5, 6, 7, 8, 9, 10, 11, 12, 13, 14, 15] rfl), NX.warm hW hN⟩⟩ rfl rfl hl.1 rfl (lv_room (Nat.le_of_ble_eq_true rfl)) d_O_invokeSpecial_124 ⟨Nat.zero_le _, Nat.zero_le _⟩) hS (fun z h1 h2 => absurd h1 (Nat.not_lt.mpr h2)) (fun z h => hA z (Nat.le_trans hS.1 h)) (fun r u t H1 locs ht hvm hpo hB hz1 hk1 hS => ?_)
              subst hpo
              have hP := kp_P hP hk1
              generalize H1 = H at hP hS ⊢
              have hP9 : va_P (dC, dI) classes (wO h0 kw kf km qw qf qm v (s_O_resolveMethod v (f_W_isInterface v.1 p1) p2 p1 p3)) H := hP
              exact W.iret (v := (f_O_runnable v (f_O_greatestOf ((f_W_chain v.1 p1) &&& (f_M_instances v.2.2 p3))) p3)) hx hb hr (fun t ht hW => ⟨⟨(f_O_runnable v (f_O_greatestOf ((f_W_chain v.1 p1) &&& (f_M_instances v.2.2 p3))) p3), (s_O_resolveMethod v (f_W_isInterface v.1 p1) p2 p1 p3), rfl, ⟨by unfold f_O_invokeSpecial; rw [if_pos c_5, if_pos c_7, if_neg c_8, if_neg c_25, if_pos c_42, if_neg c_45], by unfold s_O_invokeSpecial; rw [if_pos c_5, if_pos c_7, if_neg c_8, if_neg c_25, if_pos c_42, if_neg c_45]⟩, hp_at ht hP9⟩, hS.F ht⟩) hS.2.2 d_O_invokeSpecial_127
            · have c_45 : (f_O_greatestOf ((f_W_chain v.1 p1) &&& (f_M_instances v.2.2 p3))) = (0 : Int32) := c_45
              refine lv_aload_n hx hb d_O_invokeSpecial_111 rfl (lv_at hl 4 rfl) ?_
              refine lv_iload hx hb d_O_invokeSpecial_112 (lv_at hl 1 rfl) ?_
              refine lv_iload_n hx hb d_O_invokeSpecial_114 rfl (lv_at hl 7 rfl) ?_
              have hq_47 : vp_in p1 13 := by first | with_reducible assumption | exact in_has hw (by with_reducible assumption) | exact in_cls hw (by with_reducible assumption) | exact in_ifc hw (by with_reducible assumption) | exact in_ext hw (by with_reducible assumption) | exact in_eq0 (by with_reducible assumption) | exact hfd (by with_reducible assumption) | exact in_rcv hw (by with_reducible assumption) (Or.inl (by with_reducible assumption)) | exact in_rcv hw (by with_reducible assumption) (Or.inr (by with_reducible assumption))
              have hq_48 : vp_in p3 4 := by first | with_reducible assumption | exact in_name (by with_reducible assumption) | exact in4_4 (by with_reducible assumption) | exact in4_5 (by with_reducible assumption) | exact in4_6 (by with_reducible assumption) | exact in4_7 (by with_reducible assumption)
              refine va_calli (va_runV (As := [.int p1, .int p3]) (rest := []) ⟨hx, hb, hml, hown, hts⟩ (c_O_bestOfInterfaces l dC dI h0 kw kf km qw qf qm H.size v (s_O_resolveMethod v (f_W_isInterface v.1 p1) p2 p1 p3) p1 p3 hq_47 hq_48) (cwV 2 hts k_g24 rfl rfl rfl (by decide +kernel) ⟨Nat.le_of_ble_eq_true rfl, Nat.le_of_ble_eq_true rfl⟩) ⟨fb_ro, va_recv hK hP (ci := 2) (q0 := 0) rfl rfl, fun U hU hW => ⟨rfl, by rw [hU], by rw [hU]; exact hP.sub (ws' := (wO h0 kw kf km qw qf qm v (s_O_resolveMethod v (f_W_isInterface v.1 p1) p2 p1 p3))) [0, 1, 2, 3, 4, 5, 6, 7, 8, 9, 10, 11, 12, 13, 14, 15, 16, 17, 18, 19] rfl, va_K.moved hW.alike (hK.sub (tys' := (tO kw kf km)) [0, 1, 2, 3, 4, 5, 6, 7, 8, 9, 10, 11, 12, 13, 14, 15] rfl), NX.warm hW hN⟩⟩ rfl rfl hl.1 rfl (lv_room (Nat.le_of_ble_eq_true rfl)) d_O_invokeSpecial_115 ⟨Nat.zero_le _, Nat.zero_le _⟩) hS (fun z h1 h2 => absurd h1 (Nat.not_lt.mpr h2)) (fun z h => hA z (Nat.le_trans hS.1 h)) (fun r u t H1 locs ht hvm hpo hB hz1 hk1 hS => ?_)
              subst hpo
              have hP := kp_P hP hk1
              generalize H1 = H at hP hS ⊢
              refine lv_istore (lv' := [(7, .int (f_O_bestOfInterfaces v p1 p3)), (6, .int p1), (5, .int (1 : Int32)), (4, .int (f_O_resolveMethod v (f_W_isInterface v.1 p1) p2 p1 p3)), (0, .ref h0), (1, .int p1), (2, .int p2), (3, .int p3)]) hx hb d_O_invokeSpecial_118 hl (by decide) rfl (fun ls hl => ?_)
              refine lv_aload_n hx hb d_O_invokeSpecial_120 rfl (lv_at hl 4 rfl) ?_
              refine lv_iload hx hb d_O_invokeSpecial_121 (lv_at hl 0 rfl) ?_
              refine lv_iload_n hx hb d_O_invokeSpecial_123 rfl (lv_at hl 7 rfl) ?_
              have hq_49 : vp_in p3 4 := by first | with_reducible assumption | exact in_name (by with_reducible assumption) | exact in4_4 (by with_reducible assumption) | exact in4_5 (by with_reducible assumption) | exact in4_6 (by with_reducible assumption) | exact in4_7 (by with_reducible assumption)
              refine va_calli (va_runV (As := [.int (f_O_bestOfInterfaces v p1 p3), .int p3]) (rest := []) ⟨hx, hb, hml, hown, hts⟩ (c_O_runnable l dC dI h0 kw kf km qw qf qm H.size v (s_O_resolveMethod v (f_W_isInterface v.1 p1) p2 p1 p3) (f_O_bestOfInterfaces v p1 p3) p3 hq_49) (cwV 2 hts k_g39 rfl rfl rfl (by decide +kernel) ⟨Nat.le_of_ble_eq_true rfl, Nat.le_of_ble_eq_true rfl⟩) ⟨fb_ro, va_recv hK hP (ci := 2) (q0 := 0) rfl rfl, fun U hU hW => ⟨rfl, by rw [hU], by rw [hU]; exact hP.sub (ws' := (wO h0 kw kf km qw qf qm v (s_O_resolveMethod v (f_W_isInterface v.1 p1) p2 p1 p3))) [0, 1, 2, 3, 4, 5, 6, 7, 8, 9, 10, 11, 12, 13, 14, 15, 16, 17, 18, 19] rfl, va_K.moved hW.alike (hK.sub (tys' := (tO kw kf km)) [0, 1, 2, 3, 4, 5, 6, 7, 8, 9, 10, 11, 12, 13, 14, 15] rfl), NX.warm hW hN⟩⟩ rfl rfl hl.1 rfl (lv_room (Nat.le_of_ble_eq_true rfl)) d_O_invokeSpecial_124 ⟨Nat.zero_le _, Nat.zero_le _⟩) hS (fun z h1 h2 => absurd h1 (Nat.not_lt.mpr h2)) (fun z h => hA z (Nat.le_trans hS.1 h)) (fun r u t H1 locs ht hvm hpo hB hz1 hk1 hS => ?_)
              subst hpo
              have hP := kp_P hP hk1
              generalize H1 = H at hP hS ⊢
              have hP9 : va_P (dC, dI) classes (wO h0 kw kf km qw qf qm v (s_O_resolveMethod v (f_W_isInterface v.1 p1) p2 p1 p3)) H := hP
              exact W.iret (v := (f_O_runnable v (f_O_bestOfInterfaces v p1 p3) p3)) hx hb hr (fun t ht hW => ⟨⟨(f_O_runnable v (f_O_bestOfInterfaces v p1 p3) p3), (s_O_resolveMethod v (f_W_isInterface v.1 p1) p2 p1 p3), rfl, ⟨by unfold f_O_invokeSpecial; rw [if_pos c_5, if_pos c_7, if_neg c_8, if_neg c_25, if_pos c_42, if_pos c_45], by unfold s_O_invokeSpecial; rw [if_pos c_5, if_pos c_7, if_neg c_8, if_neg c_25, if_pos c_42, if_pos c_45]⟩, hp_at ht hP9⟩, hS.F ht⟩) hS.2.2 d_O_invokeSpecial_127
          · have c_42 : ¬ ((1 : Int32) = (0 : Int32)) := c_42
            refine lv_aload_n hx hb d_O_invokeSpecial_69 rfl (lv_at hl 2 rfl) ?_
            refine va_get (D := (dC, dI)) (ci := 2) (v := .ref (qw 0)) (C := R_O) (T := F_O) (N := 4) hx hb hts i_O hown hK hP 0 rfl rfl 0 (by decide) (hts _ k_22) (fun _ h9 => h9) rfl d_O_invokeSpecial_70 ?_
            refine lv_iload_n hx hb d_O_invokeSpecial_73 rfl (lv_at hl 4 rfl) ?_
            have hq_50 : vp_in p2 13 := by first | with_reducible assumption | exact in_has hw (by with_reducible assumption) | exact in_cls hw (by with_reducible assumption) | exact in_ifc hw (by with_reducible assumption) | exact in_ext hw (by with_reducible assumption) | exact in_eq0 (by with_reducible assumption) | exact hfd (by with_reducible assumption) | exact in_rcv hw (by with_reducible assumption) (Or.inl (by with_reducible assumption)) | exact in_rcv hw (by with_reducible assumption) (Or.inr (by with_reducible assumption))
            refine va_calli (va_runV (As := [.int p2]) (rest := []) ⟨hx, hb, hml, hown, hts⟩ (c_W_superclassOf l dC dI kw qw H.size v.1  p2 hq_50) (cwV 1 hts k_g40 rfl rfl rfl (by decide +kernel) ⟨Nat.le_of_ble_eq_true rfl, Nat.le_of_ble_eq_true rfl⟩) ⟨fb_ro, va_recv hK hP (ci := 0) (q0 := 1) rfl rfl, fun U hU hW => ⟨rfl, by rw [hU], by rw [hU]; exact hP.sub (ws' := (wW kw qw v.1)) [1, 2, 3, 4, 5, 6, 7] rfl, va_K.moved hW.alike (hK.sub (tys' := (tW kw)) [0, 1, 2, 3, 4, 5] rfl), NX.warm hW hN⟩⟩ rfl rfl hl.1 rfl (lv_room (Nat.le_of_ble_eq_true rfl)) d_O_invokeSpecial_74 ⟨Nat.zero_le _, Nat.zero_le _⟩) hS (fun z h1 h2 => absurd h1 (Nat.not_lt.mpr h2)) (fun z h => hA z (Nat.le_trans hS.1 h)) (fun r u t H1 locs ht hvm hpo hB hz1 hk1 hS => ?_)
            subst hpo
            have hP := kp_P hP hk1
            generalize H1 = H at hP hS ⊢
            refine lv_goto (tgt := 81) hx hb d_O_invokeSpecial_77 (by decide) ?_
            refine lv_istore (lv' := [(6, .int (f_W_superclassOf v.1 p2)), (5, .int (1 : Int32)), (4, .int (f_O_resolveMethod v (f_W_isInterface v.1 p1) p2 p1 p3)), (0, .ref h0), (1, .int p1), (2, .int p2), (3, .int p3)]) hx hb d_O_invokeSpecial_81 hl (by decide) rfl (fun ls hl => ?_)
            refine lv_aload_n hx hb d_O_invokeSpecial_83 rfl (lv_at hl 3 rfl) ?_
            refine va_get (D := (dC, dI)) (ci := 2) (v := .ref (qw 0)) (C := R_O) (T := F_O) (N := 4) hx hb hts i_O hown hK hP 0 rfl rfl 0 (by decide) (hts _ k_22) (fun _ h9 => h9) rfl d_O_invokeSpecial_84 ?_
            refine lv_iload hx hb d_O_invokeSpecial_87 (lv_at hl 0 rfl) ?_
            have hq_51 : vp_in (f_W_superclassOf v.1 p2) 13 := by first | with_reducible assumption | exact wf_sup hw (by with_reducible assumption)
            refine va_calli (va_runV (As := [.int (f_W_superclassOf v.1 p2)]) (rest := []) ⟨hx, hb, hml, hown, hts⟩ (c_W_chain l dC dI kw qw H.size v.1  (f_W_superclassOf v.1 p2) hq_51) (cwV 1 hts k_g21 rfl rfl rfl (by decide +kernel) ⟨Nat.le_of_ble_eq_true rfl, Nat.le_of_ble_eq_true rfl⟩) ⟨fb_ro, va_recv hK hP (ci := 0) (q0 := 1) rfl rfl, fun U hU hW => ⟨rfl, by rw [hU], by rw [hU]; exact hP.sub (ws' := (wW kw qw v.1)) [1, 2, 3, 4, 5, 6, 7] rfl, va_K.moved hW.alike (hK.sub (tys' := (tW kw)) [0, 1, 2, 3, 4, 5] rfl), NX.warm hW hN⟩⟩ rfl rfl hl.1 rfl (lv_room (Nat.le_of_ble_eq_true rfl)) d_O_invokeSpecial_89 ⟨Nat.zero_le _, Nat.zero_le _⟩) hS (fun z h1 h2 => absurd h1 (Nat.not_lt.mpr h2)) (fun z h => hA z (Nat.le_trans hS.1 h)) (fun r u t H1 locs ht hvm hpo hB hz1 hk1 hS => ?_)
            subst hpo
            have hP := kp_P hP hk1
            generalize H1 = H at hP hS ⊢
            refine lv_aload_n hx hb d_O_invokeSpecial_92 rfl (lv_at hl 3 rfl) ?_
            refine va_get (D := (dC, dI)) (ci := 2) (v := .ref (qm 0)) (C := R_O) (T := F_O) (N := 4) hx hb hts i_O hown hK hP 0 rfl rfl 2 (by decide) (hts _ k_23) (fun _ h9 => h9) rfl d_O_invokeSpecial_93 ?_
            refine lv_iload_n hx hb d_O_invokeSpecial_96 rfl (lv_at hl 6 rfl) ?_
            have hq_52 : vp_in p3 4 := by first | with_reducible assumption | exact in_name (by with_reducible assumption) | exact in4_4 (by with_reducible assumption) | exact in4_5 (by with_reducible assumption) | exact in4_6 (by with_reducible assumption) | exact in4_7 (by with_reducible assumption)
            refine va_calli (va_runV (As := [.int p3]) (rest := [.int (f_W_chain v.1 (f_W_superclassOf v.1 p2))]) ⟨hx, hb, hml, hown, hts⟩ (c_M_instances l dC dI km qm H.size v.2.2  p3 hq_52) (cwV 1 hts k_g20 rfl rfl rfl (by decide +kernel) ⟨Nat.le_of_ble_eq_true rfl, Nat.le_of_ble_eq_true rfl⟩) ⟨fb_ro, va_recv hK hP (ci := 1) (q0 := 14) rfl rfl, fun U hU hW => ⟨rfl, by rw [hU], by rw [hU]; exact hP.sub (ws' := (wM km qm v.2.2)) [14, 15, 16, 17, 18, 19] rfl, va_K.moved hW.alike (hK.sub (tys' := (tM km)) [11, 12, 13, 14, 15] rfl), NX.warm hW hN⟩⟩ rfl rfl hl.1 rfl (lv_room (Nat.le_of_ble_eq_true rfl)) d_O_invokeSpecial_97 ⟨Nat.zero_le _, Nat.zero_le _⟩) hS (fun z h1 h2 => absurd h1 (Nat.not_lt.mpr h2)) (fun z h => hA z (Nat.le_trans hS.1 h)) (fun r u t H1 locs ht hvm hpo hB hz1 hk1 hS => ?_)
            subst hpo
            have hP := kp_P hP hk1
            generalize H1 = H at hP hS ⊢
            refine lv_iand hx hb d_O_invokeSpecial_100 ?_
            refine va_calli (va_runS (As := [.int ((f_W_chain v.1 (f_W_superclassOf v.1 p2)) &&& (f_M_instances v.2.2 p3))]) (rest := []) ⟨hx, hb, hml, hown, hts⟩ (c_O_greatestOf l dC dI  H.size   ((f_W_chain v.1 (f_W_superclassOf v.1 p2)) &&& (f_M_instances v.2.2 p3))) (cwS 1 hts k_g34 rfl rfl rfl (by decide +kernel) ⟨Nat.le_of_ble_eq_true rfl, Nat.le_of_ble_eq_true rfl⟩) ⟨fb_ro, fun U hU hW => ⟨rfl, by rw [hU], by rw [hU]; exact hP.sub (ws' := ([] : va_W)) [] rfl, va_K.moved hW.alike (hK.sub (tys' := []) [] rfl), NX.warm hW hN⟩⟩ rfl rfl hl.1 rfl (lv_room (Nat.le_of_ble_eq_true rfl)) d_O_invokeSpecial_101 ⟨Nat.zero_le _, Nat.zero_le _⟩) hS (fun z h1 h2 => absurd h1 (Nat.not_lt.mpr h2)) (fun z h => hA z (Nat.le_trans hS.1 h)) (fun r u t H1 locs ht hvm hpo hB hz1 hk1 hS => ?_)
            subst hpo
            have hP := kp_P hP hk1
            generalize H1 = H at hP hS ⊢
            refine lv_istore (lv' := [(7, .int (f_O_greatestOf ((f_W_chain v.1 (f_W_superclassOf v.1 p2)) &&& (f_M_instances v.2.2 p3)))), (6, .int (f_W_superclassOf v.1 p2)), (5, .int (1 : Int32)), (4, .int (f_O_resolveMethod v (f_W_isInterface v.1 p1) p2 p1 p3)), (0, .ref h0), (1, .int p1), (2, .int p2), (3, .int p3)]) hx hb d_O_invokeSpecial_104 hl (by decide) rfl (fun ls hl => ?_)
            refine lv_iload hx hb d_O_invokeSpecial_106 (lv_at hl 0 rfl) ?_
            refine lv_if_ne (tgt := 120) hx hb d_O_invokeSpecial_108 (by decide) (fun c_53 => ?_) (fun c_53 => ?_)
            · have c_53 : ¬ ((f_O_greatestOf ((f_W_chain v.1 (f_W_superclassOf v.1 p2)) &&& (f_M_instances v.2.2 p3))) = (0 : Int32)) := c_53
              refine lv_aload_n hx hb d_O_invokeSpecial_120 rfl (lv_at hl 4 rfl) ?_
              refine lv_iload hx hb d_O_invokeSpecial_121 (lv_at hl 0 rfl) ?_
              refine lv_iload_n hx hb d_O_invokeSpecial_123 rfl (lv_at hl 7 rfl) ?_
              have hq_54 : vp_in p3 4 := by first | with_reducible assumption | exact in_name (by with_reducible assumption) | exact in4_4 (by with_reducible assumption) | exact in4_5 (by with_reducible assumption) | exact in4_6 (by with_reducible assumption) | exact in4_7 (by with_reducible assumption)
              refine va_calli (va_runV (As := [.int (f_O_greatestOf ((f_W_chain v.1 (f_W_superclassOf v.1 p2)) &&& (f_M_instances v.2.2 p3))), .int p3]) (rest := []) ⟨hx, hb, hml, hown, hts⟩ (c_O_runnable l dC dI h0 kw kf km qw qf qm H.size v (s_O_resolveMethod v (f_W_isInterface v.1 p1) p2 p1 p3) (f_O_greatestOf ((f_W_chain v.1 (f_W_superclassOf v.1 p2)) &&& (f_M_instances v.2.2 p3))) p3 hq_54) (cwV 2 hts k_g39 rfl rfl rfl (by decide +kernel) ⟨Nat.le_of_ble_eq_true rfl, Nat.le_of_ble_eq_true rfl⟩) ⟨fb_ro, va_recv hK hP (ci := 2) (q0 := 0) rfl rfl, fun U hU hW => ⟨rfl, by rw [hU], by rw [hU]; exact hP.sub (ws' := (wO h0 kw kf km qw qf qm v (s_O_resolveMethod v (f_W_isInterface v.1 p1) p2 p1 p3))) [0, 1, 2, 3, 4, 5, 6, 7, 8, 9, 10, 11, 12, 13, 14, 15, 16, 17, 18, 19] rfl, va_K.moved hW.alike (hK.sub (tys' := (tO kw kf km)) [0, 1, 2, 3, 4, 5, 6, 7, 8, 9, 10, 11, 12, 13, 14, 15] rfl), NX.warm hW hN⟩⟩ rfl rfl hl.1 rfl (lv_room (Nat.le_of_ble_eq_true rfl)) d_O_invokeSpecial_124 ⟨Nat.zero_le _, Nat.zero_le _⟩) hS (fun z h1 h2 => absurd h1 (Nat.not_lt.mpr h2)) (fun z h => hA z (Nat.le_trans hS.1 h)) (fun r u t H1 locs ht hvm hpo hB hz1 hk1 hS => ?_)
              subst hpo
              have hP := kp_P hP hk1
              generalize H1 = H at hP hS ⊢
              have hP9 : va_P (dC, dI) classes (wO h0 kw kf km qw qf qm v (s_O_resolveMethod v (f_W_isInterface v.1 p1) p2 p1 p3)) H := hP
              exact W.iret (v := (f_O_runnable v (f_O_greatestOf ((f_W_chain v.1 (f_W_superclassOf v.1 p2)) &&& (f_M_instances v.2.2 p3))) p3)) hx hb hr (fun t ht hW => ⟨⟨(f_O_runnable v (f_O_greatestOf ((f_W_chain v.1 (f_W_superclassOf v.1 p2)) &&& (f_M_instances v.2.2 p3))) p3), (s_O_resolveMethod v (f_W_isInterface v.1 p1) p2 p1 p3), rfl, ⟨by unfold f_O_invokeSpecial; rw [if_pos c_5, if_pos c_7, if_neg c_8, if_neg c_25, if_neg c_42, if_neg c_53], by unfold s_O_invokeSpecial; rw [if_pos c_5, if_pos c_7, if_neg c_8, if_neg c_25, if_neg c_42, if_neg c_53]⟩, hp_at ht hP9⟩, hS.F ht⟩) hS.2.2 d_O_invokeSpecial_127
            · have c_53 : (f_O_greatestOf ((f_W_chain v.1 (f_W_superclassOf v.1 p2)) &&& (f_M_instances v.2.2 p3))) = (0 : Int32) := c_53
              refine lv_aload_n hx hb d_O_invokeSpecial_111 rfl (lv_at hl 4 rfl) ?_
              refine lv_iload hx hb d_O_invokeSpecial_112 (lv_at hl 1 rfl) ?_
              refine lv_iload_n hx hb d_O_invokeSpecial_114 rfl (lv_at hl 7 rfl) ?_
              have hq_55 : vp_in (f_W_superclassOf v.1 p2) 13 := by first | with_reducible assumption | exact wf_sup hw (by with_reducible assumption)
              have hq_56 : vp_in p3 4 := by first | with_reducible assumption | exact in_name (by with_reducible assumption) | exact in4_4 (by with_reducible assumption) | exact in4_5 (by with_reducible assumption) | exact in4_6 (by with_reducible assumption) | exact in4_7 (by with_reducible assumption)
              refine va_calli (va_runV (As := [.int (f_W_superclassOf v.1 p2), .int p3]) (rest := []) ⟨hx, hb, hml, hown, hts⟩ (c_O_bestOfInterfaces l dC dI h0 kw kf km qw qf qm H.size v (s_O_resolveMethod v (f_W_isInterface v.1 p1) p2 p1 p3) (f_W_superclassOf v.1 p2) p3 hq_55 hq_56) (cwV 2 hts k_g24 rfl rfl rfl (by decide +kernel) ⟨Nat.le_of_ble_eq_true rfl, Nat.le_of_ble_eq_true rfl⟩) ⟨fb_ro, va_recv hK hP (ci := 2) (q0 := 0) rfl rfl, fun U hU hW => ⟨rfl, by rw [hU], by rw [hU]; exact hP.sub (ws' := (wO h0 kw kf km qw qf qm v (s_O_resolveMethod v (f_W_isInterface v.1 p1) p2 p1 p3))) [0, 1, 2, 3, 4, 5, 6, 7, 8, 9, 10, 11, 12, 13, 14, 15, 16, 17, 18, 19] rfl, va_K.moved hW.alike (hK.sub (tys' := (tO kw kf km)) [0, 1, 2, 3, 4, 5, 6, 7, 8, 9, 10, 11, 12, 13, 14, 15] rfl), NX.warm hW hN⟩⟩ rfl rfl hl.1 rfl (lv_room (Nat.le_of_ble_eq_true rfl)) d_O_invokeSpecial_115 ⟨Nat.zero_le _, Nat.zero_le _⟩) hS (fun z h1 h2 => absurd h1 (Nat.not_lt.mpr h2)) (fun z h => hA z (Nat.le_trans hS.1 h)) (fun r u t H1 locs ht hvm hpo hB hz1 hk1 hS => ?_)
              subst hpo
              have hP := kp_P hP hk1
              generalize H1 = H at hP hS ⊢
              refine lv_istore (lv' := [(7, .int (f_O_bestOfInterfaces v (f_W_superclassOf v.1 p2) p3)), (6, .int (f_W_superclassOf v.1 p2)), (5, .int (1 : Int32)), (4, .int (f_O_resolveMethod v (f_W_isInterface v.1 p1) p2 p1 p3)), (0, .ref h0), (1, .int p1), (2, .int p2), (3, .int p3)]) hx hb d_O_invokeSpecial_118 hl (by decide) rfl (fun ls hl => ?_)
              refine lv_aload_n hx hb d_O_invokeSpecial_120 rfl (lv_at hl 4 rfl) ?_
              refine lv_iload hx hb d_O_invokeSpecial_121 (lv_at hl 0 rfl) ?_
              refine lv_iload_n hx hb d_O_invokeSpecial_123 rfl (lv_at hl 7 rfl) ?_
              have hq_57 : vp_in p3 4 := by first | with_reducible assumption | exact in_name (by with_reducible assumption) | exact in4_4 (by with_reducible assumption) | exact in4_5 (by with_reducible assumption) | exact in4_6 (by with_reducible assumption) | exact in4_7 (by with_reducible assumption)
              refine va_calli (va_runV (As := [.int (f_O_bestOfInterfaces v (f_W_superclassOf v.1 p2) p3), .int p3]) (rest := []) ⟨hx, hb, hml, hown, hts⟩ (c_O_runnable l dC dI h0 kw kf km qw qf qm H.size v (s_O_resolveMethod v (f_W_isInterface v.1 p1) p2 p1 p3) (f_O_bestOfInterfaces v (f_W_superclassOf v.1 p2) p3) p3 hq_57) (cwV 2 hts k_g39 rfl rfl rfl (by decide +kernel) ⟨Nat.le_of_ble_eq_true rfl, Nat.le_of_ble_eq_true rfl⟩) ⟨fb_ro, va_recv hK hP (ci := 2) (q0 := 0) rfl rfl, fun U hU hW => ⟨rfl, by rw [hU], by rw [hU]; exact hP.sub (ws' := (wO h0 kw kf km qw qf qm v (s_O_resolveMethod v (f_W_isInterface v.1 p1) p2 p1 p3))) [0, 1, 2, 3, 4, 5, 6, 7, 8, 9, 10, 11, 12, 13, 14, 15, 16, 17, 18, 19] rfl, va_K.moved hW.alike (hK.sub (tys' := (tO kw kf km)) [0, 1, 2, 3, 4, 5, 6, 7, 8, 9, 10, 11, 12, 13, 14, 15] rfl), NX.warm hW hN⟩⟩ rfl rfl hl.1 rfl (lv_room (Nat.le_of_ble_eq_true rfl)) d_O_invokeSpecial_124 ⟨Nat.zero_le _, Nat.zero_le _⟩) hS (fun z h1 h2 => absurd h1 (Nat.not_lt.mpr h2)) (fun z h => hA z (Nat.le_trans hS.1 h)) (fun r u t H1 locs ht hvm hpo hB hz1 hk1 hS => ?_)
              subst hpo
              have hP := kp_P hP hk1
              generalize H1 = H at hP hS ⊢
              have hP9 : va_P (dC, dI) classes (wO h0 kw kf km qw qf qm v (s_O_resolveMethod v (f_W_isInterface v.1 p1) p2 p1 p3)) H := hP
              exact W.iret (v := (f_O_runnable v (f_O_bestOfInterfaces v (f_W_superclassOf v.1 p2) p3) p3)) hx hb hr (fun t ht hW => ⟨⟨(f_O_runnable v (f_O_bestOfInterfaces v (f_W_superclassOf v.1 p2) p3) p3), (s_O_resolveMethod v (f_W_isInterface v.1 p1) p2 p1 p3), rfl, ⟨by unfold f_O_invokeSpecial; rw [if_pos c_5, if_pos c_7, if_neg c_8, if_neg c_25, if_neg c_42, if_pos c_53], by unfold s_O_invokeSpecial; rw [if_pos c_5, if_pos c_7, if_neg c_8, if_neg c_25, if_neg c_42, if_pos c_53]⟩, hp_at ht hP9⟩, hS.F ht⟩) hS.2.2 d_O_invokeSpecial_127
    · have c_7 : ¬ ((f_M_isStatic v.2.2 (f_O_resolveMethod v (f_W_isInterface v.1 p1) p2 p1 p3) p3) = (0 : Int32)) := c_7
      refine lv_bipush (v := (-6 : Int32)) hx hb d_O_invokeSpecial_38 (by decide +kernel) ?_
      have hP9 : va_P (dC, dI) classes (wO h0 kw kf km qw qf qm v (s_O_resolveMethod v (f_W_isInterface v.1 p1) p2 p1 p3)) H := hP
      exact W.iret (v := (-6 : Int32)) hx hb hr (fun t ht hW => ⟨⟨(-6 : Int32), (s_O_resolveMethod v (f_W_isInterface v.1 p1) p2 p1 p3), rfl, ⟨by unfold f_O_invokeSpecial; rw [if_pos c_5, if_neg c_7], by unfold s_O_invokeSpecial; rw [if_pos c_5, if_neg c_7]⟩, hp_at ht hP9⟩, hS.F ht⟩) hS.2.2 d_O_invokeSpecial_40
  · have c_5 : ¬ ((0 : Int32) < (f_O_resolveMethod v (f_W_isInterface v.1 p1) p2 p1 p3)) := c_5
    refine lv_iload hx hb d_O_invokeSpecial_22 (lv_at hl 0 rfl) ?_
    have hP9 : va_P (dC, dI) classes (wO h0 kw kf km qw qf qm v (s_O_resolveMethod v (f_W_isInterface v.1 p1) p2 p1 p3)) H := hP
    exact W.iret (v := (f_O_resolveMethod v (f_W_isInterface v.1 p1) p2 p1 p3)) hx hb hr (fun t ht hW => ⟨⟨(f_O_resolveMethod v (f_W_isInterface v.1 p1) p2 p1 p3), (s_O_resolveMethod v (f_W_isInterface v.1 p1) p2 p1 p3), rfl, ⟨by unfold f_O_invokeSpecial; rw [if_neg c_5], by unfold s_O_invokeSpecial; rw [if_neg c_5]⟩, hp_at ht hP9⟩, hS.F ht⟩) hS.2.2 d_O_invokeSpecial_24
