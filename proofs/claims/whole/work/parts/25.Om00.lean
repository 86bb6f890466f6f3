set_option maxHeartbeats 1000000 in
set_option maxRecDepth 100000 in
theorem c_O_resolveMethod (l : Launch) (dC : Nat → ClassId) (dI : Nat → Nat → Nat) (h0 : Nat) (kw kf km : Nat → ClassId) (qw qf qm : Nat → Nat) (sz : Nat) (v : ES) (lc : Int32) (p1 p2 p3 p4 : Int32) (hw : WF v.1) (hp2 : vp_in p2 13) (hp3 : vp_in p3 13) (hp4 : vp_in p4 4) : Met l y_O_resolveMethod w_O_resolveMethod ({ frames := 4, cells := 0, slots := 0, locals := 91 } : Room) (mu_P dC dI (wO h0 kw kf km qw qf qm v lc) (tO kw kf km) sz [.ref h0, .int p1, .int p2, .int p3, .int p4]) (mu_Q (fun (S9 : Int32) => (wO h0 kw kf km qw qf qm v S9)) dC dI (f_O_resolveMethod v p1 p2 p3 p4) (s_O_resolveMethod v p1 p2 p3 p4) (va_A (wO h0 kw kf km qw qf qm v lc) sz)) 0 0 (va_A (wO h0 kw kf km qw qf qm v lc) sz) := by
  refine Met.ofW (cc := b_O_resolveMethod) (maxL := 7) (ret := (some .int)) (by decide) rfl ?_
  intro p e s m args below meth c s₁ B hml hv
  obtain ⟨rfl, hsz, hP, hK, hN, hD0⟩ := hv
  have hx := B.exec
  have hb := B.bytes
  have hr := B.returns
  have hts := tl_of (atoms_spec (ws := w_O_resolveMethod) B.pre)
  have hown : s.vm.findClass R_O = some m.cls := findClass_of_methodNamed B.named
  have hlocks := B.notSynchronized
  subst hsz
  have hD := hD0.self (sz := s.heap.size)
  generalize hAe : va_A (wO h0 kw kf km qw qf qm v lc) s.heap.size = A at hD ⊢
  have hA : ∀ q : Nat, s.heap.size ≤ q → A q := fun q h => by rw [← hAe]; exact Or.inr h
  have hS : va_S A s.heap s.heap [] := va_S.rf
  have hl := lv_entry ([.ref h0, .int p1, .int p2, .int p3, .int p4]) (n := 7) (Nat.le_of_ble_eq_true rfl)
  rw [lg_entry_eq]
  generalize (lg_sl ([.ref h0, .int p1, .int p2, .int p3, .int p4]) ++ List.replicate (7 - (lg_sl ([.ref h0, .int p1, .int p2, .int p3, .int p4])).length) Slot.unset).toArray = ls at hl ⊢
  have hl : lv_has ls 7 [(0, .ref h0), (1, .int p1), (2, .int p2), (3, .int p3), (4, .int p4)] := hl
  refine lv_aload_n hx hb d_O_resolveMethod_0 rfl (lv_at hl 0 rfl) ?_
  refine lv_iconst (v := (0 : Int32)) hx hb d_O_resolveMethod_1 (by decide +kernel) ?_
  refine va_put (D := (dC, dI)) (ci := 2) (v := .int (0 : Int32)) (ty := .int) (C := R_O) (T := F_O) (N := 4) hx hb hts i_O t_O t_O_ok n_O hown hK hP hD hS 0 rfl rfl 3 (by decide) (hts _ k_28) (fun _ h9 => h9) rfl (by decide +kernel) rfl rfl (Nat.le_of_ble_eq_true rfl) d_O_resolveMethod_2 (fun H locs hP hD hS => ?_)
  have hP : va_P (dC, dI) classes (wO h0 kw kf km qw qf qm v (0 : Int32)) H := hP
  have hD : va_D A (wO h0 kw kf km qw qf qm v (0 : Int32)) := hD
  refine lv_aload_n hx hb d_O_resolveMethod_5 rfl (lv_at hl 0 rfl) ?_
  refine va_get (D := (dC, dI)) (ci := 2) (v := .ref (qw 0)) (C := R_O) (T := F_O) (N := 4) hx hb hts i_O hown hK hP 0 rfl rfl 0 (by decide) (hts _ k_22) (fun _ h9 => h9) rfl d_O_resolveMethod_6 ?_
  refine lv_iload_n hx hb d_O_resolveMethod_9 rfl (lv_at hl 3 rfl) ?_
  refine lv_iload_n hx hb d_O_resolveMethod_10 rfl (lv_at hl 2 rfl) ?_
  have hq_1 : vp_in p3 13 := by first | with_reducible assumption | exact in_has hw (by with_reducible assumption) | exact in_cls hw (by with_reducible assumption) | exact in_ifc hw (by with_reducible assumption) | exact in_ext hw (by with_reducible assumption) | exact in_eq0 (by with_reducible assumption) | exact hfd (by with_reducible assumption) | exact in_rcv hw (by with_reducible assumption) (Or.inl (by with_reducible assumption)) | exact in_rcv hw (by with_reducible assumption) (Or.inr (by with_reducible assumption))
  have hq_2 : vp_in p2 13 := by first | with_reducible assumption | exact in_has hw (by with_reducible assumption) | exact in_cls hw (by with_reducible assumption) | exact in_ifc hw (by with_reducible assumption) | exact in_ext hw (by with_reducible assumption) | exact in_eq0 (by with_reducible assumption) | exact hfd (by with_reducible assumption) | exact in_rcv hw (by with_reducible assumption) (Or.inl (by with_reducible assumption)) | exact in_rcv hw (by with_reducible assumption) (Or.inr (by with_reducible assumption))
  refine va_calli (va_runV (As := [.int p3, .int p2]) (rest := []) ⟨hx, hb, hml, hown, hts⟩ (c_W_mayUseType l dC dI kw qw H.size v.1  p3 p2 hq_1 hq_2) (cwV 2 hts k_g29 rfl rfl rfl (by decide +kernel) ⟨Nat.le_of_ble_eq_true rfl, Nat.le_of_ble_eq_true rfl⟩) ⟨fb_ro, va_recv hK hP (ci := 0) (q0 := 1) rfl rfl, fun U hU hW => ⟨rfl, by rw [hU], by rw [hU]; exact hP.sub (ws' := (wW kw qw v.1)) [1, 2, 3, 4, 5, 6, 7] rfl, va_K.moved hW.alike (hK.sub (tys' := (tW kw)) [0, 1, 2, 3, 4, 5] rfl), NX.warm hW hN⟩⟩ rfl rfl hl.1 rfl (lv_room (Nat.le_of_ble_eq_true rfl)) d_O_resolveMethod_11 ⟨Nat.zero_le _, Nat.zero_le _⟩) hS (fun z h1 h2 => absurd h1 (Nat.not_lt.mpr h2)) (fun z h => hA z (Nat.le_trans hS.1 h)) (fun r u t H1 locs ht hvm hpo hB hz1 hk1 hS => ?_)
  subst hpo
  have hP := kp_P hP hk1
  generalize H1 = H at hP hS ⊢
  refine lv_if_ne (tgt := 20) hx hb d_O_resolveMethod_14 (by decide) (fun c_3 => ?_) (fun c_3 => ?_)
  · have c_3 : ¬ ((f_W_mayUseType v.1 p3 p2) = (0 : Int32)) := c_3
    refine lv_aload_n hx hb d_O_resolveMethod_20 rfl (lv_at hl 0 rfl) ?_
    refine va_get (D := (dC, dI)) (ci := 2) (v := .ref (qw 0)) (C := R_O) (T := F_O) (N := 4) hx hb hts i_O hown hK hP 0 rfl rfl 0 (by decide) (hts _ k_22) (fun _ h9 => h9) rfl d_O_resolveMethod_21 ?_
    refine lv_iload_n hx hb d_O_resolveMethod_24 rfl (lv_at hl 3 rfl) ?_
    refine va_calli (va_runV (As := [.int p3]) (rest := []) ⟨hx, hb, hml, hown, hts⟩ (c_W_isInterface l dC dI kw qw H.size v.1  p3) (cwV 1 hts k_g33 rfl rfl rfl (by decide +kernel) ⟨Nat.le_of_ble_eq_true rfl, Nat.le_of_ble_eq_true rfl⟩) ⟨fb_ro, va_recv hK hP (ci := 0) (q0 := 1) rfl rfl, fun U hU hW => ⟨rfl, by rw [hU], by rw [hU]; exact hP.sub (ws' := (wW kw qw v.1)) [1, 2, 3, 4, 5, 6, 7] rfl, va_K.moved hW.alike (hK.sub (tys' := (tW kw)) [0, 1, 2, 3, 4, 5] rfl), NX.warm hW hN⟩⟩ rfl rfl hl.1 rfl (lv_room (Nat.le_of_ble_eq_true rfl)) d_O_resolveMethod_25 ⟨Nat.zero_le _, Nat.zero_le _⟩) hS (fun z h1 h2 => absurd h1 (Nat.not_lt.mpr h2)) (fun z h => hA z (Nat.le_trans hS.1 h)) (fun r u t H1 locs ht hvm hpo hB hz1 hk1 hS => ?_)
    subst hpo
    have hP := kp_P hP hk1
    generalize H1 = H at hP hS ⊢
    refine lv_iload_n hx hb d_O_resolveMethod_28 rfl (lv_at hl 1 rfl) ?_
    refine lv_icmp_eq (tgt := 35) hx hb d_O_resolveMethod_29 (by decide) (fun c_4 => ?_) (fun c_4 => ?_)
    · have c_4 : (f_W_isInterface v.1 p3) = p1 := c_4
      refine lv_aload_n hx hb d_O_resolveMethod_35 rfl (lv_at hl 0 rfl) ?_
      refine va_get (D := (dC, dI)) (ci := 2) (v := .ref (qw 0)) (C := R_O) (T := F_O) (N := 4) hx hb hts i_O hown hK hP 0 rfl rfl 0 (by decide) (hts _ k_22) (fun _ h9 => h9) rfl d_O_resolveMethod_36 ?_
      refine lv_iload_n hx hb d_O_resolveMethod_39 rfl (lv_at hl 3 rfl) ?_
      have hq_5 : vp_in p3 13 := by first | with_reducible assumption | exact in_has hw (by with_reducible assumption) | exact in_cls hw (by with_reducible assumption) | exact in_ifc hw (by with_reducible assumption) | exact in_ext hw (by with_reducible assumption) | exact in_eq0 (by with_reducible assumption) | exact hfd (by with_reducible assumption) | exact in_rcv hw (by with_reducible assumption) (Or.inl (by with_reducible assumption)) | exact in_rcv hw (by with_reducible assumption) (Or.inr (by with_reducible assumption))
      refine va_calli (va_runV (As := [.int p3]) (rest := []) ⟨hx, hb, hml, hown, hts⟩ (c_W_chain l dC dI kw qw H.size v.1  p3 hq_5) (cwV 1 hts k_g21 rfl rfl rfl (by decide +kernel) ⟨Nat.le_of_ble_eq_true rfl, Nat.le_of_ble_eq_true rfl⟩) ⟨fb_ro, va_recv hK hP (ci := 0) (q0 := 1) rfl rfl, fun U hU hW => ⟨rfl, by rw [hU], by rw [hU]; exact hP.sub (ws' := (wW kw qw v.1)) [1, 2, 3, 4, 5, 6, 7] rfl, va_K.moved hW.alike (hK.sub (tys' := (tW kw)) [0, 1, 2, 3, 4, 5] rfl), NX.warm hW hN⟩⟩ rfl rfl hl.1 rfl (lv_room (Nat.le_of_ble_eq_true rfl)) d_O_resolveMethod_40 ⟨Nat.zero_le _, Nat.zero_le _⟩) hS (fun z h1 h2 => absurd h1 (Nat.not_lt.mpr h2)) (fun z h => hA z (Nat.le_trans hS.1 h)) (fun r u t H1 locs ht hvm hpo hB hz1 hk1 hS => ?_)
      subst hpo
      have hP := kp_P hP hk1
      generalize H1 = H at hP hS ⊢
      refine lv_aload_n hx hb d_O_resolveMethod_43 rfl (lv_at hl 0 rfl) ?_
      refine va_get (D := (dC, dI)) (ci := 2) (v := .ref (qm 0)) (C := R_O) (T := F_O) (N := 4) hx hb hts i_O hown hK hP 0 rfl rfl 2 (by decide) (hts _ k_23) (fun _ h9 => h9) rfl d_O_resolveMethod_44 ?_
      refine lv_iload hx hb d_O_resolveMethod_47 (lv_at hl 4 rfl) ?_
      have hq_6 : vp_in p4 4 := by first | with_reducible assumption | exact in_name (by with_reducible assumption) | exact in4_4 (by with_reducible assumption) | exact in4_5 (by with_reducible assumption) | exact in4_6 (by with_reducible assumption) | exact in4_7 (by with_reducible assumption)
      refine va_calli (va_runV (As := [.int p4]) (rest := [.int (f_W_chain v.1 p3)]) ⟨hx, hb, hml, hown, hts⟩ (c_M_owners l dC dI km qm H.size v.2.2  p4 hq_6) (cwV 1 hts k_g30 rfl rfl rfl (by decide +kernel) ⟨Nat.le_of_ble_eq_true rfl, Nat.le_of_ble_eq_true rfl⟩) ⟨fb_ro, va_recv hK hP (ci := 1) (q0 := 14) rfl rfl, fun U hU hW => ⟨rfl, by rw [hU], by rw [hU]; exact hP.sub (ws' := (wM km qm v.2.2)) [14, 15, 16, 17, 18, 19] rfl, va_K.moved hW.alike (hK.sub (tys' := (tM km)) [11, 12, 13, 14, 15] rfl), NX.warm hW hN⟩⟩ rfl rfl hl.1 rfl (lv_room (Nat.le_of_ble_eq_true rfl)) d_O_resolveMethod_49 ⟨Nat.zero_le _, Nat.zero_le _⟩) hS (fun z h1 h2 => absurd h1 (Nat.not_lt.mpr h2)) (fun z h => hA z (Nat.le_trans hS.1 h)) (fun r u t H1 locs ht hvm hpo hB hz1 hk1 hS => ?_)
      subst hpo
      have hP := kp_P hP hk1
      generalize H1 = H at hP hS ⊢
      refine lv_iand hx hb d_O_resolveMethod_52 ?_
      refine va_calli (va_runS (As := [.int ((f_W_chain v.1 p3) &&& (f_M_owners v.2.2 p4))]) (rest := []) ⟨hx, hb, hml, hown, hts⟩ (c_O_greatestOf l dC dI  H.size   ((f_W_chain v.1 p3) &&& (f_M_owners v.2.2 p4))) (cwS 1 hts k_g34 rfl rfl rfl (by decide +kernel) ⟨Nat.le_of_ble_eq_true rfl, Nat.le_of_ble_eq_true rfl⟩) ⟨fb_ro, fun U hU hW => ⟨rfl, by rw [hU], by rw [hU]; exact hP.sub (ws' := ([] : va_W)) [] rfl, va_K.moved hW.alike (hK.sub (tys' := []) [] rfl), NX.warm hW hN⟩⟩ rfl rfl hl.1 rfl (lv_room (Nat.le_of_ble_eq_true rfl)) d_O_resolveMethod_53 ⟨Nat.zero_le _, Nat.zero_le _⟩) hS (fun z h1 h2 => absurd h1 (Nat.not_lt.mpr h2)) (fun z h => hA z (Nat.le_trans hS.1 h)) (fun r u t H1 locs ht hvm hpo hB hz1 hk1 hS => ?_)
      subst hpo
      have hP := kp_P hP hk1
      generalize H1 = H at hP hS ⊢
      refine lv_istore (lv' := [(5, .int (f_O_greatestOf ((f_W_chain v.1 p3) &&& (f_M_owners v.2.2 p4)))), (0, .ref h0), (1, .int p1), (2, .int p2), (3, .int p3), (4, .int p4)]) hx hb d_O_resolveMethod_56 hl (by decide) rfl (fun ls hl => ?_)
      refine lv_iload hx hb d_O_resolveMethod_58 (lv_at hl 0 rfl) ?_
      refine lv_if_ne (tgt := 72) hx hb d_O_resolveMethod_60 (by decide) (fun c_7 => ?_) (fun c_7 => ?_)
      · have c_7 : ¬ ((f_O_greatestOf ((f_W_chain v.1 p3) &&& (f_M_owners v.2.2 p4))) = (0 : Int32)) := c_7
        refine lv_iload hx hb d_O_resolveMethod_72 (lv_at hl 0 rfl) ?_
        refine lv_if_le (tgt := 96) hx hb d_O_resolveMethod_74 (by decide) (fun c_8 => ?_) (fun c_8 => ?_)
        · have c_8 : (f_O_greatestOf ((f_W_chain v.1 p3) &&& (f_M_owners v.2.2 p4))) ≤ (0 : Int32) := c_8
          refine lv_aload_n hx hb d_O_resolveMethod_96 rfl (lv_at hl 1 rfl) ?_
          refine lv_iload_n hx hb d_O_resolveMethod_97 rfl (lv_at hl 4 rfl) ?_
          refine lv_iload hx hb d_O_resolveMethod_98 (lv_at hl 5 rfl) ?_
          have hq_9 : vp_in p3 13 := by first | with_reducible assumption | exact in_has hw (by with_reducible assumption) | exact in_cls hw (by with_reducible assumption) | exact in_ifc hw (by with_reducible assumption) | exact in_ext hw (by with_reducible assumption) | exact in_eq0 (by with_reducible assumption) | exact hfd (by with_reducible assumption) | exact in_rcv hw (by with_reducible assumption) (Or.inl (by with_reducible assumption)) | exact in_rcv hw (by with_reducible assumption) (Or.inr (by with_reducible assumption))
          have hq_10 : vp_in p4 4 := by first | with_reducible assumption | exact in_name (by with_reducible assumption) | exact in4_4 (by with_reducible assumption) | exact in4_5 (by with_reducible assumption) | exact in4_6 (by with_reducible assumption) | exact in4_7 (by with_reducible assumption)
          refine va_calli (va_runV (As := [.int p3, .int p4]) (rest := []) ⟨hx, hb, hml, hown, hts⟩ (c_O_interfaceMethods l dC dI h0 kw kf km qw qf qm H.size v (0 : Int32) p3 p4 hq_9 hq_10) (cwV 2 hts k_g12 rfl rfl rfl (by decide +kernel) ⟨Nat.le_of_ble_eq_true rfl, Nat.le_of_ble_eq_true rfl⟩) ⟨fb_ro, va_recv hK hP (ci := 2) (q0 := 0) rfl rfl, fun U hU hW => ⟨rfl, by rw [hU], by rw [hU]; exact hP.sub (ws' := (wO h0 kw kf km qw qf qm v (0 : Int32))) [0, 1, 2, 3, 4, 5, 6, 7, 8, 9, 10, 11, 12, 13, 14, 15, 16, 17, 18, 19] rfl, va_K.moved hW.alike (hK.sub (tys' := (tO kw kf km)) [0, 1, 2, 3, 4, 5, 6, 7, 8, 9, 10, 11, 12, 13, 14, 15] rfl), NX.warm hW hN⟩⟩ rfl rfl hl.1 rfl (lv_room (Nat.le_of_ble_eq_true rfl)) d_O_resolveMethod_100 ⟨Nat.zero_le _, Nat.zero_le _⟩) hS (fun z h1 h2 => absurd h1 (Nat.not_lt.mpr h2)) (fun z h => hA z (Nat.le_trans hS.1 h)) (fun r u t H1 locs ht hvm hpo hB hz1 hk1 hS => ?_)
          subst hpo
          have hP := kp_P hP hk1
          generalize H1 = H at hP hS ⊢
          refine lv_istore (lv' := [(6, .int (f_O_interfaceMethods v p3 p4)), (5, .int (f_O_greatestOf ((f_W_chain v.1 p3) &&& (f_M_owners v.2.2 p4)))), (0, .ref h0), (1, .int p1), (2, .int p2), (3, .int p3), (4, .int p4)]) hx hb d_O_resolveMethod_103 hl (by decide) rfl (fun ls hl => ?_)
          refine lv_aload_n hx hb d_O_resolveMethod_105 rfl (lv_at hl 2 rfl) ?_
          refine lv_iload hx hb d_O_resolveMethod_106 (lv_at hl 0 rfl) ?_
          refine va_calli (va_runS (As := [.int (f_O_interfaceMethods v p3 p4)]) (rest := [.ref h0]) ⟨hx, hb, hml, hown, hts⟩ (c_J_bitCount l dC dI  H.size   (f_O_interfaceMethods v p3 p4)) ⟨callB_of 1 hts k_g15 rfl rfl rfl (hts _ k_25) (hts _ k_24) (by decide +kernel) ⟨Nat.le_of_ble_eq_true rfl, Nat.le_of_ble_eq_true rfl⟩, hts _ k_26⟩ ⟨fb_ro, fun U hU hW => ⟨rfl, by rw [hU], by rw [hU]; exact hP.sub (ws' := ([] : va_W)) [] rfl, va_K.moved hW.alike (hK.sub (tys' := []) [] rfl), NX.warm hW hN⟩⟩ rfl rfl hl.1 rfl (lv_room (Nat.le_of_ble_eq_true rfl)) d_O_resolveMethod_108 ⟨Nat.zero_le _, Nat.zero_le _⟩) hS (fun z h1 h2 => absurd h1 (Nat.not_lt.mpr h2)) (fun z h => hA z (Nat.le_trans hS.1 h)) (fun r u t H1 locs ht hvm hpo hB hz1 hk1 hS => ?_)
          subst hpo
          have hP := kp_P hP hk1
          generalize H1 = H at hP hS ⊢
          refine va_put (D := (dC, dI)) (ci := 2) (v := .int (f_J_bitCount (f_O_interfaceMethods v p3 p4))) (ty := .int) (C := R_O) (T := F_O) (N := 4) hx hb hts i_O t_O t_O_ok n_O hown hK hP hD hS 0 rfl rfl 3 (by decide) (hts _ k_28) (fun _ h9 => h9) rfl (by decide +kernel) rfl rfl (Nat.le_of_ble_eq_true rfl) d_O_resolveMethod_111 (fun H locs hP hD hS => ?_)
          have hP : va_P (dC, dI) classes (wO h0 kw kf km qw qf qm v (f_J_bitCount (f_O_interfaceMethods v p3 p4))) H := hP
          have hD : va_D A (wO h0 kw kf km qw qf qm v (f_J_bitCount (f_O_interfaceMethods v p3 p4))) := hD
          refine lv_iload hx hb d_O_resolveMethod_114 (lv_at hl 0 rfl) ?_
          refine lv_if_ne (tgt := 124) hx hb d_O_resolveMethod_116 (by decide) (fun c_11 => ?_) (fun c_11 => ?_)
          · have c_11 : ¬ ((f_O_interfaceMethods v p3 p4) = (0 : Int32)) := c_11
            refine lv_iload hx hb d_O_resolveMethod_124 (lv_at hl 0 rfl) ?_
            refine va_calli (va_runS (As := [.int (f_O_interfaceMethods v p3 p4)]) (rest := []) ⟨hx, hb, hml, hown, hts⟩ (c_O_leastOf l dC dI  H.size   (f_O_interfaceMethods v p3 p4)) (cwS 1 hts k_g16 rfl rfl rfl (by decide +kernel) ⟨Nat.le_of_ble_eq_true rfl, Nat.le_of_ble_eq_true rfl⟩) ⟨fb_ro, fun U hU hW => ⟨rfl, by rw [hU], by rw [hU]; exact hP.sub (ws' := ([] : va_W)) [] rfl, va_K.moved hW.alike (hK.sub (tys' := []) [] rfl), NX.warm hW hN⟩⟩ rfl rfl hl.1 rfl (lv_room (Nat.le_of_ble_eq_true rfl)) d_O_resolveMethod_126 ⟨Nat.zero_le _, Nat.zero_le _⟩) hS (fun z h1 h2 => absurd h1 (Nat.not_lt.mpr h2)) (fun z h => hA z (Nat.le_trans hS.1 h)) (fun r u t H1 locs ht hvm hpo hB hz1 hk1 hS => ?_)
            subst hpo
            have hP := kp_P hP hk1
            generalize H1 = H at hP hS ⊢
            have hP9 : va_P (dC, dI) classes (wO h0 kw kf km qw qf qm v (f_J_bitCount (f_O_interfaceMethods v p3 p4))) H := hP
            exact W.iret (v := (f_O_leastOf (f_O_interfaceMethods v p3 p4))) hx hb hr (fun t ht hW => ⟨⟨(f_O_leastOf (f_O_interfaceMethods v p3 p4)), (f_J_bitCount (f_O_interfaceMethods v p3 p4)), rfl, ⟨by unfold f_O_resolveMethod; rw [if_neg c_3, if_pos c_4, if_neg c_7, if_pos c_8, if_neg c_11], by unfold s_O_resolveMethod; rw [if_neg c_3, if_pos c_4, if_neg c_7, if_pos c_8, if_neg c_11]⟩, hp_at ht hP9⟩, hS.F ht⟩) hS.2.2 d_O_resolveMethod_129
          · have c_11 : (f_O_interfaceMethods v p3 p4) = (0 : Int32) := c_11
            refine lv_bipush (v := (-4 : Int32)) hx hb d_O_resolveMethod_119 (by decide +kernel) ?_
            refine lv_goto (tgt := 129) hx hb d_O_resolveMethod_121 (by decide) ?_
            have hP9 : va_P (dC, dI) classes (wO h0 kw kf km qw qf qm v (f_J_bitCount (f_O_interfaceMethods v p3 p4))) H := hP
            exact W.iret (v := (-4 : Int32)) hx hb hr (fun t ht hW => ⟨⟨(-4 : Int32), (f_J_bitCount (f_O_interfaceMethods v p3 p4)), rfl, ⟨by unfold f_O_resolveMethod; rw [if_neg c_3, if_pos c_4, if_neg c_7, if_pos c_8, if_pos c_11], by unfold s_O_resolveMethod; rw [if_neg c_3, if_pos c_4, if_neg c_7, if_pos c_8, if_pos c_11]⟩, hp_at ht hP9⟩, hS.F ht⟩) hS.2.2 d_O_resolveMethod_129
        · have c_8 : ¬ ((f_O_greatestOf ((f_W_chain v.1 p3) &&& (f_M_owners v.2.2 p4))) ≤ (0 : Int32)) := c_8
          refine lv_aload_n hx hb d_O_resolveMethod_77 rfl (lv_at hl 1 rfl) ?_
          refine lv_iconst (v := (1 : Int32)) hx hb d_O_resolveMethod_78 (by decide +kernel) ?_
          refine va_put (D := (dC, dI)) (ci := 2) (v := .int (1 : Int32)) (ty := .int) (C := R_O) (T := F_O) (N := 4) hx hb hts i_O t_O t_O_ok n_O hown hK hP hD hS 0 rfl rfl 3 (by decide) (hts _ k_28) (fun _ h9 => h9) rfl (by decide +kernel) rfl rfl (Nat.le_of_ble_eq_true rfl) d_O_resolveMethod_79 (fun H locs hP hD hS => ?_)
          have hP : va_P (dC, dI) classes (wO h0 kw kf km qw qf qm v (1 : Int32)) H := hP
          have hD : va_D A (wO h0 kw kf km qw qf qm v (1 : Int32)) := hD
          refine lv_aload_n hx hb d_O_resolveMethod_82 rfl (lv_at hl 1 rfl) ?_
          refine lv_aload_n hx hb d_O_resolveMethod_83 rfl (lv_at hl 1 rfl) ?_
          refine va_get (D := (dC, dI)) (ci := 2) (v := .ref (qm 0)) (C := R_O) (T := F_O) (N := 4) hx hb hts i_O hown hK hP 0 rfl rfl 2 (by decide) (hts _ k_23) (fun _ h9 => h9) rfl d_O_resolveMethod_84 ?_
          refine lv_iload hx hb d_O_resolveMethod_87 (lv_at hl 0 rfl) ?_
          refine lv_iload hx hb d_O_resolveMethod_89 (lv_at hl 5 rfl) ?_
          refine lv_iload_n hx hb d_O_resolveMethod_91 rfl (lv_at hl 3 rfl) ?_
          have hq_12 : (0 : Int32) < (f_O_greatestOf ((f_W_chain v.1 p3) &&& (f_M_owners v.2.2 p4))) → vp_in (f_O_greatestOf ((f_W_chain v.1 p3) &&& (f_M_owners v.2.2 p4))) 13 := by exact fun _ => in_great
          have hq_13 : vp_in p4 4 := by first | with_reducible assumption | exact in_name (by with_reducible assumption) | exact in4_4 (by with_reducible assumption) | exact in4_5 (by with_reducible assumption) | exact in4_6 (by with_reducible assumption) | exact in4_7 (by with_reducible assumption)
          have hq_14 : vp_in p2 13 := by first | with_reducible assumption | exact in_has hw (by with_reducible assumption) | exact in_cls hw (by with_reducible assumption) | exact in_ifc hw (by with_reducible assumption) | exact in_ext hw (by with_reducible assumption) | exact in_eq0 (by with_reducible assumption) | exact hfd (by with_reducible assumption) | exact in_rcv hw (by with_reducible assumption) (Or.inl (by with_reducible assumption)) | exact in_rcv hw (by with_reducible assumption) (Or.inr (by with_reducible assumption))
          refine va_calli (va_runV (As := [.ref (qm 0), .int (f_O_greatestOf ((f_W_chain v.1 p3) &&& (f_M_owners v.2.2 p4))), .int p4, .int p2]) (rest := []) ⟨hx, hb, hml, hown, hts⟩ (c_O_admitted_m l dC dI h0 kw kf km qw qf qm H.size v (1 : Int32) (f_O_greatestOf ((f_W_chain v.1 p3) &&& (f_M_owners v.2.2 p4))) p4 p2 hq_12 hq_13 hq_14) (cwV 4 hts k_g35 rfl rfl rfl (by decide +kernel) ⟨Nat.le_of_ble_eq_true rfl, Nat.le_of_ble_eq_true rfl⟩) ⟨fb_ro, va_recv hK hP (ci := 2) (q0 := 0) rfl rfl, fun U hU hW => ⟨rfl, by rw [hU], by rw [hU]; exact hP.sub (ws' := (wO h0 kw kf km qw qf qm v (1 : Int32))) [0, 1, 2, 3, 4, 5, 6, 7, 8, 9, 10, 11, 12, 13, 14, 15, 16, 17, 18, 19] rfl, va_K.moved hW.alike (hK.sub (tys' := (tO kw kf km)) [0, 1, 2, 3, 4, 5, 6, 7, 8, 9, 10, 11, 12, 13, 14, 15] rfl), NX.warm hW hN⟩⟩ rfl rfl hl.1 rfl (lv_room (Nat.le_of_ble_eq_true rfl)) d_O_resolveMethod_92 ⟨Nat.zero_le _, Nat.zero_le _⟩) hS (fun z h1 h2 => absurd h1 (Nat.not_lt.mpr h2)) (fun z h => hA z (Nat.le_trans hS.1 h)) (fun r u t H1 locs ht hvm hpo hB hz1 hk1 hS => ?_)
          subst hpo
          have hP := kp_P hP hk1
          generalize H1 = H at hP hS ⊢
          have hP9 : va_P (dC, dI) classes (wO h0 kw kf km qw qf qm v (1 : Int32)) H := hP
          exact W.iret (v := (f_O_admitted_m v (f_O_greatestOf ((f_W_chain v.1 p3) &&& (f_M_owners v.2.2 p4))) p4 p2)) hx hb hr (fun t ht hW => ⟨⟨(f_O_admitted_m v (f_O_greatestOf ((f_W_chain v.1 p3) &&& (f_M_owners v.2.2 p4))) p4 p2), (1 : Int32), rfl, ⟨by unfold f_O_resolveMethod; rw [if_neg c_3, if_pos c_4, if_neg c_7, if_neg c_8], by unfold s_O_resolveMethod; rw [if_neg c_3, if_pos c_4, if_neg c_7, if_neg c_8]⟩, hp_at ht hP9⟩, hS.F ht⟩) hS.2.2 d_O_resolveMethod_95
      · have c_7 : (f_O_greatestOf ((f_W_chain v.1 p3) &&& (f_M_owners v.2.2 p4))) = (0 : Int32) := c_7
        refine lv_aload_n hx hb d_O_resolveMethod_63 rfl (lv_at hl 1 rfl) ?_
        refine lv_iload_n hx hb d_O_resolveMethod_64 rfl (lv_at hl 4 rfl) ?_
        refine lv_iload hx hb d_O_resolveMethod_65 (lv_at hl 5 rfl) ?_
        have hq_15 : vp_in p3 13 := by first | with_reducible assumption | exact in_has hw (by with_reducible assumption) | exact in_cls hw (by with_reducible assumption) | exact in_ifc hw (by with_reducible assumption) | exact in_ext hw (by with_reducible assumption) | exact in_eq0 (by with_reducible assumption) | exact hfd (by with_reducible assumption) | exact in_rcv hw (by with_reducible assumption) (Or.inl (by with_reducible assumption)) | exact in_rcv hw (by with_reducible assumption) (Or.inr (by with_reducible assumption))
        have hq_16 : vp_in p4 4 := by first | with_reducible assumption | exact in_name (by with_reducible assumption) | exact in4_4 (by with_reducible assumption) | exact in4_5 (by with_reducible assumption) | exact in4_6 (by with_reducible assumption) | exact in4_7 (by with_reducible assumption)
        refine va_calli (va_runV (As := [.int p3, .int p4]) (rest := []) ⟨hx, hb, hml, hown, hts⟩ (c_O_bestOfInterfaces l dC dI h0 kw kf km qw qf qm H.size v (0 : Int32) p3 p4 hq_15 hq_16) (cwV 2 hts k_g24 rfl rfl rfl (by decide +kernel) ⟨Nat.le_of_ble_eq_true rfl, Nat.le_of_ble_eq_true rfl⟩) ⟨fb_ro, va_recv hK hP (ci := 2) (q0 := 0) rfl rfl, fun U hU hW => ⟨rfl, by rw [hU], by rw [hU]; exact hP.sub (ws' := (wO h0 kw kf km qw qf qm v (0 : Int32))) [0, 1, 2, 3, 4, 5, 6, 7, 8, 9, 10, 11, 12, 13, 14, 15, 16, 17, 18, 19] rfl, va_K.moved hW.alike (hK.sub (tys' := (tO kw kf km)) [0, 1, 2, 3, 4, 5, 6, 7, 8, 9, 10, 11, 12, 13, 14, 15] rfl), NX.warm hW hN⟩⟩ rfl rfl hl.1 rfl (lv_room (Nat.le_of_ble_eq_true rfl)) d_O_resolveMethod_67 ⟨Nat.zero_le _, Nat.zero_le _⟩) hS (fun z h1 h2 => absurd h1 (Nat.not_lt.mpr h2)) (fun z h => hA z (Nat.le_trans hS.1 h)) (fun r u t H1 locs ht hvm hpo hB hz1 hk1 hS => ?_)
        subst hpo
        have hP := kp_P hP hk1
        generalize H1 = H at hP hS ⊢
        refine lv_istore (lv' := [(5, .int (f_O_bestOfInterfaces v p3 p4)), (0, .ref h0), (1, .int p1), (2, .int p2), (3, .int p3), (4, .int p4)]) hx hb d_O_resolveMethod_70 hl (by decide) rfl (fun ls hl => ?_)
        refine lv_iload hx hb d_O_resolveMethod_72 (lv_at hl 0 rfl) ?_
        refine lv_if_le (tgt := 96) hx hb d_O_resolveMethod_74 (by decide) (fun c_17 => ?_) (fun c_17 => ?_)
        · have c_17 : (f_O_bestOfInterfaces v p3 p4) ≤ (0 : Int32) := c_17
          refine lv_aload_n hx hb d_O_resolveMethod_96 rfl (lv_at hl 1 rfl) ?_
          refine lv_iload_n hx hb d_O_resolveMethod_97 rfl (lv_at hl 4 rfl) ?_
          refine lv_iload hx hb d_O_resolveMethod_98 (lv_at hl 5 rfl) ?_
          have hq_18 : vp_in p3 13 := by first | with_reducible assumption | exact in_has hw (by with_reducible assumption) | exact in_cls hw (by with_reducible assumption) | exact in_ifc hw (by with_reducible assumption) | exact in_ext hw (by with_reducible assumption) | exact in_eq0 (by with_reducible assumption) | exact hfd (by with_reducible assumption) | exact in_rcv hw (by with_reducible assumption) (Or.inl (by with_reducible assumption)) | exact in_rcv hw (by with_reducible assumption) (Or.inr (by with_reducible assumption))
          have hq_19 : vp_in p4 4 := by first | with_reducible assumption | exact in_name (by with_reducible assumption) | exact in4_4 (by with_reducible assumption) | exact in4_5 (by with_reducible assumption) | exact in4_6 (by with_reducible assumption) | exact in4_7 (by with_reducible assumption)
          refine va_calli (va_runV (As := [.int p3, .int p4]) (rest := []) ⟨hx, hb, hml, hown, hts⟩ (c_O_interfaceMethods l dC dI h0 kw kf km qw qf qm H.size v (0 : Int32) p3 p4 hq_18 hq_19) (cwV 2 hts k_g12 rfl rfl rfl (by decide +kernel) ⟨Nat.le_of_ble_eq_true rfl, Nat.le_of_ble_eq_true rfl⟩) ⟨fb_ro, va_recv hK hP (ci := 2) (q0 := 0) rfl rfl, fun U hU hW => ⟨rfl, by rw [hU], by rw [hU]; exact hP.sub (ws' := (wO h0 kw kf km qw qf qm v (0 : Int32))) [0, 1, 2, 3, 4, 5, 6, 7, 8, 9, 10, 11, 12, 13, 14, 15, 16, 17, 18, 19] rfl, va_K.moved hW.alike (hK.sub (tys' := (tO kw kf km)) [0, 1, 2, 3, 4, 5, 6, 7, 8, 9, 10, 11, 12, 13, 14, 15] rfl), NX.warm hW hN⟩⟩ rfl rfl hl.1 rfl (lv_room (Nat.le_of_ble_eq_true rfl)) d_O_resolveMethod_100 ⟨Nat.zero_le _, Nat.zero_le _⟩) hS (fun z h1 h2 => absurd h1 (Nat.not_lt.mpr h2)) (fun z h => hA z (Nat.le_trans hS.1 h)) (fun r u t H1 locs ht hvm hpo hB hz1 hk1 hS => ?_)
          subst hpo
          have hP := kp_P hP hk1
          generalize H1 = H at hP hS ⊢
          refine lv_istore (lv' := [(6, .int (f_O_interfaceMethods v p3 p4)), (5, .int (f_O_bestOfInterfaces v p3 p4)), (0, .ref h0), (1, .int p1), (2, .int p2), (3, .int p3), (4, .int p4)]) hx hb d_O_resolveMethod_103 hl (by decide) rfl (fun ls hl => ?_)
          refine lv_aload_n hx hb d_O_resolveMethod_105 rfl (lv_at hl 2 rfl) ?_
          refine lv_iload hx hb d_O_resolveMethod_106 (lv_at hl 0 rfl) ?_
          refine va_calli (va_runS (As := [.int (f_O_interfaceMethods v p3 p4)]) (rest := [.ref h0]) ⟨hx, hb, hml, hown, hts⟩ (c_J_bitCount l dC dI  H.size   (f_O_interfaceMethods v p3 p4)) ⟨callB_of 1 hts k_g15 rfl rfl rfl (hts _ k_25) (hts _ k_24) (by decide +kernel) ⟨Nat.le_of_ble_eq_true rfl, Nat.le_of_ble_eq_true rfl⟩, hts _ k_26⟩ ⟨fb_ro, fun U hU hW => ⟨rfl, by rw [hU], by rw [hU]; exact hP.sub (ws' := ([] : va_W)) [] rfl, va_K.moved hW.alike (hK.sub (tys' := []) [] rfl), NX.warm hW hN⟩⟩ rfl rfl hl.1 rfl (lv_room (Nat.le_of_ble_eq_true rfl)) d_O_resolveMethod_108 ⟨Nat.zero_le _, Nat.zero_le _⟩) hS (fun z h1 h2 => absurd h1 (Nat.not_lt.mpr h2)) (fun z h => hA z (Nat.le_trans hS.1 h)) (fun r u t H1 locs ht hvm hpo hB hz1 hk1 hS => ?_)
          subst hpo
          have hP := kp_P hP hk1
          generalize H1 = H at hP hS ⊢
          refine va_put (D := (dC, dI)) (ci := 2) (v := .int (f_J_bitCount (f_O_interfaceMethods v p3 p4))) (ty := .int) (C := R_O) (T := F_O) (N := 4) hx hb hts i_O t_O t_O_ok n_O hown hK hP hD hS 0 rfl rfl 3 (by decide) (hts _ k_28) (fun _ h9 => h9) rfl (by decide +kernel) rfl rfl (Nat.le_of_ble_eq_true rfl) d_O_resolveMethod_111 (fun H locs hP hD hS => ?_)
          have hP : va_P (dC, dI) classes (wO h0 kw kf km qw qf qm v (f_J_bitCount (f_O_interfaceMethods v p3 p4))) H := hP
          have hD : va_D A (wO h0 kw kf km qw qf qm v (f_J_bitCount (f_O_interfaceMethods v p3 p4))) := hD
          refine lv_iload hx hb d_O_resolveMethod_114 (lv_at hl 0 rfl) ?_
          refine lv_if_ne (tgt := 124) hx hb d_O_resolveMethod_116 (by decide) (fun c_20 => ?_) (fun c_20 => ?_)
          · have c_20 : ¬ ((f_O_interfaceMethods v p3 p4) = (0 : Int32)) := c_20
            refine lv_iload hx hb d_O_resolveMethod_124 (lv_at hl 0 rfl) ?_
            refine va_calli (va_runS (As := [.int (f_O_interfaceMethods v p3 p4)]) (rest := []) ⟨hx, hb, hml, hown, hts⟩ (c_O_leastOf l dC dI  H.size   (f_O_interfaceMethods v p3 p4)) (cwS 1 hts k_g16 rfl rfl rfl (by decide +kernel) ⟨Nat.le_of_ble_eq_true rfl, Nat.le_of_ble_eq_true rfl⟩) ⟨fb_ro, fun U hU hW => ⟨rfl, by rw [hU], by rw [hU]; exact hP.sub (ws' := ([] : va_W)) [] rfl, va_K.moved hW.alike (hK.sub (tys' := []) [] rfl), NX.warm hW hN⟩⟩ rfl rfl hl.1 rfl (lv_room (Nat.le_of_ble_eq_true rfl)) d_O_resolveMethod_126 ⟨Nat.zero_le _, Nat.zero_le _⟩) hS (fun z h1 h2 => absurd h1 (Nat.not_lt.mpr h2)) (fun z h => hA z (Nat.le_trans hS.1 h)) (fun r u t H1 locs ht hvm hpo hB hz1 hk1 hS => ?_)
            subst hpo
            have hP := kp_P hP hk1
            generalize H1 = H at hP hS ⊢
            have hP9 : va_P (dC, dI) classes (wO h0 kw kf km qw qf qm v (f_J_bitCount (f_O_interfaceMethods v p3 p4))) H := hP
            exact W.iret (v := (f_O_leastOf (f_O_interfaceMethods v p3 p4))) hx hb hr (fun t ht hW => ⟨⟨(f_O_leastOf (f_O_interfaceMethods v p3 p4)), (f_J_bitCount (f_O_interfaceMethods v p3 p4)), rfl, ⟨by unfold f_O_resolveMethod; rw [if_neg c_3, if_pos c_4, if_pos c_7, if_pos c_17, if_neg c_20], by unfold s_O_resolveMethod; rw [if_neg c_3, if_pos c_4, if_pos c_7, if_pos c_17, if_neg c_20]⟩, hp_at ht hP9⟩, hS.F ht⟩) hS.2.2 d_O_resolveMethod_129
          · have c_20 : (f_O_interfaceMethods v p3 p4) = (0 : Int32) := c_20
            refine lv_bipush (v := (-4 : Int32)) hx hb d_O_resolveMethod_119 (by decide +kernel) ?_
            refine lv_goto (tgt := 129) hx hb d_O_resolveMethod_121 (by decide) ?_
            have hP9 : va_P (dC, dI) classes (wO h0 kw kf km qw qf qm v (f_J_bitCount (f_O_interfaceMethods v p3 p4))) H := hP
            exact W.iret (v := (-4 : Int32)) hx hb hr (fun t ht hW => ⟨⟨(-4 : Int32), (f_J_bitCount (f_O_interfaceMethods v p3 p4)), rfl, ⟨by unfold f_O_resolveMethod; rw [if_neg c_3, if_pos c_4, if_pos c_7, if_pos c_17, if_pos c_20], by unfold s_O_resolveMethod; rw [if_neg c_3, if_pos c_4, if_pos c_7, if_pos c_17, if_pos c_20]⟩, hp_at ht hP9⟩, hS.F ht⟩) hS.2.2 d_O_resolveMethod_129
        · have c_17 : ¬ ((f_O_bestOfInterfaces v p3 p4) ≤ (0 : Int32)) := c_17
          refine lv_aload_n hx hb d_O_resolveMethod_77 rfl (lv_at hl 1 rfl) ?_
          refine lv_iconst (v := (1 : Int32)) hx hb d_O_resolveMethod_78 (by decide +kernel) ?_
          refine va_put (D := (dC, dI)) (ci := 2) (v := .int (1 : Int32)) (ty := .int) (C := R_O) (T := F_O) (N := 4) hx hb hts i_O t_O t_O_ok n_O hown hK hP hD hS 0 rfl rfl 3 (by decide) (hts _ k_28) (fun _ h9 => h9) rfl (by decide +kernel) rfl rfl (Nat.le_of_ble_eq_true rfl) d_O_resolveMethod_79 (fun H locs hP hD hS => ?_)
          have hP : va_P (dC, dI) classes (wO h0 kw kf km qw qf qm v (1 : Int32)) H := hP
          have hD : va_D A (wO h0 kw kf km qw qf qm v (1 : Int32)) := hD
          refine lv_aload_n hx hb d_O_resolveMethod_82 rfl (lv_at hl 1 rfl) ?_
          refine lv_aload_n hx hb d_O_resolveMethod_83 rfl (lv_at hl 1 rfl) ?_
          refine va_get (D := (dC, dI)) (ci := 2) (v := .ref (qm 0)) (C := R_O) (T := F_O) (N := 4) hx hb hts i_O hown hK hP 0 rfl rfl 2 (by decide) (hts _ k_23) (fun _ h9 => h9) rfl d_O_resolveMethod_84 ?_
          refine lv_iload hx hb d_O_resolveMethod_87 (lv_at hl 0 rfl) ?_
          refine lv_iload hx hb d_O_resolveMethod_89 (lv_at hl 5 rfl) ?_
          refine lv_iload_n hx hb d_O_resolveMethod_91 rfl (lv_at hl 3 rfl) ?_
          have hq_21 : (0 : Int32) < (f_O_bestOfInterfaces v p3 p4) → vp_in (f_O_bestOfInterfaces v p3 p4) 13 := by exact in_best
          have hq_22 : vp_in p4 4 := by first | with_reducible assumption | exact in_name (by with_reducible assumption) | exact in4_4 (by with_reducible assumption) | exact in4_5 (by with_reducible assumption) | exact in4_6 (by with_reducible assumption) | exact in4_7 (by with_reducible assumption)
          have hq_23 : vp_in p2 13 := by first | with_reducible assumption | exact in_has hw (by with_reducible assumption) | exact in_cls hw (by with_reducible assumption) | exact in_ifc hw (by with_reducible assumption) | exact in_ext hw (by with_reducible assumption) | exact in_eq0 (by with_reducible assumption) | exact hfd (by with_reducible assumption) | exact in_rcv hw (by with_reducible assumption) (Or.inl (by with_reducible assumption)) | exact in_rcv hw (by with_reducible assumption) (Or.inr (by with_reducible assumption))
          refine va_calli (va_runV (As := [.ref (qm 0), .int (f_O_bestOfInterfaces v p3 p4), .int p4, .int p2]) (rest := []) ⟨hx, hb, hml, hown, hts⟩ (c_O_admitted_m l dC dI h0 kw kf km qw qf qm H.size v (1 : Int32) (f_O_bestOfInterfaces v p3 p4) p4 p2 hq_21 hq_22 hq_23) (cwV 4 hts k_g35 rfl rfl rfl (by decide +kernel) ⟨Nat.le_of_ble_eq_true rfl, Nat.le_of_ble_eq_true rfl⟩) ⟨fb_ro, va_recv hK hP (ci := 2) (q0 := 0) rfl rfl, fun U hU hW => ⟨rfl, by rw [hU], by rw [hU]; exact hP.sub (ws' := (wO h0 kw kf km qw qf qm v (1 : Int32))) [0, 1, 2, 3, 4, 5, 6, 7, 8, 9, 10, 11, 12, 13, 14, 15, 16, 17, 18, 19] rfl, va_K.moved hW.alike (hK.sub (tys' := (tO kw kf km)) [0, 1, 2, 3, 4, 5, 6, 7, 8, 9, 10, 11, 12, 13, 14, 15] rfl), NX.warm hW hN⟩⟩ rfl rfl hl.1 rfl (lv_room (Nat.le_of_ble_eq_true rfl)) d_O_resolveMethod_92 ⟨Nat.zero_le _, Nat.zero_le _⟩) hS (fun z h1 h2 => absurd h1 (Nat.not_lt.mpr h2)) (fun z h => hA z (Nat.le_trans hS.1 h)) (fun r u t H1 locs ht hvm hpo hB hz1 hk1 hS => ?_)
          subst hpo
          have hP := kp_P hP hk1
          generalize H1 = H at hP hS ⊢
          have hP9 : va_P (dC, dI) classes (wO h0 kw kf km qw qf qm v (1 : Int32)) H := hP
          exact W.iret (v := (f_O_admitted_m v (f_O_bestOfInterfaces v p3 p4) p4 p2)) hx hb hr (fun t ht hW => ⟨⟨(f_O_admitted_m v (f_O_bestOfInterfaces v p3 p4) p4 p2), (1 : Int32), rfl, ⟨by unfold f_O_resolveMethod; rw [if_neg c_3, if_pos c_4, if_pos c_7, if_neg c_17], by unfold s_O_resolveMethod; rw [if_neg c_3, if_pos c_4, if_pos c_7, if_neg c_17]⟩, hp_at ht hP9⟩, hS.F ht⟩) hS.2.2 d_O_resolveMethod_95
    · have c_4 : ¬ ((f_W_isInterface v.1 p3) = p1) := c_4
      refine lv_bipush (v := (-6 : Int32)) hx hb d_O_resolveMethod_32 (by decide +kernel) ?_
      have hP9 : va_P (dC, dI) classes (wO h0 kw kf km qw qf qm v (0 : Int32)) H := hP
      exact W.iret (v := (-6 : Int32)) hx hb hr (fun t ht hW => ⟨⟨(-6 : Int32), (0 : Int32), rfl, ⟨by unfold f_O_resolveMethod; rw [if_neg c_3, if_neg c_4], by unfold s_O_resolveMethod; rw [if_neg c_3, if_neg c_4]⟩, hp_at ht hP9⟩, hS.F ht⟩) hS.2.2 d_O_resolveMethod_34
  · have c_3 : (f_W_mayUseType v.1 p3 p2) = (0 : Int32) := c_3
    refine lv_bipush (v := (-5 : Int32)) hx hb d_O_resolveMethod_17 (by decide +kernel) ?_
    have hP9 : va_P (dC, dI) classes (wO h0 kw kf km qw qf qm v (0 : Int32)) H := hP
    exact W.iret (v := (-5 : Int32)) hx hb hr (fun t ht hW => ⟨⟨(-5 : Int32), (0 : Int32), rfl, ⟨by unfold f_O_resolveMethod; rw [if_pos c_3], by unfold s_O_resolveMethod; rw [if_pos c_3]⟩, hp_at ht hP9⟩, hS.F ht⟩) hS.2.2 d_O_resolveMethod_19
