set_option maxHeartbeats 1000000 in
set_option maxRecDepth 100000 in
theorem c_O_invokeInterface (l : Launch) (dC : Nat → ClassId) (dI : Nat → Nat → Nat) (h0 : Nat) (kw kf km : Nat → ClassId) (qw qf qm : Nat → Nat) (sz : Nat) (v : ES) (lc : Int32) (p1 p2 p3 p4 : Int32) (hw : WF v.1) (hp1 : vp_in p1 13) (hp2 : vp_in p2 13) (hp4 : vp_in p4 13) (hp3 : vp_in p3 4) : Met l y_O_invokeInterface w_O_invokeInterface ({ frames := 5, cells := 0, slots := 0, locals := 121 } : Room) (mu_P dC dI (wO h0 kw kf km qw qf qm v lc) (tO kw kf km) sz [.ref h0, .int p1, .int p2, .int p3, .int p4]) (mu_Q (fun (S9 : Int32) => (wO h0 kw kf km qw qf qm v S9)) dC dI (f_O_invokeInterface v p1 p2 p3 p4) (s_O_invokeInterface v p1 p2 p3 p4) (va_A (wO h0 kw kf km qw qf qm v lc) sz)) 0 0 (va_A (wO h0 kw kf km qw qf qm v lc) sz) := by
  refine Met.ofW (cc := b_O_invokeInterface) (maxL := 8) (ret := (some .int)) (by decide) rfl ?_
  intro p e s m args below meth c s₁ B hml hv
  obtain ⟨rfl, hsz, hP, hK, hN, hD0⟩ := hv
  have hx := B.exec
  have hb := B.bytes
  have hr := B.returns
  have hts := tl_of (atoms_spec (ws := w_O_invokeInterface) B.pre)
  have hown : s.vm.findClass R_O = some m.cls := findClass_of_methodNamed B.named
  have hlocks := B.notSynchronized
  subst hsz
  have hD := hD0.self (sz := s.heap.size)
  generalize hAe : va_A (wO h0 kw kf km qw qf qm v lc) s.heap.size = A at hD ⊢
  have hA : ∀ q : Nat, s.heap.size ≤ q → A q := fun q h => by rw [← hAe]; exact Or.inr h
  have hS : va_S A s.heap s.heap [] := va_S.rf
  have hl := lv_entry ([.ref h0, .int p1, .int p2, .int p3, .int p4]) (n := 8) (Nat.le_of_ble_eq_true rfl)
  rw [lg_entry_eq]
  generalize (lg_sl ([.ref h0, .int p1, .int p2, .int p3, .int p4]) ++ List.replicate (8 - (lg_sl ([.ref h0, .int p1, .int p2, .int p3, .int p4])).length) Slot.unset).toArray = ls at hl ⊢
  have hl : lv_has ls 8 [(0, .ref h0), (1, .int p1), (2, .int p2), (3, .int p3), (4, .int p4)] := hl
  refine lv_aload_n hx hb d_O_invokeInterface_0 rfl (lv_at hl 0 rfl) ?_
  refine lv_iconst (v := (1 : Int32)) hx hb d_O_invokeInterface_1 (by decide +kernel) ?_
  refine lv_iload_n hx hb d_O_invokeInterface_2 rfl (lv_at hl 2 rfl) ?_
  refine lv_iload_n hx hb d_O_invokeInterface_3 rfl (lv_at hl 1 rfl) ?_
  refine lv_iload_n hx hb d_O_invokeInterface_4 rfl (lv_at hl 3 rfl) ?_
  have hq_1 : WF v.1 := by first | with_reducible assumption | exact hw
  have hq_2 : vp_in p2 13 := by first | with_reducible assumption | exact in_has hw (by with_reducible assumption) | exact in_cls hw (by with_reducible assumption) | exact in_ifc hw (by with_reducible assumption) | exact in_ext hw (by with_reducible assumption) | exact in_eq0 (by with_reducible assumption) | exact hfd (by with_reducible assumption) | exact in_rcv hw (by with_reducible assumption) (Or.inl (by with_reducible assumption)) | exact in_rcv hw (by with_reducible assumption) (Or.inr (by with_reducible assumption))
  have hq_3 : vp_in p1 13 := by first | with_reducible assumption | exact in_has hw (by with_reducible assumption) | exact in_cls hw (by with_reducible assumption) | exact in_ifc hw (by with_reducible assumption) | exact in_ext hw (by with_reducible assumption) | exact in_eq0 (by with_reducible assumption) | exact hfd (by with_reducible assumption) | exact in_rcv hw (by with_reducible assumption) (Or.inl (by with_reducible assumption)) | exact in_rcv hw (by with_reducible assumption) (Or.inr (by with_reducible assumption))
  have hq_4 : vp_in p3 4 := by first | with_reducible assumption | exact in_name (by with_reducible assumption) | exact in4_4 (by with_reducible assumption) | exact in4_5 (by with_reducible assumption) | exact in4_6 (by with_reducible assumption) | exact in4_7 (by with_reducible assumption)
  have hPc := hP.sub (ws' := (wO h0 kw kf km qw qf qm v lc)) [0, 1, 2, 3, 4, 5, 6, 7, 8, 9, 10, 11, 12, 13, 14, 15, 16, 17, 18, 19] rfl
  have hDc := hD.sub (ws' := (wO h0 kw kf km qw qf qm v lc)) [0, 1, 2, 3, 4, 5, 6, 7, 8, 9, 10, 11, 12, 13, 14, 15, 16, 17, 18, 19] (by decide) rfl
  have hFc := va_free (wc := (wO h0 kw kf km qw qf qm v lc)) hD hS hA [0, 1, 2, 3, 4, 5, 6, 7, 8, 9, 10, 11, 12, 13, 14, 15, 16, 17, 18, 19] rfl
  refine va_calli (va_runV (As := [.int (1 : Int32), .int p2, .int p1, .int p3]) (rest := []) ⟨hx, hb, hml, hown, hts⟩ (c_O_resolveMethod l dC dI h0 kw kf km qw qf qm s.heap.size v lc (1 : Int32) p2 p1 p3 hq_1 hq_2 hq_3 hq_4) (cwV 4 hts k_g36 rfl rfl rfl (by decide +kernel) ⟨Nat.le_of_ble_eq_true rfl, Nat.le_of_ble_eq_true rfl⟩) ⟨fb_mu, va_recv hK hP (ci := 2) (q0 := 0) rfl rfl, fun U hU hW => ⟨rfl, by rw [hU], by rw [hU]; exact hPc, va_K.moved hW.alike (hK.sub (tys' := (tO kw kf km)) [0, 1, 2, 3, 4, 5, 6, 7, 8, 9, 10, 11, 12, 13, 14, 15] rfl), NX.warm hW hN, hDc.weaken (fun _ _ _ _ => trivial)⟩⟩ rfl rfl hl.1 rfl (lv_room (Nat.le_of_ble_eq_true rfl)) d_O_invokeInterface_5 ⟨Nat.zero_le _, Nat.zero_le _⟩) hS (fun q _ h => hFc q h) hFc (fun r u t H1 locs ht hvm hpo hB hz1 hk1 hS => ?_)
  obtain ⟨rfl, rfl⟩ := hpo
  have hB : va_P (dC, dI) classes (wO h0 kw kf km qw qf qm v (s_O_resolveMethod v (1 : Int32) p2 p1 p3)) H1 := hp_to ht hB
  obtain ⟨hP, hD⟩ := va_join (wr := ([] : va_W)) (w1 := (wO h0 kw kf km qw qf qm v (s_O_resolveMethod v (1 : Int32) p2 p1 p3))) hP hD [0, 1, 2, 3, 4, 5, 6, 7, 8, 9, 10, 11, 12, 13, 14, 15, 16, 17, 18, 19] [] rfl rfl (by decide) (by decide) hk1 hFc hB (ad_D hDc.self rfl)
  have hP := hP.sub (ws' := (wO h0 kw kf km qw qf qm v (s_O_resolveMethod v (1 : Int32) p2 p1 p3))) [0, 1, 2, 3, 4, 5, 6, 7, 8, 9, 10, 11, 12, 13, 14, 15, 16, 17, 18, 19] rfl
  have hD := hD.sub (ws' := (wO h0 kw kf km qw qf qm v (s_O_resolveMethod v (1 : Int32) p2 p1 p3))) [0, 1, 2, 3, 4, 5, 6, 7, 8, 9, 10, 11, 12, 13, 14, 15, 16, 17, 18, 19] (by decide) rfl
  generalize H1 = H at hP hS ⊢
  refine lv_istore (lv' := [(5, .int (f_O_resolveMethod v (1 : Int32) p2 p1 p3)), (0, .ref h0), (1, .int p1), (2, .int p2), (3, .int p3), (4, .int p4)]) hx hb d_O_invokeInterface_8 hl (by decide) rfl (fun ls hl => ?_)
  refine lv_iload hx hb d_O_invokeInterface_10 (lv_at hl 0 rfl) ?_
  refine lv_if_gt (tgt := 18) hx hb d_O_invokeInterface_12 (by decide) (fun c_5 => ?_) (fun c_5 => ?_)
  · have c_5 : (0 : Int32) < (f_O_resolveMethod v (1 : Int32) p2 p1 p3) := c_5
    refine lv_aload_n hx hb d_O_invokeInterface_18 rfl (lv_at hl 1 rfl) ?_
    refine va_get (D := (dC, dI)) (ci := 2) (v := .ref (qm 0)) (C := R_O) (T := F_O) (N := 4) hx hb hts i_O hown hK hP 0 rfl rfl 2 (by decide) (hts _ k_23) (fun _ h9 => h9) rfl d_O_invokeInterface_19 ?_
    refine lv_iload hx hb d_O_invokeInterface_22 (lv_at hl 0 rfl) ?_
    refine lv_iload_n hx hb d_O_invokeInterface_24 rfl (lv_at hl 4 rfl) ?_
    have hq_6 : vp_in p3 4 := by first | with_reducible assumption | exact in_name (by with_reducible assumption) | exact in4_4 (by with_reducible assumption) | exact in4_5 (by with_reducible assumption) | exact in4_6 (by with_reducible assumption) | exact in4_7 (by with_reducible assumption)
    refine va_calli (va_runV (As := [.int (f_O_resolveMethod v (1 : Int32) p2 p1 p3), .int p3]) (rest := []) ⟨hx, hb, hml, hown, hts⟩ (c_M_isStatic l dC dI km qm H.size v.2.2  (f_O_resolveMethod v (1 : Int32) p2 p1 p3) p3 hq_6) (cwV 2 hts k_g37 rfl rfl rfl (by decide +kernel) ⟨Nat.le_of_ble_eq_true rfl, Nat.le_of_ble_eq_true rfl⟩) ⟨fb_ro, va_recv hK hP (ci := 1) (q0 := 14) rfl rfl, fun U hU hW => ⟨rfl, by rw [hU], by rw [hU]; exact hP.sub (ws' := (wM km qm v.2.2)) [14, 15, 16, 17, 18, 19] rfl, va_K.moved hW.alike (hK.sub (tys' := (tM km)) [11, 12, 13, 14, 15] rfl), NX.warm hW hN⟩⟩ rfl rfl hl.1 rfl (lv_room (Nat.le_of_ble_eq_true rfl)) d_O_invokeInterface_25 ⟨Nat.zero_le _, Nat.zero_le _⟩) hS (fun z h1 h2 => absurd h1 (Nat.not_lt.mpr h2)) (fun z h => hA z (Nat.le_trans hS.1 h)) (fun r u t H1 locs ht hvm hpo hB hz1 hk1 hS => ?_)
    subst hpo
    have hP := kp_P hP hk1
    generalize H1 = H at hP hS ⊢
    refine lv_if_ne (tgt := 45) hx hb d_O_invokeInterface_28 (by decide) (fun c_7 => ?_) (fun c_7 => ?_)
    · have c_7 : ¬ ((f_M_isStatic v.2.2 (f_O_resolveMethod v (1 : Int32) p2 p1 p3) p3) = (0 : Int32)) := c_7
      refine lv_bipush (v := (-6 : Int32)) hx hb d_O_invokeInterface_45 (by decide +kernel) ?_
      have hP9 : va_P (dC, dI) classes (wO h0 kw kf km qw qf qm v (s_O_resolveMethod v (1 : Int32) p2 p1 p3)) H := hP
      exact W.iret (v := (-6 : Int32)) hx hb hr (fun t ht hW => ⟨⟨(-6 : Int32), (s_O_resolveMethod v (1 : Int32) p2 p1 p3), rfl, ⟨by unfold f_O_invokeInterface; rw [if_pos c_5, if_neg c_7], by unfold s_O_invokeInterface; rw [if_pos c_5, if_neg c_7]⟩, hp_at ht hP9⟩, hS.F ht⟩) hS.2.2 d_O_invokeInterface_47
    · have c_7 : (f_M_isStatic v.2.2 (f_O_resolveMethod v (1 : Int32) p2 p1 p3) p3) = (0 : Int32) := c_7
      refine lv_aload_n hx hb d_O_invokeInterface_31 rfl (lv_at hl 1 rfl) ?_
      refine va_get (D := (dC, dI)) (ci := 2) (v := .ref (qw 0)) (C := R_O) (T := F_O) (N := 4) hx hb hts i_O hown hK hP 0 rfl rfl 0 (by decide) (hts _ k_22) (fun _ h9 => h9) rfl d_O_invokeInterface_32 ?_
      refine lv_iload hx hb d_O_invokeInterface_35 (lv_at hl 5 rfl) ?_
      refine lv_iload hx hb d_O_invokeInterface_37 (lv_at hl 0 rfl) ?_
      have hq_8 : vp_in p4 13 := by first | with_reducible assumption | exact in_has hw (by with_reducible assumption) | exact in_cls hw (by with_reducible assumption) | exact in_ifc hw (by with_reducible assumption) | exact in_ext hw (by with_reducible assumption) | exact in_eq0 (by with_reducible assumption) | exact hfd (by with_reducible assumption) | exact in_rcv hw (by with_reducible assumption) (Or.inl (by with_reducible assumption)) | exact in_rcv hw (by with_reducible assumption) (Or.inr (by with_reducible assumption))
      refine va_calli (va_runV (As := [.int p4, .int (f_O_resolveMethod v (1 : Int32) p2 p1 p3)]) (rest := []) ⟨hx, hb, hml, hown, hts⟩ (c_W_isKindOf l dC dI kw qw H.size v.1  p4 (f_O_resolveMethod v (1 : Int32) p2 p1 p3) hq_8) (cwV 2 hts k_g26 rfl rfl rfl (by decide +kernel) ⟨Nat.le_of_ble_eq_true rfl, Nat.le_of_ble_eq_true rfl⟩) ⟨fb_ro, va_recv hK hP (ci := 0) (q0 := 1) rfl rfl, fun U hU hW => ⟨rfl, by rw [hU], by rw [hU]; exact hP.sub (ws' := (wW kw qw v.1)) [1, 2, 3, 4, 5, 6, 7] rfl, va_K.moved hW.alike (hK.sub (tys' := (tW kw)) [0, 1, 2, 3, 4, 5] rfl), NX.warm hW hN⟩⟩ rfl rfl hl.1 rfl (lv_room (Nat.le_of_ble_eq_true rfl)) d_O_invokeInterface_39 ⟨Nat.zero_le _, Nat.zero_le _⟩) hS (fun z h1 h2 => absurd h1 (Nat.not_lt.mpr h2)) (fun z h => hA z (Nat.le_trans hS.1 h)) (fun r u t H1 locs ht hvm hpo hB hz1 hk1 hS => ?_)
      subst hpo
      have hP := kp_P hP hk1
      generalize H1 = H at hP hS ⊢
      refine lv_if_ne (tgt := 48) hx hb d_O_invokeInterface_42 (by decide) (fun c_9 => ?_) (fun c_9 => ?_)
      · have c_9 : ¬ ((f_W_isKindOf v.1 p4 (f_O_resolveMethod v (1 : Int32) p2 p1 p3)) = (0 : Int32)) := c_9
        refine lv_aload_n hx hb d_O_invokeInterface_48 rfl (lv_at hl 1 rfl) ?_
        refine lv_iload hx hb d_O_invokeInterface_49 (lv_at hl 5 rfl) ?_
        refine lv_iload hx hb d_O_invokeInterface_51 (lv_at hl 0 rfl) ?_
        refine lv_iload_n hx hb d_O_invokeInterface_53 rfl (lv_at hl 4 rfl) ?_
        have hq_10 : WF v.1 := by first | with_reducible assumption | exact hw
        have hq_11 : vp_in p4 13 := by first | with_reducible assumption | exact in_has hw (by with_reducible assumption) | exact in_cls hw (by with_reducible assumption) | exact in_ifc hw (by with_reducible assumption) | exact in_ext hw (by with_reducible assumption) | exact in_eq0 (by with_reducible assumption) | exact hfd (by with_reducible assumption) | exact in_rcv hw (by with_reducible assumption) (Or.inl (by with_reducible assumption)) | exact in_rcv hw (by with_reducible assumption) (Or.inr (by with_reducible assumption))
        have hq_12 : vp_in (f_O_resolveMethod v (1 : Int32) p2 p1 p3) 13 := by first | with_reducible assumption | exact in_res (by with_reducible assumption)
        have hq_13 : vp_in p3 4 := by first | with_reducible assumption | exact in_name (by with_reducible assumption) | exact in4_4 (by with_reducible assumption) | exact in4_5 (by with_reducible assumption) | exact in4_6 (by with_reducible assumption) | exact in4_7 (by with_reducible assumption)
        refine va_calli (va_runV (As := [.int p4, .int (f_O_resolveMethod v (1 : Int32) p2 p1 p3), .int p3]) (rest := []) ⟨hx, hb, hml, hown, hts⟩ (c_O_select l dC dI h0 kw kf km qw qf qm H.size v (s_O_resolveMethod v (1 : Int32) p2 p1 p3) p4 (f_O_resolveMethod v (1 : Int32) p2 p1 p3) p3 hq_10 hq_11 hq_12 hq_13) (cwV 3 hts k_g38 rfl rfl rfl (by decide +kernel) ⟨Nat.le_of_ble_eq_true rfl, Nat.le_of_ble_eq_true rfl⟩) ⟨fb_ro, va_recv hK hP (ci := 2) (q0 := 0) rfl rfl, fun U hU hW => ⟨rfl, by rw [hU], by rw [hU]; exact hP.sub (ws' := (wO h0 kw kf km qw qf qm v (s_O_resolveMethod v (1 : Int32) p2 p1 p3))) [0, 1, 2, 3, 4, 5, 6, 7, 8, 9, 10, 11, 12, 13, 14, 15, 16, 17, 18, 19] rfl, va_K.moved hW.alike (hK.sub (tys' := (tO kw kf km)) [0, 1, 2, 3, 4, 5, 6, 7, 8, 9, 10, 11, 12, 13, 14, 15] rfl), NX.warm hW hN⟩⟩ rfl rfl hl.1 rfl (lv_room (Nat.le_of_ble_eq_true rfl)) d_O_invokeInterface_54 ⟨Nat.zero_le _, Nat.zero_le _⟩) hS (fun z h1 h2 => absurd h1 (Nat.not_lt.mpr h2)) (fun z h => hA z (Nat.le_trans hS.1 h)) (fun r u t H1 locs ht hvm hpo hB hz1 hk1 hS => ?_)
        subst hpo
        have hP := kp_P hP hk1
        generalize H1 = H at hP hS ⊢
        refine lv_istore (lv' := [(6, .int (f_O_select v p4 (f_O_resolveMethod v (1 : Int32) p2 p1 p3) p3)), (5, .int (f_O_resolveMethod v (1 : Int32) p2 p1 p3)), (0, .ref h0), (1, .int p1), (2, .int p2), (3, .int p3), (4, .int p4)]) hx hb d_O_invokeInterface_57 hl (by decide) rfl (fun ls hl => ?_)
        refine lv_iload hx hb d_O_invokeInterface_59 (lv_at hl 0 rfl) ?_
        refine lv_if_gt (tgt := 67) hx hb d_O_invokeInterface_61 (by decide) (fun c_14 => ?_) (fun c_14 => ?_)
        · have c_14 : (0 : Int32) < (f_O_select v p4 (f_O_resolveMethod v (1 : Int32) p2 p1 p3) p3) := c_14
          refine lv_aload_n hx hb d_O_invokeInterface_67 rfl (lv_at hl 2 rfl) ?_
          refine va_get (D := (dC, dI)) (ci := 2) (v := .ref (qm 0)) (C := R_O) (T := F_O) (N := 4) hx hb hts i_O hown hK hP 0 rfl rfl 2 (by decide) (hts _ k_23) (fun _ h9 => h9) rfl d_O_invokeInterface_68 ?_
          refine lv_iload hx hb d_O_invokeInterface_71 (lv_at hl 0 rfl) ?_
          refine lv_iload_n hx hb d_O_invokeInterface_73 rfl (lv_at hl 5 rfl) ?_
          have hq_15 : vp_in (((f_O_select v p4 (f_O_resolveMethod v (1 : Int32) p2 p1 p3) p3) * (4 : Int32)) + p3) 52 := by first | with_reducible assumption | exact in_52 (by first | with_reducible assumption | exact in_sel (by with_reducible assumption) (by with_reducible assumption) (by with_reducible assumption)) (by first | with_reducible assumption | exact in_name (by with_reducible assumption) | exact in4_4 (by with_reducible assumption) | exact in4_5 (by with_reducible assumption) | exact in4_6 (by with_reducible assumption) | exact in4_7 (by with_reducible assumption))
          refine va_calli (va_runV (As := [.int (f_O_select v p4 (f_O_resolveMethod v (1 : Int32) p2 p1 p3) p3), .int p3]) (rest := []) ⟨hx, hb, hml, hown, hts⟩ (c_M_accessOf l dC dI km qm H.size v.2.2  (f_O_select v p4 (f_O_resolveMethod v (1 : Int32) p2 p1 p3) p3) p3 hq_15) (cwV 2 hts k_g17 rfl rfl rfl (by decide +kernel) ⟨Nat.le_of_ble_eq_true rfl, Nat.le_of_ble_eq_true rfl⟩) ⟨fb_ro, va_recv hK hP (ci := 1) (q0 := 14) rfl rfl, fun U hU hW => ⟨rfl, by rw [hU], by rw [hU]; exact hP.sub (ws' := (wM km qm v.2.2)) [14, 15, 16, 17, 18, 19] rfl, va_K.moved hW.alike (hK.sub (tys' := (tM km)) [11, 12, 13, 14, 15] rfl), NX.warm hW hN⟩⟩ rfl rfl hl.1 rfl (lv_room (Nat.le_of_ble_eq_true rfl)) d_O_invokeInterface_74 ⟨Nat.zero_le _, Nat.zero_le _⟩) hS (fun z h1 h2 => absurd h1 (Nat.not_lt.mpr h2)) (fun z h => hA z (Nat.le_trans hS.1 h)) (fun r u t H1 locs ht hvm hpo hB hz1 hk1 hS => ?_)
          subst hpo
          have hP := kp_P hP hk1
          generalize H1 = H at hP hS ⊢
          refine lv_istore (lv' := [(7, .int (f_M_accessOf v.2.2 (f_O_select v p4 (f_O_resolveMethod v (1 : Int32) p2 p1 p3) p3) p3)), (6, .int (f_O_select v p4 (f_O_resolveMethod v (1 : Int32) p2 p1 p3) p3)), (5, .int (f_O_resolveMethod v (1 : Int32) p2 p1 p3)), (0, .ref h0), (1, .int p1), (2, .int p2), (3, .int p3), (4, .int p4)]) hx hb d_O_invokeInterface_77 hl (by decide) rfl (fun ls hl => ?_)
          refine lv_iload hx hb d_O_invokeInterface_79 (lv_at hl 0 rfl) ?_
          refine lv_iconst (v := (3 : Int32)) hx hb d_O_invokeInterface_81 (by decide +kernel) ?_
          refine lv_icmp_eq (tgt := 93) hx hb d_O_invokeInterface_82 (by decide) (fun c_16 => ?_) (fun c_16 => ?_)
          · have c_16 : (f_M_accessOf v.2.2 (f_O_select v p4 (f_O_resolveMethod v (1 : Int32) p2 p1 p3) p3) p3) = (3 : Int32) := c_16
            refine lv_aload_n hx hb d_O_invokeInterface_93 rfl (lv_at hl 3 rfl) ?_
            refine lv_iload hx hb d_O_invokeInterface_94 (lv_at hl 1 rfl) ?_
            refine lv_iload_n hx hb d_O_invokeInterface_96 rfl (lv_at hl 6 rfl) ?_
            have hq_17 : vp_in p3 4 := by first | with_reducible assumption | exact in_name (by with_reducible assumption) | exact in4_4 (by with_reducible assumption) | exact in4_5 (by with_reducible assumption) | exact in4_6 (by with_reducible assumption) | exact in4_7 (by with_reducible assumption)
            refine va_calli (va_runV (As := [.int (f_O_select v p4 (f_O_resolveMethod v (1 : Int32) p2 p1 p3) p3), .int p3]) (rest := []) ⟨hx, hb, hml, hown, hts⟩ (c_O_runnable l dC dI h0 kw kf km qw qf qm H.size v (s_O_resolveMethod v (1 : Int32) p2 p1 p3) (f_O_select v p4 (f_O_resolveMethod v (1 : Int32) p2 p1 p3) p3) p3 hq_17) (cwV 2 hts k_g39 rfl rfl rfl (by decide +kernel) ⟨Nat.le_of_ble_eq_true rfl, Nat.le_of_ble_eq_true rfl⟩) ⟨fb_ro, va_recv hK hP (ci := 2) (q0 := 0) rfl rfl, fun U hU hW => ⟨rfl, by rw [hU], by rw [hU]; exact hP.sub (ws' := (wO h0 kw kf km qw qf qm v (s_O_resolveMethod v (1 : Int32) p2 p1 p3))) [0, 1, 2, 3, 4, 5, 6, 7, 8, 9, 10, 11, 12, 13, 14, 15, 16, 17, 18, 19] rfl, va_K.moved hW.alike (hK.sub (tys' := (tO kw kf km)) [0, 1, 2, 3, 4, 5, 6, 7, 8, 9, 10, 11, 12, 13, 14, 15] rfl), NX.warm hW hN⟩⟩ rfl rfl hl.1 rfl (lv_room (Nat.le_of_ble_eq_true rfl)) d_O_invokeInterface_97 ⟨Nat.zero_le _, Nat.zero_le _⟩) hS (fun z h1 h2 => absurd h1 (Nat.not_lt.mpr h2)) (fun z h => hA z (Nat.le_trans hS.1 h)) (fun r u t H1 locs ht hvm hpo hB hz1 hk1 hS => ?_)
            subst hpo
            have hP := kp_P hP hk1
            generalize H1 = H at hP hS ⊢
            have hP9 : va_P (dC, dI) classes (wO h0 kw kf km qw qf qm v (s_O_resolveMethod v (1 : Int32) p2 p1 p3)) H := hP
            exact W.iret (v := (f_O_runnable v (f_O_select v p4 (f_O_resolveMethod v (1 : Int32) p2 p1 p3) p3) p3)) hx hb hr (fun t ht hW => ⟨⟨(f_O_runnable v (f_O_select v p4 (f_O_resolveMethod v (1 : Int32) p2 p1 p3) p3) p3), (s_O_resolveMethod v (1 : Int32) p2 p1 p3), rfl, ⟨by unfold f_O_invokeInterface; rw [if_pos c_5, if_pos c_7, if_neg c_9, if_pos c_14, if_pos c_16], by unfold s_O_invokeInterface; rw [if_pos c_5, if_pos c_7, if_neg c_9, if_pos c_14, if_pos c_16]⟩, hp_at ht hP9⟩, hS.F ht⟩) hS.2.2 d_O_invokeInterface_100
          · have c_16 : ¬ ((f_M_accessOf v.2.2 (f_O_select v p4 (f_O_resolveMethod v (1 : Int32) p2 p1 p3) p3) p3) = (3 : Int32)) := c_16
            refine lv_iload hx hb d_O_invokeInterface_85 (lv_at hl 0 rfl) ?_
            refine lv_if_eq (tgt := 93) hx hb d_O_invokeInterface_87 (by decide) (fun c_18 => ?_) (fun c_18 => ?_)
            · have c_18 : (f_M_accessOf v.2.2 (f_O_select v p4 (f_O_resolveMethod v (1 : Int32) p2 p1 p3) p3) p3) = (0 : Int32) := c_18
              refine lv_aload_n hx hb d_O_invokeInterface_93 rfl (lv_at hl 3 rfl) ?_
              refine lv_iload hx hb d_O_invokeInterface_94 (lv_at hl 1 rfl) ?_
              refine lv_iload_n hx hb d_O_invokeInterface_96 rfl (lv_at hl 6 rfl) ?_
              have hq_19 : vp_in p3 4 := by first | with_reducible assumption | exact in_name (by with_reducible assumption) | exact in4_4 (by with_reducible assumption) | exact in4_5 (by with_reducible assumption) | exact in4_6 (by with_reducible assumption) | exact in4_7 (by with_reducible assumption)
              refine va_calli (va_runV (As := [.int (f_O_select v p4 (f_O_resolveMethod v (1 : Int32) p2 p1 p3) p3), .int p3]) (rest := []) ⟨hx, hb, hml, hown, hts⟩ (c_O_runnable l dC dI h0 kw kf km qw qf qm H.size v (s_O_resolveMethod v (1 : Int32) p2 p1 p3) (f_O_select v p4 (f_O_resolveMethod v (1 : Int32) p2 p1 p3) p3) p3 hq_19) (cwV 2 hts k_g39 rfl rfl rfl (by decide +kernel) ⟨Nat.le_of_ble_eq_true rfl, Nat.le_of_ble_eq_true rfl⟩) ⟨fb_ro, va_recv hK hP (ci := 2) (q0 := 0) rfl rfl, fun U hU hW => ⟨rfl, by rw [hU], by rw [hU]; exact hP.sub (ws' := (wO h0 kw kf km qw qf qm v (s_O_resolveMethod v (1 : Int32) p2 p1 p3))) [0, 1, 2, 3, 4, 5, 6, 7, 8, 9, 10, 11, 12, 13, 14, 15, 16, 17, 18, 19] rfl, va_K.moved hW.alike (hK.sub (tys' := (tO kw kf km)) [0, 1, 2, 3, 4, 5, 6, 7, 8, 9, 10, 11, 12, 13, 14, 15] rfl), NX.warm hW hN⟩⟩ rfl rfl hl.1 rfl (lv_room (Nat.le_of_ble_eq_true rfl)) d_O_invokeInterface_97 ⟨Nat.zero_le _, Nat.zero_le _⟩) hS (fun z h1 h2 => absurd h1 (Nat.not_lt.mpr h2)) (fun z h => hA z (Nat.le_trans hS.1 h)) (fun r u t H1 locs ht hvm hpo hB hz1 hk1 hS => ?_)
              subst hpo
              have hP := kp_P hP hk1
              generalize H1 = H at hP hS ⊢
              have hP9 : va_P (dC, dI) classes (wO h0 kw kf km qw qf qm v (s_O_resolveMethod v (1 : Int32) p2 p1 p3)) H := hP
              exact W.iret (v := (f_O_runnable v (f_O_select v p4 (f_O_resolveMethod v (1 : Int32) p2 p1 p3) p3) p3)) hx hb hr (fun t ht hW => ⟨⟨(f_O_runnable v (f_O_select v p4 (f_O_resolveMethod v (1 : Int32) p2 p1 p3) p3) p3), (s_O_resolveMethod v (1 : Int32) p2 p1 p3), rfl, ⟨by unfold f_O_invokeInterface; rw [if_pos c_5, if_pos c_7, if_neg c_9, if_pos c_14, if_neg c_16, if_pos c_18], by unfold s_O_invokeInterface; rw [if_pos c_5, if_pos c_7, if_neg c_9, if_pos c_14, if_neg c_16, if_pos c_18]⟩, hp_at ht hP9⟩, hS.F ht⟩) hS.2.2 d_O_invokeInterface_100
            · have c_18 : ¬ ((f_M_accessOf v.2.2 (f_O_select v p4 (f_O_resolveMethod v (1 : Int32) p2 p1 p3) p3) p3) = (0 : Int32)) := c_18
              refine lv_bipush (v := (-5 : Int32)) hx hb d_O_invokeInterface_90 (by decide +kernel) ?_
              have hP9 : va_P (dC, dI) classes (wO h0 kw kf km qw qf qm v (s_O_resolveMethod v (1 : Int32) p2 p1 p3)) H := hP
              exact W.iret (v := (-5 : Int32)) hx hb hr (fun t ht hW => ⟨⟨(-5 : Int32), (s_O_resolveMethod v (1 : Int32) p2 p1 p3), rfl, ⟨by unfold f_O_invokeInterface; rw [if_pos c_5, if_pos c_7, if_neg c_9, if_pos c_14, if_neg c_16, if_neg c_18], by unfold s_O_invokeInterface; rw [if_pos c_5, if_pos c_7, if_neg c_9, if_pos c_14, if_neg c_16, if_neg c_18]⟩, hp_at ht hP9⟩, hS.F ht⟩) hS.2.2 d_O_invokeInterface_92
        · have c_14 : ¬ ((0 : Int32) < (f_O_select v p4 (f_O_resolveMethod v (1 : Int32) p2 p1 p3) p3)) := c_14
          refine lv_iload hx hb d_O_invokeInterface_64 (lv_at hl 0 rfl) ?_
          have hP9 : va_P (dC, dI) classes (wO h0 kw kf km qw qf qm v (s_O_resolveMethod v (1 : Int32) p2 p1 p3)) H := hP
          exact W.iret (v := (f_O_select v p4 (f_O_resolveMethod v (1 : Int32) p2 p1 p3) p3)) hx hb hr (fun t ht hW => ⟨⟨(f_O_select v p4 (f_O_resolveMethod v (1 : Int32) p2 p1 p3) p3), (s_O_resolveMethod v (1 : Int32) p2 p1 p3), rfl, ⟨by unfold f_O_invokeInterface; rw [if_pos c_5, if_pos c_7, if_neg c_9, if_neg c_14], by unfold s_O_invokeInterface; rw [if_pos c_5, if_pos c_7, if_neg c_9, if_neg c_14]⟩, hp_at ht hP9⟩, hS.F ht⟩) hS.2.2 d_O_invokeInterface_66
      · have c_9 : (f_W_isKindOf v.1 p4 (f_O_resolveMethod v (1 : Int32) p2 p1 p3)) = (0 : Int32) := c_9
        refine lv_bipush (v := (-6 : Int32)) hx hb d_O_invokeInterface_45 (by decide +kernel) ?_
        have hP9 : va_P (dC, dI) classes (wO h0 kw kf km qw qf qm v (s_O_resolveMethod v (1 : Int32) p2 p1 p3)) H := hP
        exact W.iret (v := (-6 : Int32)) hx hb hr (fun t ht hW => ⟨⟨(-6 : Int32), (s_O_resolveMethod v (1 : Int32) p2 p1 p3), rfl, ⟨by unfold f_O_invokeInterface; rw [if_pos c_5, if_pos c_7, if_pos c_9], by unfold s_O_invokeInterface; rw [if_pos c_5, if_pos c_7, if_pos c_9]⟩, hp_at ht hP9⟩, hS.F ht⟩) hS.2.2 d_O_invokeInterface_47
  · have c_5 : ¬ ((0 : Int32) < (f_O_resolveMethod v (1 : Int32) p2 p1 p3)) := c_5
    refine lv_iload hx hb d_O_invokeInterface_15 (lv_at hl 0 rfl) ?_
    have hP9 : va_P (dC, dI) classes (wO h0 kw kf km qw qf qm v (s_O_resolveMethod v (1 : Int32) p2 p1 p3)) H := hP
    exact W.iret (v := (f_O_resolveMethod v (1 : Int32) p2 p1 p3)) hx hb hr (fun t ht hW => ⟨⟨(f_O_resolveMethod v (1 : Int32) p2 p1 p3), (s_O_resolveMethod v (1 : Int32) p2 p1 p3), rfl, ⟨by unfold f_O_invokeInterface; rw [if_neg c_5], by unfold s_O_invokeInterface; rw [if_neg c_5]⟩, hp_at ht hP9⟩, hS.F ht⟩) hS.2.2 d_O_invokeInterface_17
