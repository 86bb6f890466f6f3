set_option maxHeartbeats 1000000 in
set_option maxRecDepth 100000 in
theorem c_O_invokeStatic (l : Launch) (dC : Nat → ClassId) (dI : Nat → Nat → Nat) (h0 : Nat) (kw kf km : Nat → ClassId) (qw qf qm : Nat → Nat) (sz : Nat) (v : ES) (lc : Int32) (p1 p2 p3 : Int32) (hw : WF v.1) (hp1 : vp_in p1 13) (hp2 : vp_in p2 13) (hp3 : vp_in p3 4) : Met l y_O_invokeStatic w_O_invokeStatic ({ frames := 5, cells := 0, slots := 0, locals := 117 } : Room) (mu_P dC dI (wO h0 kw kf km qw qf qm v lc) (tO kw kf km) sz [.ref h0, .int p1, .int p2, .int p3]) (mu_Q (fun (S9 : Int32) => (wO h0 kw kf km qw qf qm v S9)) dC dI (f_O_invokeStatic v p1 p2 p3) (s_O_invokeStatic v p1 p2 p3) (va_A (wO h0 kw kf km qw qf qm v lc) sz)) 0 0 (va_A (wO h0 kw kf km qw qf qm v lc) sz) := by
  refine Met.ofW (cc := b_O_invokeStatic) (maxL := 5) (ret := (some .int)) (by decide) rfl ?_
  intro p e s m args below meth c s₁ B hml hv
  obtain ⟨rfl, hsz, hP, hK, hN, hD0⟩ := hv
  have hx := B.exec
  have hb := B.bytes
  have hr := B.returns
  have hts := tl_of (atoms_spec (ws := w_O_invokeStatic) B.pre)
  have hown : s.vm.findClass R_O = some m.cls := findClass_of_methodNamed B.named
  have hlocks := B.notSynchronized
  subst hsz
  have hD := hD0.self (sz := s.heap.size)
  generalize hAe : va_A (wO h0 kw kf km qw qf qm v lc) s.heap.size = A at hD ⊢
  have hA : ∀ q : Nat, s.heap.size ≤ q → A q := fun q h => by rw [← hAe]; exact Or.inr h
  have hS : va_S A s.heap s.heap [] := va_S.rf
  have hl := lv_entry ([.ref h0, .int p1, .int p2, .int p3]) (n := 5) (Nat.le_of_ble_eq_true rfl)
  rw [lg_entry_eq]
  generalize (lg_sl ([.ref h0, .int p1, .int p2, .int p3]) ++ List.replicate (5 - (lg_sl ([.ref h0, .int p1, .int p2, .int p3])).length) Slot.unset).toArray = ls at hl ⊢
  have hl : lv_has ls 5 [(0, .ref h0), (1, .int p1), (2, .int p2), (3, .int p3)] := hl
  refine lv_aload_n hx hb d_O_invokeStatic_0 rfl (lv_at hl 0 rfl) ?_
  refine lv_aload_n hx hb d_O_invokeStatic_1 rfl (lv_at hl 0 rfl) ?_
  refine va_get (D := (dC, dI)) (ci := 2) (v := .ref (qw 0)) (C := R_O) (T := F_O) (N := 4) hx hb hts i_O hown hK hP 0 rfl rfl 0 (by decide) (hts _ k_22) (fun _ h9 => h9) rfl d_O_invokeStatic_2 ?_
  refine lv_iload_n hx hb d_O_invokeStatic_5 rfl (lv_at hl 1 rfl) ?_
  refine va_calli (va_runV (As := [.int p1]) (rest := [.ref h0]) ⟨hx, hb, hml, hown, hts⟩ (c_W_isInterface l dC dI kw qw s.heap.size v.1  p1) (cwV 1 hts k_g33 rfl rfl rfl (by decide +kernel) ⟨Nat.le_of_ble_eq_true rfl, Nat.le_of_ble_eq_true rfl⟩) ⟨fb_ro, va_recv hK hP (ci := 0) (q0 := 1) rfl rfl, fun U hU hW => ⟨rfl, by rw [hU], by rw [hU]; exact hP.sub (ws' := (wW kw qw v.1)) [1, 2, 3, 4, 5, 6, 7] rfl, va_K.moved hW.alike (hK.sub (tys' := (tW kw)) [0, 1, 2, 3, 4, 5] rfl), NX.warm hW hN⟩⟩ rfl rfl hl.1 rfl (lv_room (Nat.le_of_ble_eq_true rfl)) d_O_invokeStatic_6 ⟨Nat.zero_le _, Nat.zero_le _⟩) hS (fun z h1 h2 => absurd h1 (Nat.not_lt.mpr h2)) (fun z h => hA z (Nat.le_trans hS.1 h)) (fun r u t H1 locs ht hvm hpo hB hz1 hk1 hS => ?_)
  subst hpo
  have hP := kp_P hP hk1
  generalize H1 = H at hP hS ⊢
  refine lv_iload_n hx hb d_O_invokeStatic_9 rfl (lv_at hl 2 rfl) ?_
  refine lv_iload_n hx hb d_O_invokeStatic_10 rfl (lv_at hl 1 rfl) ?_
  refine lv_iload_n hx hb d_O_invokeStatic_11 rfl (lv_at hl 3 rfl) ?_
  have hq_1 : WF v.1 := by first | with_reducible assumption | exact hw
  have hq_2 : vp_in p2 13 := by first | with_reducible assumption | exact in_has hw (by with_reducible assumption) | exact in_cls hw (by with_reducible assumption) | exact in_ifc hw (by with_reducible assumption) | exact in_ext hw (by with_reducible assumption) | exact in_eq0 (by with_reducible assumption) | exact hfd (by with_reducible assumption) | exact in_rcv hw (by with_reducible assumption) (Or.inl (by with_reducible assumption)) | exact in_rcv hw (by with_reducible assumption) (Or.inr (by with_reducible assumption))
  have hq_3 : vp_in p1 13 := by first | with_reducible assumption | exact in_has hw (by with_reducible assumption) | exact in_cls hw (by with_reducible assumption) | exact in_ifc hw (by with_reducible assumption) | exact in_ext hw (by with_reducible assumption) | exact in_eq0 (by with_reducible assumption) | exact hfd (by with_reducible assumption) | exact in_rcv hw (by with_reducible assumption) (Or.inl (by with_reducible assumption)) | exact in_rcv hw (by with_reducible assumption) (Or.inr (by with_reducible assumption))
  have hq_4 : vp_in p3 4 := by first | with_reducible assumption | exact in_name (by with_reducible assumption) | exact in4_4 (by with_reducible assumption) | exact in4_5 (by with_reducible assumption) | exact in4_6 (by with_reducible assumption) | exact in4_7 (by with_reducible assumption)
  have hPc := hP.sub (ws' := (wO h0 kw kf km qw qf qm v lc)) [0, 1, 2, 3, 4, 5, 6, 7, 8, 9, 10, 11, 12, 13, 14, 15, 16, 17, 18, 19] rfl
  have hDc := hD.sub (ws' := (wO h0 kw kf km qw qf qm v lc)) [0, 1, 2, 3, 4, 5, 6, 7, 8, 9, 10, 11, 12, 13, 14, 15, 16, 17, 18, 19] (by decide) rfl
  have hFc := va_free (wc := (wO h0 kw kf km qw qf qm v lc)) hD hS hA [0, 1, 2, 3, 4, 5, 6, 7, 8, 9, 10, 11, 12, 13, 14, 15, 16, 17, 18, 19] rfl
  refine va_calli (va_runV (As := [.int (f_W_isInterface v.1 p1), .int p2, .int p1, .int p3]) (rest := []) ⟨hx, hb, hml, hown, hts⟩ (c_O_resolveMethod l dC dI h0 kw kf km qw qf qm H.size v lc (f_W_isInterface v.1 p1) p2 p1 p3 hq_1 hq_2 hq_3 hq_4) (cwV 4 hts k_g36 rfl rfl rfl (by decide +kernel) ⟨Nat.le_of_ble_eq_true rfl, Nat.le_of_ble_eq_true rfl⟩) ⟨fb_mu, va_recv hK hP (ci := 2) (q0 := 0) rfl rfl, fun U hU hW => ⟨rfl, by rw [hU], by rw [hU]; exact hPc, va_K.moved hW.alike (hK.sub (tys' := (tO kw kf km)) [0, 1, 2, 3, 4, 5, 6, 7, 8, 9, 10, 11, 12, 13, 14, 15] rfl), NX.warm hW hN, hDc.weaken (fun _ _ _ _ => trivial)⟩⟩ rfl rfl hl.1 rfl (lv_room (Nat.le_of_ble_eq_true rfl)) d_O_invokeStatic_12 ⟨Nat.zero_le _, Nat.zero_le _⟩) hS (fun q _ h => hFc q h) hFc (fun r u t H1 locs ht hvm hpo hB hz1 hk1 hS => ?_)
  obtain ⟨rfl, rfl⟩ := hpo
  have hB : va_P (dC, dI) classes (wO h0 kw kf km qw qf qm v (s_O_resolveMethod v (f_W_isInterface v.1 p1) p2 p1 p3)) H1 := hp_to ht hB
  obtain ⟨hP, hD⟩ := va_join (wr := ([] : va_W)) (w1 := (wO h0 kw kf km qw qf qm v (s_O_resolveMethod v (f_W_isInterface v.1 p1) p2 p1 p3))) hP hD [0, 1, 2, 3, 4, 5, 6, 7, 8, 9, 10, 11, 12, 13, 14, 15, 16, 17, 18, 19] [] rfl rfl (by decide) (by decide) hk1 hFc hB (ad_D hDc.self rfl)
  have hP := hP.sub (ws' := (wO h0 kw kf km qw qf qm v (s_O_resolveMethod v (f_W_isInterface v.1 p1) p2 p1 p3))) [0, 1, 2, 3, 4, 5, 6, 7, 8, 9, 10, 11, 12, 13, 14, 15, 16, 17, 18, 19] rfl
  have hD := hD.sub (ws' := (wO h0 kw kf km qw qf qm v (s_O_resolveMethod v (f_W_isInterface v.1 p1) p2 p1 p3))) [0, 1, 2, 3, 4, 5, 6, 7, 8, 9, 10, 11, 12, 13, 14, 15, 16, 17, 18, 19] (by decide) rfl
  generalize H1 = H at hP hS ⊢
  refine lv_istore (lv' := [(4, .int (f_O_resolveMethod v (f_W_isInterface v.1 p1) p2 p1 p3)), (0, .ref h0), (1, .int p1), (2, .int p2), (3, .int p3)]) hx hb d_O_invokeStatic_15 hl (by decide) rfl (fun ls hl => ?_)
  refine lv_iload hx hb d_O_invokeStatic_17 (lv_at hl 0 rfl) ?_
  refine lv_if_le (tgt := 38) hx hb d_O_invokeStatic_19 (by decide) (fun c_5 => ?_) (fun c_5 => ?_)
  · have c_5 : (f_O_resolveMethod v (f_W_isInterface v.1 p1) p2 p1 p3) ≤ (0 : Int32) := c_5
    refine lv_iload hx hb d_O_invokeStatic_38 (lv_at hl 0 rfl) ?_
    have hP9 : va_P (dC, dI) classes (wO h0 kw kf km qw qf qm v (s_O_resolveMethod v (f_W_isInterface v.1 p1) p2 p1 p3)) H := hP
    exact W.iret (v := (f_O_resolveMethod v (f_W_isInterface v.1 p1) p2 p1 p3)) hx hb hr (fun t ht hW => ⟨⟨(f_O_resolveMethod v (f_W_isInterface v.1 p1) p2 p1 p3), (s_O_resolveMethod v (f_W_isInterface v.1 p1) p2 p1 p3), rfl, ⟨by unfold f_O_invokeStatic; rw [if_pos c_5], by unfold s_O_invokeStatic; rw [if_pos c_5]⟩, hp_at ht hP9⟩, hS.F ht⟩) hS.2.2 d_O_invokeStatic_40
  · have c_5 : ¬ ((f_O_resolveMethod v (f_W_isInterface v.1 p1) p2 p1 p3) ≤ (0 : Int32)) := c_5
    refine lv_aload_n hx hb d_O_invokeStatic_22 rfl (lv_at hl 1 rfl) ?_
    refine va_get (D := (dC, dI)) (ci := 2) (v := .ref (qm 0)) (C := R_O) (T := F_O) (N := 4) hx hb hts i_O hown hK hP 0 rfl rfl 2 (by decide) (hts _ k_23) (fun _ h9 => h9) rfl d_O_invokeStatic_23 ?_
    refine lv_iload hx hb d_O_invokeStatic_26 (lv_at hl 0 rfl) ?_
    refine lv_iload_n hx hb d_O_invokeStatic_28 rfl (lv_at hl 4 rfl) ?_
    have hq_6 : vp_in p3 4 := by first | with_reducible assumption | exact in_name (by with_reducible assumption) | exact in4_4 (by with_reducible assumption) | exact in4_5 (by with_reducible assumption) | exact in4_6 (by with_reducible assumption) | exact in4_7 (by with_reducible assumption)
    refine va_calli (va_runV (As := [.int (f_O_resolveMethod v (f_W_isInterface v.1 p1) p2 p1 p3), .int p3]) (rest := []) ⟨hx, hb, hml, hown, hts⟩ (c_M_isStatic l dC dI km qm H.size v.2.2  (f_O_resolveMethod v (f_W_isInterface v.1 p1) p2 p1 p3) p3 hq_6) (cwV 2 hts k_g37 rfl rfl rfl (by decide +kernel) ⟨Nat.le_of_ble_eq_true rfl, Nat.le_of_ble_eq_true rfl⟩) ⟨fb_ro, va_recv hK hP (ci := 1) (q0 := 14) rfl rfl, fun U hU hW => ⟨rfl, by rw [hU], by rw [hU]; exact hP.sub (ws' := (wM km qm v.2.2)) [14, 15, 16, 17, 18, 19] rfl, va_K.moved hW.alike (hK.sub (tys' := (tM km)) [11, 12, 13, 14, 15] rfl), NX.warm hW hN⟩⟩ rfl rfl hl.1 rfl (lv_room (Nat.le_of_ble_eq_true rfl)) d_O_invokeStatic_29 ⟨Nat.zero_le _, Nat.zero_le _⟩) hS (fun z h1 h2 => absurd h1 (Nat.not_lt.mpr h2)) (fun z h => hA z (Nat.le_trans hS.1 h)) (fun r u t H1 locs ht hvm hpo hB hz1 hk1 hS => ?_)
    subst hpo
    have hP := kp_P hP hk1
    generalize H1 = H at hP hS ⊢
    refine lv_if_ne (tgt := 38) hx hb d_O_invokeStatic_32 (by decide) (fun c_7 => ?_) (fun c_7 => ?_)
    · have c_7 : ¬ ((f_M_isStatic v.2.2 (f_O_resolveMethod v (f_W_isInterface v.1 p1) p2 p1 p3) p3) = (0 : Int32)) := c_7
      refine lv_iload hx hb d_O_invokeStatic_38 (lv_at hl 0 rfl) ?_
      have hP9 : va_P (dC, dI) classes (wO h0 kw kf km qw qf qm v (s_O_resolveMethod v (f_W_isInterface v.1 p1) p2 p1 p3)) H := hP
      exact W.iret (v := (f_O_resolveMethod v (f_W_isInterface v.1 p1) p2 p1 p3)) hx hb hr (fun t ht hW => ⟨⟨(f_O_resolveMethod v (f_W_isInterface v.1 p1) p2 p1 p3), (s_O_resolveMethod v (f_W_isInterface v.1 p1) p2 p1 p3), rfl, ⟨by unfold f_O_invokeStatic; rw [if_neg c_5, if_neg c_7], by unfold s_O_invokeStatic; rw [if_neg c_5, if_neg c_7]⟩, hp_at ht hP9⟩, hS.F ht⟩) hS.2.2 d_O_invokeStatic_40
    · have c_7 : (f_M_isStatic v.2.2 (f_O_resolveMethod v (f_W_isInterface v.1 p1) p2 p1 p3) p3) = (0 : Int32) := c_7
      refine lv_bipush (v := (-6 : Int32)) hx hb d_O_invokeStatic_35 (by decide +kernel) ?_
      have hP9 : va_P (dC, dI) classes (wO h0 kw kf km qw qf qm v (s_O_resolveMethod v (f_W_isInterface v.1 p1) p2 p1 p3)) H := hP
      exact W.iret (v := (-6 : Int32)) hx hb hr (fun t ht hW => ⟨⟨(-6 : Int32), (s_O_resolveMethod v (f_W_isInterface v.1 p1) p2 p1 p3), rfl, ⟨by unfold f_O_invokeStatic; rw [if_neg c_5, if_pos c_7], by unfold s_O_invokeStatic; rw [if_neg c_5, if_pos c_7]⟩, hp_at ht hP9⟩, hS.F ht⟩) hS.2.2 d_O_invokeStatic_37
