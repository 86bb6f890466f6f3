set_option maxHeartbeats 1000000 in
set_option maxRecDepth 100000 in
theorem c_O_findField (l : Launch) (dC : Nat → ClassId) (dI : Nat → Nat → Nat) (h0 : Nat) (kw kf km : Nat → ClassId) (qw qf qm : Nat → Nat) (sz : Nat) (v : ES) (lc : Int32) (p1 p2 p3 : Int32) (hw : WF v.1) (hp1 : vp_in p1 13) (hp2 : vp_in p2 13) (hp3 : vp_in p3 4) : Met l y_O_findField w_O_findField ({ frames := 3, cells := 0, slots := 0, locals := 70 } : Room) (ro_P dC dI (wO h0 kw kf km qw qf qm v lc) (tO kw kf km) sz [.ref h0, .int p1, .int p2, .int p3]) (ro_Q sz (f_O_findField v p1 p2 p3)) 0 0 (fun z => sz ≤ z) := by
  refine Met.ofW (cc := b_O_findField) (maxL := 5) (ret := (some .int)) (by decide) rfl ?_
  intro p e s m args below meth c s₁ B hml hv
  obtain ⟨rfl, hsz, hP, hK, hN⟩ := hv
  have hx := B.exec
  have hb := B.bytes
  have hr := B.returns
  have hts := tl_of (atoms_spec (ws := w_O_findField) B.pre)
  have hown : s.vm.findClass R_O = some m.cls := findClass_of_methodNamed B.named
  have hlocks := B.notSynchronized
  subst hsz
  have hA : ∀ z : Nat, s.heap.size ≤ z → (fun z : Nat => s.heap.size ≤ z) z := fun _ h => h
  have hS : va_S (fun z : Nat => s.heap.size ≤ z) s.heap s.heap [] := va_S.rf
  have hl := lv_entry ([.ref h0, .int p1, .int p2, .int p3]) (n := 5) (Nat.le_of_ble_eq_true rfl)
  rw [lg_entry_eq]
  generalize (lg_sl ([.ref h0, .int p1, .int p2, .int p3]) ++ List.replicate (5 - (lg_sl ([.ref h0, .int p1, .int p2, .int p3])).length) Slot.unset).toArray = ls at hl ⊢
  have hl : lv_has ls 5 [(0, .ref h0), (1, .int p1), (2, .int p2), (3, .int p3)] := hl
  refine lv_aload_n hx hb d_O_findField_0 rfl (lv_at hl 0 rfl) ?_
  refine va_get (D := (dC, dI)) (ci := 2) (v := .ref (qw 0)) (C := R_O) (T := F_O) (N := 4) hx hb hts i_O hown hK hP 0 rfl rfl 0 (by decide) (hts _ k_22) (fun _ h9 => h9) rfl d_O_findField_1 ?_
  refine lv_iload_n hx hb d_O_findField_4 rfl (lv_at hl 2 rfl) ?_
  refine lv_iload_n hx hb d_O_findField_5 rfl (lv_at hl 1 rfl) ?_
  have hq_1 : vp_in p2 13 := by first | with_reducible assumption | exact in_has hw (by with_reducible assumption) | exact in_cls hw (by with_reducible assumption) | exact in_ifc hw (by with_reducible assumption) | exact in_ext hw (by with_reducible assumption) | exact in_eq0 (by with_reducible assumption) | exact hfd (by with_reducible assumption) | exact in_rcv hw (by with_reducible assumption) (Or.inl (by with_reducible assumption)) | exact in_rcv hw (by with_reducible assumption) (Or.inr (by with_reducible assumption))
  have hq_2 : vp_in p1 13 := by first | with_reducible assumption | exact in_has hw (by with_reducible assumption) | exact in_cls hw (by with_reducible assumption) | exact in_ifc hw (by with_reducible assumption) | exact in_ext hw (by with_reducible assumption) | exact in_eq0 (by with_reducible assumption) | exact hfd (by with_reducible assumption) | exact in_rcv hw (by with_reducible assumption) (Or.inl (by with_reducible assumption)) | exact in_rcv hw (by with_reducible assumption) (Or.inr (by with_reducible assumption))
  refine va_calli (va_runV (As := [.int p2, .int p1]) (rest := []) ⟨hx, hb, hml, hown, hts⟩ (c_W_mayUseType l dC dI kw qw s.heap.size v.1  p2 p1 hq_1 hq_2) (cwV 2 hts k_g29 rfl rfl rfl (by decide +kernel) ⟨Nat.le_of_ble_eq_true rfl, Nat.le_of_ble_eq_true rfl⟩) ⟨fb_ro, va_recv hK hP (ci := 0) (q0 := 1) rfl rfl, fun U hU hW => ⟨rfl, by rw [hU], by rw [hU]; exact hP.sub (ws' := (wW kw qw v.1)) [1, 2, 3, 4, 5, 6, 7] rfl, va_K.moved hW.alike (hK.sub (tys' := (tW kw)) [0, 1, 2, 3, 4, 5] rfl), NX.warm hW hN⟩⟩ rfl rfl hl.1 rfl (lv_room (Nat.le_of_ble_eq_true rfl)) d_O_findField_6 ⟨Nat.zero_le _, Nat.zero_le _⟩) hS (fun z h1 h2 => absurd h1 (Nat.not_lt.mpr h2)) (fun z h => hA z (Nat.le_trans hS.1 h)) (fun r u t H1 locs ht hvm hpo hB hz1 hk1 hS => ?_)
  subst hpo
  have hP := kp_P hP hk1
  generalize H1 = H at hP hS ⊢
  refine lv_if_ne (tgt := 15) hx hb d_O_findField_9 (by decide) (fun c_3 => ?_) (fun c_3 => ?_)
  · have c_3 : ¬ ((f_W_mayUseType v.1 p2 p1) = (0 : Int32)) := c_3
    refine lv_aload_n hx hb d_O_findField_15 rfl (lv_at hl 0 rfl) ?_
    refine va_get (D := (dC, dI)) (ci := 2) (v := .ref (qw 0)) (C := R_O) (T := F_O) (N := 4) hx hb hts i_O hown hK hP 0 rfl rfl 0 (by decide) (hts _ k_22) (fun _ h9 => h9) rfl d_O_findField_16 ?_
    refine lv_iload_n hx hb d_O_findField_19 rfl (lv_at hl 2 rfl) ?_
    refine lv_aload_n hx hb d_O_findField_20 rfl (lv_at hl 0 rfl) ?_
    refine va_get (D := (dC, dI)) (ci := 2) (v := .ref (qf 0)) (C := R_O) (T := F_O) (N := 4) hx hb hts i_O hown hK hP 0 rfl rfl 1 (by decide) (hts _ k_27) (fun _ h9 => h9) rfl d_O_findField_21 ?_
    refine lv_iload_n hx hb d_O_findField_24 rfl (lv_at hl 3 rfl) ?_
    have hq_4 : vp_in p3 4 := by first | with_reducible assumption | exact in_name (by with_reducible assumption) | exact in4_4 (by with_reducible assumption) | exact in4_5 (by with_reducible assumption) | exact in4_6 (by with_reducible assumption) | exact in4_7 (by with_reducible assumption)
    refine va_calli (va_runV (As := [.int p3]) (rest := [.int p2, .ref (qw 0)]) ⟨hx, hb, hml, hown, hts⟩ (c_M_owners l dC dI kf qf H.size v.2.1  p3 hq_4) (cwV 1 hts k_g30 rfl rfl rfl (by decide +kernel) ⟨Nat.le_of_ble_eq_true rfl, Nat.le_of_ble_eq_true rfl⟩) ⟨fb_ro, va_recv hK hP (ci := 1) (q0 := 8) rfl rfl, fun U hU hW => ⟨rfl, by rw [hU], by rw [hU]; exact hP.sub (ws' := (wM kf qf v.2.1)) [8, 9, 10, 11, 12, 13] rfl, va_K.moved hW.alike (hK.sub (tys' := (tM kf)) [6, 7, 8, 9, 10] rfl), NX.warm hW hN⟩⟩ rfl rfl hl.1 rfl (lv_room (Nat.le_of_ble_eq_true rfl)) d_O_findField_25 ⟨Nat.zero_le _, Nat.zero_le _⟩) hS (fun z h1 h2 => absurd h1 (Nat.not_lt.mpr h2)) (fun z h => hA z (Nat.le_trans hS.1 h)) (fun r u t H1 locs ht hvm hpo hB hz1 hk1 hS => ?_)
    subst hpo
    have hP := kp_P hP hk1
    generalize H1 = H at hP hS ⊢
    have hq_5 : WF v.1 := by first | with_reducible assumption | exact hw
    have hq_6 : vp_in p2 13 := by first | with_reducible assumption | exact in_has hw (by with_reducible assumption) | exact in_cls hw (by with_reducible assumption) | exact in_ifc hw (by with_reducible assumption) | exact in_ext hw (by with_reducible assumption) | exact in_eq0 (by with_reducible assumption) | exact hfd (by with_reducible assumption) | exact in_rcv hw (by with_reducible assumption) (Or.inl (by with_reducible assumption)) | exact in_rcv hw (by with_reducible assumption) (Or.inr (by with_reducible assumption))
    refine va_calli (va_runV (As := [.int p2, .int (f_M_owners v.2.1 p3)]) (rest := []) ⟨hx, hb, hml, hown, hts⟩ (c_W_search l dC dI kw qw H.size v.1  p2 (f_M_owners v.2.1 p3) hq_5 hq_6) (cwV 2 hts k_g31 rfl rfl rfl (by decide +kernel) ⟨Nat.le_of_ble_eq_true rfl, Nat.le_of_ble_eq_true rfl⟩) ⟨fb_ro, va_recv hK hP (ci := 0) (q0 := 1) rfl rfl, fun U hU hW => ⟨rfl, by rw [hU], by rw [hU]; exact hP.sub (ws' := (wW kw qw v.1)) [1, 2, 3, 4, 5, 6, 7] rfl, va_K.moved hW.alike (hK.sub (tys' := (tW kw)) [0, 1, 2, 3, 4, 5] rfl), NX.warm hW hN⟩⟩ rfl rfl hl.1 rfl (lv_room (Nat.le_of_ble_eq_true rfl)) d_O_findField_28 ⟨Nat.zero_le _, Nat.zero_le _⟩) hS (fun z h1 h2 => absurd h1 (Nat.not_lt.mpr h2)) (fun z h => hA z (Nat.le_trans hS.1 h)) (fun r u t H1 locs ht hvm hpo hB hz1 hk1 hS => ?_)
    subst hpo
    have hP := kp_P hP hk1
    generalize H1 = H at hP hS ⊢
    refine lv_istore (lv' := [(4, .int (f_W_search v.1 p2 (f_M_owners v.2.1 p3))), (0, .ref h0), (1, .int p1), (2, .int p2), (3, .int p3)]) hx hb d_O_findField_31 hl (by decide) rfl (fun ls hl => ?_)
    refine lv_iload hx hb d_O_findField_33 (lv_at hl 0 rfl) ?_
    refine lv_if_ne (tgt := 43) hx hb d_O_findField_35 (by decide) (fun c_7 => ?_) (fun c_7 => ?_)
    · have c_7 : ¬ ((f_W_search v.1 p2 (f_M_owners v.2.1 p3)) = (0 : Int32)) := c_7
      refine lv_iload hx hb d_O_findField_43 (lv_at hl 0 rfl) ?_
      exact W.iret (v := (f_W_search v.1 p2 (f_M_owners v.2.1 p3))) hx hb hr (fun t ht hW => ⟨⟨(f_W_search v.1 p2 (f_M_owners v.2.1 p3)), (), rfl, by unfold f_O_findField; rw [if_neg c_3, if_neg c_7], trivial⟩, hS.F ht⟩) hS.2.2 d_O_findField_45
    · have c_7 : (f_W_search v.1 p2 (f_M_owners v.2.1 p3)) = (0 : Int32) := c_7
      refine lv_bipush (v := (-3 : Int32)) hx hb d_O_findField_38 (by decide +kernel) ?_
      refine lv_goto (tgt := 45) hx hb d_O_findField_40 (by decide) ?_
      exact W.iret (v := (-3 : Int32)) hx hb hr (fun t ht hW => ⟨⟨(-3 : Int32), (), rfl, by unfold f_O_findField; rw [if_neg c_3, if_pos c_7], trivial⟩, hS.F ht⟩) hS.2.2 d_O_findField_45
  · have c_3 : (f_W_mayUseType v.1 p2 p1) = (0 : Int32) := c_3
    refine lv_bipush (v := (-5 : Int32)) hx hb d_O_findField_12 (by decide +kernel) ?_
    exact W.iret (v := (-5 : Int32)) hx hb hr (fun t ht hW => ⟨⟨(-5 : Int32), (), rfl, by unfold f_O_findField; rw [if_pos c_3], trivial⟩, hS.F ht⟩) hS.2.2 d_O_findField_14
