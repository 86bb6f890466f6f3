set_option maxHeartbeats 1000000 in
set_option maxRecDepth 100000 in
theorem c_O_admitted_m (l : Launch) (dC : Nat → ClassId) (dI : Nat → Nat → Nat) (h0 : Nat) (kw kf km : Nat → ClassId) (qw qf qm : Nat → Nat) (sz : Nat) (v : ES) (lc : Int32) (p2 p3 p4 : Int32) (hfd : (0 : Int32) < p2 → vp_in p2 13) (hp3 : vp_in p3 4) (hp4 : vp_in p4 13) : Met l y_O_admitted w_O_admitted ({ frames := 3, cells := 0, slots := 0, locals := 66 } : Room) (ro_P dC dI (wO h0 kw kf km qw qf qm v lc) (tO kw kf km) sz [.ref h0, .ref (qm 0), .int p2, .int p3, .int p4]) (ro_Q sz (f_O_admitted_m v p2 p3 p4)) 0 0 (fun z => sz ≤ z) := by
  refine Met.ofW (cc := b_O_admitted) (maxL := 5) (ret := (some .int)) (by decide) rfl ?_
  intro p e s m args below meth c s₁ B hml hv
  obtain ⟨rfl, hsz, hP, hK, hN⟩ := hv
  have hx := B.exec
  have hb := B.bytes
  have hr := B.returns
  have hts := tl_of (atoms_spec (ws := w_O_admitted) B.pre)
  have hown : s.vm.findClass R_O = some m.cls := findClass_of_methodNamed B.named
  have hlocks := B.notSynchronized
  subst hsz
  have hA : ∀ z : Nat, s.heap.size ≤ z → (fun z : Nat => s.heap.size ≤ z) z := fun _ h => h
  have hS : va_S (fun z : Nat => s.heap.size ≤ z) s.heap s.heap [] := va_S.rf
  have hl := lv_entry ([.ref h0, .ref (qm 0), .int p2, .int p3, .int p4]) (n := 5) (Nat.le_of_ble_eq_true rfl)
  rw [lg_entry_eq]
  generalize (lg_sl ([.ref h0, .ref (qm 0), .int p2, .int p3, .int p4]) ++ List.replicate (5 - (lg_sl ([.ref h0, .ref (qm 0), .int p2, .int p3, .int p4])).length) Slot.unset).toArray = ls at hl ⊢
  have hl : lv_has ls 5 [(0, .ref h0), (1, .ref (qm 0)), (2, .int p2), (3, .int p3), (4, .int p4)] := hl
  refine lv_iload_n hx hb d_O_admitted_0 rfl (lv_at hl 2 rfl) ?_
  refine lv_if_gt (tgt := 6) hx hb d_O_admitted_1 (by decide) (fun c_1 => ?_) (fun c_1 => ?_)
  · have c_1 : (0 : Int32) < p2 := c_1
    refine lv_aload_n hx hb d_O_admitted_6 rfl (lv_at hl 0 rfl) ?_
    refine lv_iload_n hx hb d_O_admitted_7 rfl (lv_at hl 2 rfl) ?_
    refine lv_aload_n hx hb d_O_admitted_8 rfl (lv_at hl 1 rfl) ?_
    refine lv_iload_n hx hb d_O_admitted_9 rfl (lv_at hl 2 rfl) ?_
    refine lv_iload_n hx hb d_O_admitted_10 rfl (lv_at hl 3 rfl) ?_
    have hq_2 : vp_in ((p2 * (4 : Int32)) + p3) 52 := by first | with_reducible assumption | exact in_52 (by first | with_reducible assumption | exact in_has hw (by with_reducible assumption) | exact in_cls hw (by with_reducible assumption) | exact in_ifc hw (by with_reducible assumption) | exact in_ext hw (by with_reducible assumption) | exact in_eq0 (by with_reducible assumption) | exact hfd (by with_reducible assumption) | exact in_rcv hw (by with_reducible assumption) (Or.inl (by with_reducible assumption)) | exact in_rcv hw (by with_reducible assumption) (Or.inr (by with_reducible assumption))) (by first | with_reducible assumption | exact in_name (by with_reducible assumption) | exact in4_4 (by with_reducible assumption) | exact in4_5 (by with_reducible assumption) | exact in4_6 (by with_reducible assumption) | exact in4_7 (by with_reducible assumption))
    refine va_calli (va_runV (As := [.int p2, .int p3]) (rest := [.int p2, .ref h0]) ⟨hx, hb, hml, hown, hts⟩ (c_M_accessOf l dC dI km qm s.heap.size v.2.2  p2 p3 hq_2) (cwV 2 hts k_g17 rfl rfl rfl (by decide +kernel) ⟨Nat.le_of_ble_eq_true rfl, Nat.le_of_ble_eq_true rfl⟩) ⟨fb_ro, va_recv hK hP (ci := 1) (q0 := 14) rfl rfl, fun U hU hW => ⟨rfl, by rw [hU], by rw [hU]; exact hP.sub (ws' := (wM km qm v.2.2)) [14, 15, 16, 17, 18, 19] rfl, va_K.moved hW.alike (hK.sub (tys' := (tM km)) [11, 12, 13, 14, 15] rfl), NX.warm hW hN⟩⟩ rfl rfl hl.1 rfl (lv_room (Nat.le_of_ble_eq_true rfl)) d_O_admitted_11 ⟨Nat.zero_le _, Nat.zero_le _⟩) hS (fun z h1 h2 => absurd h1 (Nat.not_lt.mpr h2)) (fun z h => hA z (Nat.le_trans hS.1 h)) (fun r u t H1 locs ht hvm hpo hB hz1 hk1 hS => ?_)
    subst hpo
    have hP := kp_P hP hk1
    generalize H1 = H at hP hS ⊢
    refine lv_iload hx hb d_O_admitted_14 (lv_at hl 4 rfl) ?_
    have hq_3 : vp_in p2 13 := by first | with_reducible assumption | exact in_has hw (by with_reducible assumption) | exact in_cls hw (by with_reducible assumption) | exact in_ifc hw (by with_reducible assumption) | exact in_ext hw (by with_reducible assumption) | exact in_eq0 (by with_reducible assumption) | exact hfd (by with_reducible assumption) | exact in_rcv hw (by with_reducible assumption) (Or.inl (by with_reducible assumption)) | exact in_rcv hw (by with_reducible assumption) (Or.inr (by with_reducible assumption))
    have hq_4 : vp_in p4 13 := by first | with_reducible assumption | exact in_has hw (by with_reducible assumption) | exact in_cls hw (by with_reducible assumption) | exact in_ifc hw (by with_reducible assumption) | exact in_ext hw (by with_reducible assumption) | exact in_eq0 (by with_reducible assumption) | exact hfd (by with_reducible assumption) | exact in_rcv hw (by with_reducible assumption) (Or.inl (by with_reducible assumption)) | exact in_rcv hw (by with_reducible assumption) (Or.inr (by with_reducible assumption))
    refine va_calli (va_runV (As := [.int p2, .int (f_M_accessOf v.2.2 p2 p3), .int p4]) (rest := []) ⟨hx, hb, hml, hown, hts⟩ (c_O_mayUseMember l dC dI h0 kw kf km qw qf qm H.size v lc p2 (f_M_accessOf v.2.2 p2 p3) p4 hq_3 hq_4) (cwV 3 hts k_g28 rfl rfl rfl (by decide +kernel) ⟨Nat.le_of_ble_eq_true rfl, Nat.le_of_ble_eq_true rfl⟩) ⟨fb_ro, va_recv hK hP (ci := 2) (q0 := 0) rfl rfl, fun U hU hW => ⟨rfl, by rw [hU], by rw [hU]; exact hP.sub (ws' := (wO h0 kw kf km qw qf qm v lc)) [0, 1, 2, 3, 4, 5, 6, 7, 8, 9, 10, 11, 12, 13, 14, 15, 16, 17, 18, 19] rfl, va_K.moved hW.alike (hK.sub (tys' := (tO kw kf km)) [0, 1, 2, 3, 4, 5, 6, 7, 8, 9, 10, 11, 12, 13, 14, 15] rfl), NX.warm hW hN⟩⟩ rfl rfl hl.1 rfl (lv_room (Nat.le_of_ble_eq_true rfl)) d_O_admitted_16 ⟨Nat.zero_le _, Nat.zero_le _⟩) hS (fun z h1 h2 => absurd h1 (Nat.not_lt.mpr h2)) (fun z h => hA z (Nat.le_trans hS.1 h)) (fun r u t H1 locs ht hvm hpo hB hz1 hk1 hS => ?_)
    subst hpo
    have hP := kp_P hP hk1
    generalize H1 = H at hP hS ⊢
    refine lv_if_eq (tgt := 26) hx hb d_O_admitted_19 (by decide) (fun c_5 => ?_) (fun c_5 => ?_)
    · have c_5 : (f_O_mayUseMember v p2 (f_M_accessOf v.2.2 p2 p3) p4) = (0 : Int32) := c_5
      refine lv_bipush (v := (-5 : Int32)) hx hb d_O_admitted_26 (by decide +kernel) ?_
      exact W.iret (v := (-5 : Int32)) hx hb hr (fun t ht hW => ⟨⟨(-5 : Int32), (), rfl, by unfold f_O_admitted_m; rw [if_pos c_1, if_pos c_5], trivial⟩, hS.F ht⟩) hS.2.2 d_O_admitted_28
    · have c_5 : ¬ ((f_O_mayUseMember v p2 (f_M_accessOf v.2.2 p2 p3) p4) = (0 : Int32)) := c_5
      refine lv_iload_n hx hb d_O_admitted_22 rfl (lv_at hl 2 rfl) ?_
      refine lv_goto (tgt := 28) hx hb d_O_admitted_23 (by decide) ?_
      exact W.iret (v := p2) hx hb hr (fun t ht hW => ⟨⟨p2, (), rfl, by unfold f_O_admitted_m; rw [if_pos c_1, if_neg c_5], trivial⟩, hS.F ht⟩) hS.2.2 d_O_admitted_28
  · have c_1 : ¬ ((0 : Int32) < p2) := c_1
    refine lv_iload_n hx hb d_O_admitted_4 rfl (lv_at hl 2 rfl) ?_
    exact W.iret (v := p2) hx hb hr (fun t ht hW => ⟨⟨p2, (), rfl, by unfold f_O_admitted_m; rw [if_neg c_1], trivial⟩, hS.F ht⟩) hS.2.2 d_O_admitted_5
