set_option maxHeartbeats 1000000 in
set_option maxRecDepth 100000 in
theorem c_O_use (l : Launch) (dC : Nat → ClassId) (dI : Nat → Nat → Nat) (h0 : Nat) (kw kf km : Nat → ClassId) (qw qf qm : Nat → Nat) (sz : Nat) (v : ES) (lc : Int32) (p1 p2 p3 p4 : Int32) (hw : WF v.1) : Met l y_O_use w_O_use ({ frames := 4, cells := 0, slots := 0, locals := 94 } : Room) (ro_P dC dI (wO h0 kw kf km qw qf qm v lc) (tO kw kf km) sz [.ref h0, .int p1, .int p2, .int p3, .int p4]) (ro_Q sz (f_O_use v p1 p2 p3 p4)) 0 0 (fun z => sz ≤ z) := by
  refine Met.ofW (cc := b_O_use) (maxL := 6) (ret := (some .int)) (by decide) rfl ?_
  intro p e s m args below meth c s₁ B hml hv
  obtain ⟨rfl, hsz, hP, hK, hN⟩ := hv
  have hx := B.exec
  have hb := B.bytes
  have hr := B.returns
  have hts := tl_of (atoms_spec (ws := w_O_use) B.pre)
  have hown : s.vm.findClass R_O = some m.cls := findClass_of_methodNamed B.named
  have hlocks := B.notSynchronized
  subst hsz
  have hA : ∀ z : Nat, s.heap.size ≤ z → (fun z : Nat => s.heap.size ≤ z) z := fun _ h => h
  have hS : va_S (fun z : Nat => s.heap.size ≤ z) s.heap s.heap [] := va_S.rf
  have hl := lv_entry ([.ref h0, .int p1, .int p2, .int p3, .int p4]) (n := 6) (Nat.le_of_ble_eq_true rfl)
  rw [lg_entry_eq]
  generalize (lg_sl ([.ref h0, .int p1, .int p2, .int p3, .int p4]) ++ List.replicate (6 - (lg_sl ([.ref h0, .int p1, .int p2, .int p3, .int p4])).length) Slot.unset).toArray = ls at hl ⊢
  have hl : lv_has ls 6 [(0, .ref h0), (1, .int p1), (2, .int p2), (3, .int p3), (4, .int p4)] := hl
  refine lv_aload_n hx hb d_O_use_0 rfl (lv_at hl 0 rfl) ?_
  refine va_get (D := (dC, dI)) (ci := 2) (v := .ref (qw 0)) (C := R_O) (T := F_O) (N := 4) hx hb hts i_O hown hK hP 0 rfl rfl 0 (by decide) (hts _ k_22) (fun _ h9 => h9) rfl d_O_use_1 ?_
  refine lv_iload_n hx hb d_O_use_4 rfl (lv_at hl 1 rfl) ?_
  refine va_calli (va_runV (As := [.int p1]) (rest := []) ⟨hx, hb, hml, hown, hts⟩ (c_W_has l dC dI kw qw s.heap.size v.1  p1) (cwV 1 hts k_g41 rfl rfl rfl (by decide +kernel) ⟨Nat.le_of_ble_eq_true rfl, Nat.le_of_ble_eq_true rfl⟩) ⟨fb_ro, va_recv hK hP (ci := 0) (q0 := 1) rfl rfl, fun U hU hW => ⟨rfl, by rw [hU], by rw [hU]; exact hP.sub (ws' := (wW kw qw v.1)) [1, 2, 3, 4, 5, 6, 7] rfl, va_K.moved hW.alike (hK.sub (tys' := (tW kw)) [0, 1, 2, 3, 4, 5] rfl), NX.warm hW hN⟩⟩ rfl rfl hl.1 rfl (lv_room (Nat.le_of_ble_eq_true rfl)) d_O_use_5 ⟨Nat.zero_le _, Nat.zero_le _⟩) hS (fun z h1 h2 => absurd h1 (Nat.not_lt.mpr h2)) (fun z h => hA z (Nat.le_trans hS.1 h)) (fun r u t H1 locs ht hvm hpo hB hz1 hk1 hS => ?_)
  subst hpo
  have hP := kp_P hP hk1
  generalize H1 = H at hP hS ⊢
  refine lv_if_eq (tgt := 29) hx hb d_O_use_8 (by decide) (fun c_1 => ?_) (fun c_1 => ?_)
  · have c_1 : (f_W_has v.1 p1) = (0 : Int32) := c_1
    refine lv_iconst (v := (-1 : Int32)) hx hb d_O_use_29 (by decide +kernel) ?_
    exact W.iret (v := (-1 : Int32)) hx hb hr (fun t ht hW => ⟨⟨(-1 : Int32), (), rfl, by unfold f_O_use; rw [if_pos c_1], trivial⟩, hS.F ht⟩) hS.2.2 d_O_use_30
  · have c_1 : ¬ ((f_W_has v.1 p1) = (0 : Int32)) := c_1
    refine lv_aload_n hx hb d_O_use_11 rfl (lv_at hl 0 rfl) ?_
    refine va_get (D := (dC, dI)) (ci := 2) (v := .ref (qw 0)) (C := R_O) (T := F_O) (N := 4) hx hb hts i_O hown hK hP 0 rfl rfl 0 (by decide) (hts _ k_22) (fun _ h9 => h9) rfl d_O_use_12 ?_
    refine lv_iload_n hx hb d_O_use_15 rfl (lv_at hl 2 rfl) ?_
    refine va_calli (va_runV (As := [.int p2]) (rest := []) ⟨hx, hb, hml, hown, hts⟩ (c_W_has l dC dI kw qw H.size v.1  p2) (cwV 1 hts k_g41 rfl rfl rfl (by decide +kernel) ⟨Nat.le_of_ble_eq_true rfl, Nat.le_of_ble_eq_true rfl⟩) ⟨fb_ro, va_recv hK hP (ci := 0) (q0 := 1) rfl rfl, fun U hU hW => ⟨rfl, by rw [hU], by rw [hU]; exact hP.sub (ws' := (wW kw qw v.1)) [1, 2, 3, 4, 5, 6, 7] rfl, va_K.moved hW.alike (hK.sub (tys' := (tW kw)) [0, 1, 2, 3, 4, 5] rfl), NX.warm hW hN⟩⟩ rfl rfl hl.1 rfl (lv_room (Nat.le_of_ble_eq_true rfl)) d_O_use_16 ⟨Nat.zero_le _, Nat.zero_le _⟩) hS (fun z h1 h2 => absurd h1 (Nat.not_lt.mpr h2)) (fun z h => hA z (Nat.le_trans hS.1 h)) (fun r u t H1 locs ht hvm hpo hB hz1 hk1 hS => ?_)
    subst hpo
    have hP := kp_P hP hk1
    generalize H1 = H at hP hS ⊢
    refine lv_if_eq (tgt := 29) hx hb d_O_use_19 (by decide) (fun c_2 => ?_) (fun c_2 => ?_)
    · have c_2 : (f_W_has v.1 p2) = (0 : Int32) := c_2
      refine lv_iconst (v := (-1 : Int32)) hx hb d_O_use_29 (by decide +kernel) ?_
      exact W.iret (v := (-1 : Int32)) hx hb hr (fun t ht hW => ⟨⟨(-1 : Int32), (), rfl, by unfold f_O_use; rw [if_neg c_1, if_pos c_2], trivial⟩, hS.F ht⟩) hS.2.2 d_O_use_30
    · have c_2 : ¬ ((f_W_has v.1 p2) = (0 : Int32)) := c_2
      refine lv_iload_n hx hb d_O_use_22 rfl (lv_at hl 3 rfl) ?_
      refine va_calli (va_runS (As := [.int p3]) (rest := []) ⟨hx, hb, hml, hown, hts⟩ (c_O_isName l dC dI  H.size   p3) (cwS 1 hts k_g42 rfl rfl rfl (by decide +kernel) ⟨Nat.le_of_ble_eq_true rfl, Nat.le_of_ble_eq_true rfl⟩) ⟨fb_ro, fun U hU hW => ⟨rfl, by rw [hU], by rw [hU]; exact hP.sub (ws' := ([] : va_W)) [] rfl, va_K.moved hW.alike (hK.sub (tys' := []) [] rfl), NX.warm hW hN⟩⟩ rfl rfl hl.1 rfl (lv_room (Nat.le_of_ble_eq_true rfl)) d_O_use_23 ⟨Nat.zero_le _, Nat.zero_le _⟩) hS (fun z h1 h2 => absurd h1 (Nat.not_lt.mpr h2)) (fun z h => hA z (Nat.le_trans hS.1 h)) (fun r u t H1 locs ht hvm hpo hB hz1 hk1 hS => ?_)
      subst hpo
      have hP := kp_P hP hk1
      generalize H1 = H at hP hS ⊢
      refine lv_if_ne (tgt := 31) hx hb d_O_use_26 (by decide) (fun c_3 => ?_) (fun c_3 => ?_)
      · have c_3 : ¬ ((f_O_isName p3) = (0 : Int32)) := c_3
        refine lv_aload_n hx hb d_O_use_31 rfl (lv_at hl 0 rfl) ?_
        refine lv_aload_n hx hb d_O_use_32 rfl (lv_at hl 0 rfl) ?_
        refine va_get (D := (dC, dI)) (ci := 2) (v := .ref (qf 0)) (C := R_O) (T := F_O) (N := 4) hx hb hts i_O hown hK hP 0 rfl rfl 1 (by decide) (hts _ k_27) (fun _ h9 => h9) rfl d_O_use_33 ?_
        refine lv_aload_n hx hb d_O_use_36 rfl (lv_at hl 0 rfl) ?_
        refine lv_iload_n hx hb d_O_use_37 rfl (lv_at hl 1 rfl) ?_
        refine lv_iload_n hx hb d_O_use_38 rfl (lv_at hl 2 rfl) ?_
        refine lv_iload_n hx hb d_O_use_39 rfl (lv_at hl 3 rfl) ?_
        have hq_4 : WF v.1 := by first | with_reducible assumption | exact hw
        have hq_5 : vp_in p1 13 := by first | with_reducible assumption | exact in_has hw (by with_reducible assumption) | exact in_cls hw (by with_reducible assumption) | exact in_ifc hw (by with_reducible assumption) | exact in_ext hw (by with_reducible assumption) | exact in_eq0 (by with_reducible assumption) | exact hfd (by with_reducible assumption) | exact in_rcv hw (by with_reducible assumption) (Or.inl (by with_reducible assumption)) | exact in_rcv hw (by with_reducible assumption) (Or.inr (by with_reducible assumption))
        have hq_6 : vp_in p2 13 := by first | with_reducible assumption | exact in_has hw (by with_reducible assumption) | exact in_cls hw (by with_reducible assumption) | exact in_ifc hw (by with_reducible assumption) | exact in_ext hw (by with_reducible assumption) | exact in_eq0 (by with_reducible assumption) | exact hfd (by with_reducible assumption) | exact in_rcv hw (by with_reducible assumption) (Or.inl (by with_reducible assumption)) | exact in_rcv hw (by with_reducible assumption) (Or.inr (by with_reducible assumption))
        have hq_7 : vp_in p3 4 := by first | with_reducible assumption | exact in_name (by with_reducible assumption) | exact in4_4 (by with_reducible assumption) | exact in4_5 (by with_reducible assumption) | exact in4_6 (by with_reducible assumption) | exact in4_7 (by with_reducible assumption)
        refine va_calli (va_runV (As := [.int p1, .int p2, .int p3]) (rest := [.ref (qf 0), .ref h0]) ⟨hx, hb, hml, hown, hts⟩ (c_O_findField l dC dI h0 kw kf km qw qf qm H.size v lc p1 p2 p3 hq_4 hq_5 hq_6 hq_7) (cwV 3 hts k_g47 rfl rfl rfl (by decide +kernel) ⟨Nat.le_of_ble_eq_true rfl, Nat.le_of_ble_eq_true rfl⟩) ⟨fb_ro, va_recv hK hP (ci := 2) (q0 := 0) rfl rfl, fun U hU hW => ⟨rfl, by rw [hU], by rw [hU]; exact hP.sub (ws' := (wO h0 kw kf km qw qf qm v lc)) [0, 1, 2, 3, 4, 5, 6, 7, 8, 9, 10, 11, 12, 13, 14, 15, 16, 17, 18, 19] rfl, va_K.moved hW.alike (hK.sub (tys' := (tO kw kf km)) [0, 1, 2, 3, 4, 5, 6, 7, 8, 9, 10, 11, 12, 13, 14, 15] rfl), NX.warm hW hN⟩⟩ rfl rfl hl.1 rfl (lv_room (Nat.le_of_ble_eq_true rfl)) d_O_use_40 ⟨Nat.zero_le _, Nat.zero_le _⟩) hS (fun z h1 h2 => absurd h1 (Nat.not_lt.mpr h2)) (fun z h => hA z (Nat.le_trans hS.1 h)) (fun r u t H1 locs ht hvm hpo hB hz1 hk1 hS => ?_)
        subst hpo
        have hP := kp_P hP hk1
        generalize H1 = H at hP hS ⊢
        refine lv_iload_n hx hb d_O_use_43 rfl (lv_at hl 3 rfl) ?_
        refine lv_iload_n hx hb d_O_use_44 rfl (lv_at hl 1 rfl) ?_
        have hq_8 : (0 : Int32) < (f_O_findField v p1 p2 p3) → vp_in (f_O_findField v p1 p2 p3) 13 := by exact fun h => in_ff hw (by with_reducible assumption) h
        have hq_9 : vp_in p3 4 := by first | with_reducible assumption | exact in_name (by with_reducible assumption) | exact in4_4 (by with_reducible assumption) | exact in4_5 (by with_reducible assumption) | exact in4_6 (by with_reducible assumption) | exact in4_7 (by with_reducible assumption)
        have hq_10 : vp_in p1 13 := by first | with_reducible assumption | exact in_has hw (by with_reducible assumption) | exact in_cls hw (by with_reducible assumption) | exact in_ifc hw (by with_reducible assumption) | exact in_ext hw (by with_reducible assumption) | exact in_eq0 (by with_reducible assumption) | exact hfd (by with_reducible assumption) | exact in_rcv hw (by with_reducible assumption) (Or.inl (by with_reducible assumption)) | exact in_rcv hw (by with_reducible assumption) (Or.inr (by with_reducible assumption))
        refine va_calli (va_runV (As := [.ref (qf 0), .int (f_O_findField v p1 p2 p3), .int p3, .int p1]) (rest := []) ⟨hx, hb, hml, hown, hts⟩ (c_O_admitted_f l dC dI h0 kw kf km qw qf qm H.size v lc (f_O_findField v p1 p2 p3) p3 p1 hq_8 hq_9 hq_10) (cwV 4 hts k_g35 rfl rfl rfl (by decide +kernel) ⟨Nat.le_of_ble_eq_true rfl, Nat.le_of_ble_eq_true rfl⟩) ⟨fb_ro, va_recv hK hP (ci := 2) (q0 := 0) rfl rfl, fun U hU hW => ⟨rfl, by rw [hU], by rw [hU]; exact hP.sub (ws' := (wO h0 kw kf km qw qf qm v lc)) [0, 1, 2, 3, 4, 5, 6, 7, 8, 9, 10, 11, 12, 13, 14, 15, 16, 17, 18, 19] rfl, va_K.moved hW.alike (hK.sub (tys' := (tO kw kf km)) [0, 1, 2, 3, 4, 5, 6, 7, 8, 9, 10, 11, 12, 13, 14, 15] rfl), NX.warm hW hN⟩⟩ rfl rfl hl.1 rfl (lv_room (Nat.le_of_ble_eq_true rfl)) d_O_use_45 ⟨Nat.zero_le _, Nat.zero_le _⟩) hS (fun z h1 h2 => absurd h1 (Nat.not_lt.mpr h2)) (fun z h => hA z (Nat.le_trans hS.1 h)) (fun r u t H1 locs ht hvm hpo hB hz1 hk1 hS => ?_)
        subst hpo
        have hP := kp_P hP hk1
        generalize H1 = H at hP hS ⊢
        refine lv_istore (lv' := [(5, .int (f_O_admitted_f v (f_O_findField v p1 p2 p3) p3 p1)), (0, .ref h0), (1, .int p1), (2, .int p2), (3, .int p3), (4, .int p4)]) hx hb d_O_use_48 hl (by decide) rfl (fun ls hl => ?_)
        refine lv_iload hx hb d_O_use_50 (lv_at hl 0 rfl) ?_
        refine lv_if_le (tgt := 73) hx hb d_O_use_52 (by decide) (fun c_11 => ?_) (fun c_11 => ?_)
        · have c_11 : (f_O_admitted_f v (f_O_findField v p1 p2 p3) p3 p1) ≤ (0 : Int32) := c_11
          refine lv_iload hx hb d_O_use_73 (lv_at hl 0 rfl) ?_
          exact W.iret (v := (f_O_admitted_f v (f_O_findField v p1 p2 p3) p3 p1)) hx hb hr (fun t ht hW => ⟨⟨(f_O_admitted_f v (f_O_findField v p1 p2 p3) p3 p1), (), rfl, by unfold f_O_use; rw [if_neg c_1, if_neg c_2, if_neg c_3, if_pos c_11], trivial⟩, hS.F ht⟩) hS.2.2 d_O_use_75
        · have c_11 : ¬ ((f_O_admitted_f v (f_O_findField v p1 p2 p3) p3 p1) ≤ (0 : Int32)) := c_11
          refine lv_aload_n hx hb d_O_use_55 rfl (lv_at hl 1 rfl) ?_
          refine va_get (D := (dC, dI)) (ci := 2) (v := .ref (qf 0)) (C := R_O) (T := F_O) (N := 4) hx hb hts i_O hown hK hP 0 rfl rfl 1 (by decide) (hts _ k_27) (fun _ h9 => h9) rfl d_O_use_56 ?_
          refine lv_iload hx hb d_O_use_59 (lv_at hl 0 rfl) ?_
          refine lv_iload_n hx hb d_O_use_61 rfl (lv_at hl 4 rfl) ?_
          have hq_12 : vp_in p3 4 := by first | with_reducible assumption | exact in_name (by with_reducible assumption) | exact in4_4 (by with_reducible assumption) | exact in4_5 (by with_reducible assumption) | exact in4_6 (by with_reducible assumption) | exact in4_7 (by with_reducible assumption)
          refine va_calli (va_runV (As := [.int (f_O_admitted_f v (f_O_findField v p1 p2 p3) p3 p1), .int p3]) (rest := []) ⟨hx, hb, hml, hown, hts⟩ (c_M_isStatic l dC dI kf qf H.size v.2.1  (f_O_admitted_f v (f_O_findField v p1 p2 p3) p3 p1) p3 hq_12) (cwV 2 hts k_g37 rfl rfl rfl (by decide +kernel) ⟨Nat.le_of_ble_eq_true rfl, Nat.le_of_ble_eq_true rfl⟩) ⟨fb_ro, va_recv hK hP (ci := 1) (q0 := 8) rfl rfl, fun U hU hW => ⟨rfl, by rw [hU], by rw [hU]; exact hP.sub (ws' := (wM kf qf v.2.1)) [8, 9, 10, 11, 12, 13] rfl, va_K.moved hW.alike (hK.sub (tys' := (tM kf)) [6, 7, 8, 9, 10] rfl), NX.warm hW hN⟩⟩ rfl rfl hl.1 rfl (lv_room (Nat.le_of_ble_eq_true rfl)) d_O_use_62 ⟨Nat.zero_le _, Nat.zero_le _⟩) hS (fun z h1 h2 => absurd h1 (Nat.not_lt.mpr h2)) (fun z h => hA z (Nat.le_trans hS.1 h)) (fun r u t H1 locs ht hvm hpo hB hz1 hk1 hS => ?_)
          subst hpo
          have hP := kp_P hP hk1
          generalize H1 = H at hP hS ⊢
          refine lv_iload hx hb d_O_use_65 (lv_at hl 5 rfl) ?_
          refine lv_icmp_eq (tgt := 73) hx hb d_O_use_67 (by decide) (fun c_13 => ?_) (fun c_13 => ?_)
          · have c_13 : (f_M_isStatic v.2.1 (f_O_admitted_f v (f_O_findField v p1 p2 p3) p3 p1) p3) = p4 := c_13
            refine lv_iload hx hb d_O_use_73 (lv_at hl 0 rfl) ?_
            exact W.iret (v := (f_O_admitted_f v (f_O_findField v p1 p2 p3) p3 p1)) hx hb hr (fun t ht hW => ⟨⟨(f_O_admitted_f v (f_O_findField v p1 p2 p3) p3 p1), (), rfl, by unfold f_O_use; rw [if_neg c_1, if_neg c_2, if_neg c_3, if_neg c_11, if_pos c_13], trivial⟩, hS.F ht⟩) hS.2.2 d_O_use_75
          · have c_13 : ¬ ((f_M_isStatic v.2.1 (f_O_admitted_f v (f_O_findField v p1 p2 p3) p3 p1) p3) = p4) := c_13
            refine lv_bipush (v := (-6 : Int32)) hx hb d_O_use_70 (by decide +kernel) ?_
            exact W.iret (v := (-6 : Int32)) hx hb hr (fun t ht hW => ⟨⟨(-6 : Int32), (), rfl, by unfold f_O_use; rw [if_neg c_1, if_neg c_2, if_neg c_3, if_neg c_11, if_neg c_13], trivial⟩, hS.F ht⟩) hS.2.2 d_O_use_72
      · have c_3 : (f_O_isName p3) = (0 : Int32) := c_3
        refine lv_iconst (v := (-1 : Int32)) hx hb d_O_use_29 (by decide +kernel) ?_
        exact W.iret (v := (-1 : Int32)) hx hb hr (fun t ht hW => ⟨⟨(-1 : Int32), (), rfl, by unfold f_O_use; rw [if_neg c_1, if_neg c_2, if_pos c_3], trivial⟩, hS.F ht⟩) hS.2.2 d_O_use_30
