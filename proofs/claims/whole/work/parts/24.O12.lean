set_option maxHeartbeats 1000000 in
set_option maxRecDepth 100000 in
theorem c_O_isReceiver (l : Launch) (dC : Nat → ClassId) (dI : Nat → Nat → Nat) (h0 : Nat) (kw kf km : Nat → ClassId) (qw qf qm : Nat → Nat) (sz : Nat) (v : ES) (lc : Int32) (p1 p2 p3 p4 : Int32) (hw : WF v.1) (hp2 : vp_in p2 13) (hp3 : vp_in p3 13) : Met l y_O_isReceiver w_O_isReceiver ({ frames := 2, cells := 0, slots := 0, locals := 43 } : Room) (ro_P dC dI (wO h0 kw kf km qw qf qm v lc) (tO kw kf km) sz [.ref h0, .int p1, .int p2, .int p3, .int p4]) (ro_Q sz (f_O_isReceiver v p1 p2 p3 p4)) 0 0 (fun z => sz ≤ z) := by
  refine Met.ofW (cc := b_O_isReceiver) (maxL := 5) (ret := (some .boolean)) (by decide) rfl ?_
  intro p e s m args below meth c s₁ B hml hv
  obtain ⟨rfl, hsz, hP, hK, hN⟩ := hv
  have hx := B.exec
  have hb := B.bytes
  have hr := B.returns
  have hts := tl_of (atoms_spec (ws := w_O_isReceiver) B.pre)
  have hown : s.vm.findClass R_O = some m.cls := findClass_of_methodNamed B.named
  have hlocks := B.notSynchronized
  subst hsz
  have hA : ∀ z : Nat, s.heap.size ≤ z → (fun z : Nat => s.heap.size ≤ z) z := fun _ h => h
  have hS : va_S (fun z : Nat => s.heap.size ≤ z) s.heap s.heap [] := va_S.rf
  have hl := lv_entry ([.ref h0, .int p1, .int p2, .int p3, .int p4]) (n := 5) (Nat.le_of_ble_eq_true rfl)
  rw [lg_entry_eq]
  generalize (lg_sl ([.ref h0, .int p1, .int p2, .int p3, .int p4]) ++ List.replicate (5 - (lg_sl ([.ref h0, .int p1, .int p2, .int p3, .int p4])).length) Slot.unset).toArray = ls at hl ⊢
  have hl : lv_has ls 5 [(0, .ref h0), (1, .int p1), (2, .int p2), (3, .int p3), (4, .int p4)] := hl
  refine lv_iload_n hx hb d_O_isReceiver_0 rfl (lv_at hl 1 rfl) ?_
  by_cases c_1 : p1 = (0 : Int32)
  · refine lv_tableIn (tgt := 32) (off := 31) hx hb d_O_isReceiver_1 (by rw [c_1]; decide +kernel) (by rw [c_1]; decide +kernel) (by rw [c_1]; rfl) (by decide) ?_
    refine lv_aload_n hx hb d_O_isReceiver_32 rfl (lv_at hl 0 rfl) ?_
    refine va_get (D := (dC, dI)) (ci := 2) (v := .ref (qw 0)) (C := R_O) (T := F_O) (N := 4) hx hb hts i_O hown hK hP 0 rfl rfl 0 (by decide) (hts _ k_22) (fun _ h9 => h9) rfl d_O_isReceiver_33 ?_
    refine lv_iload hx hb d_O_isReceiver_36 (lv_at hl 4 rfl) ?_
    refine va_calli (va_runV (As := [.int p4]) (rest := []) ⟨hx, hb, hml, hown, hts⟩ (c_W_isClass l dC dI kw qw s.heap.size v.1  p4) (cwV 1 hts k_g32 rfl rfl rfl (by decide +kernel) ⟨Nat.le_of_ble_eq_true rfl, Nat.le_of_ble_eq_true rfl⟩) ⟨fb_ro, va_recv hK hP (ci := 0) (q0 := 1) rfl rfl, fun U hU hW => ⟨rfl, by rw [hU], by rw [hU]; exact hP.sub (ws' := (wW kw qw v.1)) [1, 2, 3, 4, 5, 6, 7] rfl, va_K.moved hW.alike (hK.sub (tys' := (tW kw)) [0, 1, 2, 3, 4, 5] rfl), NX.warm hW hN⟩⟩ rfl rfl hl.1 rfl (lv_room (Nat.le_of_ble_eq_true rfl)) d_O_isReceiver_38 ⟨Nat.zero_le _, Nat.zero_le _⟩) hS (fun z h1 h2 => absurd h1 (Nat.not_lt.mpr h2)) (fun z h => hA z (Nat.le_trans hS.1 h)) (fun r u t H1 locs ht hvm hpo hB hz1 hk1 hS => ?_)
    subst hpo
    have hP := kp_P hP hk1
    generalize H1 = H at hP hS ⊢
    refine lv_if_eq (tgt := 61) hx hb d_O_isReceiver_41 (by decide) (fun c_2 => ?_) (fun c_2 => ?_)
    · have c_2 : (f_W_isClass v.1 p4) = (0 : Int32) := c_2
      refine lv_iconst (v := (0 : Int32)) hx hb d_O_isReceiver_61 (by decide +kernel) ?_
      exact W.zret (v := (0 : Int32)) hx hb hr (by decide +kernel) (fun t ht hW => ⟨⟨(0 : Int32), (), rfl, by unfold f_O_isReceiver; rw [if_pos c_1, if_pos c_2], trivial⟩, hS.F ht⟩) hS.2.2 d_O_isReceiver_62
    · have c_2 : ¬ ((f_W_isClass v.1 p4) = (0 : Int32)) := c_2
      refine lv_aload_n hx hb d_O_isReceiver_44 rfl (lv_at hl 0 rfl) ?_
      refine va_get (D := (dC, dI)) (ci := 2) (v := .ref (qw 0)) (C := R_O) (T := F_O) (N := 4) hx hb hts i_O hown hK hP 0 rfl rfl 0 (by decide) (hts _ k_22) (fun _ h9 => h9) rfl d_O_isReceiver_45 ?_
      refine lv_iload hx hb d_O_isReceiver_48 (lv_at hl 4 rfl) ?_
      refine lv_iload_n hx hb d_O_isReceiver_50 rfl (lv_at hl 2 rfl) ?_
      have hq_3 : vp_in p4 13 := by first | with_reducible assumption | exact in_has hw (by with_reducible assumption) | exact in_cls hw (by with_reducible assumption) | exact in_ifc hw (by with_reducible assumption) | exact in_ext hw (by with_reducible assumption) | exact in_eq0 (by with_reducible assumption) | exact hfd (by with_reducible assumption) | exact in_rcv hw (by with_reducible assumption) (Or.inl (by with_reducible assumption)) | exact in_rcv hw (by with_reducible assumption) (Or.inr (by with_reducible assumption))
      refine va_calli (va_runV (As := [.int p4, .int p2]) (rest := []) ⟨hx, hb, hml, hown, hts⟩ (c_W_isKindOf l dC dI kw qw H.size v.1  p4 p2 hq_3) (cwV 2 hts k_g26 rfl rfl rfl (by decide +kernel) ⟨Nat.le_of_ble_eq_true rfl, Nat.le_of_ble_eq_true rfl⟩) ⟨fb_ro, va_recv hK hP (ci := 0) (q0 := 1) rfl rfl, fun U hU hW => ⟨rfl, by rw [hU], by rw [hU]; exact hP.sub (ws' := (wW kw qw v.1)) [1, 2, 3, 4, 5, 6, 7] rfl, va_K.moved hW.alike (hK.sub (tys' := (tW kw)) [0, 1, 2, 3, 4, 5] rfl), NX.warm hW hN⟩⟩ rfl rfl hl.1 rfl (lv_room (Nat.le_of_ble_eq_true rfl)) d_O_isReceiver_51 ⟨Nat.zero_le _, Nat.zero_le _⟩) hS (fun z h1 h2 => absurd h1 (Nat.not_lt.mpr h2)) (fun z h => hA z (Nat.le_trans hS.1 h)) (fun r u t H1 locs ht hvm hpo hB hz1 hk1 hS => ?_)
      subst hpo
      have hP := kp_P hP hk1
      generalize H1 = H at hP hS ⊢
      refine lv_if_eq (tgt := 61) hx hb d_O_isReceiver_54 (by decide) (fun c_4 => ?_) (fun c_4 => ?_)
      · have c_4 : (f_W_isKindOf v.1 p4 p2) = (0 : Int32) := c_4
        refine lv_iconst (v := (0 : Int32)) hx hb d_O_isReceiver_61 (by decide +kernel) ?_
        exact W.zret (v := (0 : Int32)) hx hb hr (by decide +kernel) (fun t ht hW => ⟨⟨(0 : Int32), (), rfl, by unfold f_O_isReceiver; rw [if_pos c_1, if_neg c_2, if_pos c_4], trivial⟩, hS.F ht⟩) hS.2.2 d_O_isReceiver_62
      · have c_4 : ¬ ((f_W_isKindOf v.1 p4 p2) = (0 : Int32)) := c_4
        refine lv_iconst (v := (1 : Int32)) hx hb d_O_isReceiver_57 (by decide +kernel) ?_
        refine lv_goto (tgt := 62) hx hb d_O_isReceiver_58 (by decide) ?_
        exact W.zret (v := (1 : Int32)) hx hb hr (by decide +kernel) (fun t ht hW => ⟨⟨(1 : Int32), (), rfl, by unfold f_O_isReceiver; rw [if_pos c_1, if_neg c_2, if_neg c_4], trivial⟩, hS.F ht⟩) hS.2.2 d_O_isReceiver_62
  · skip
    by_cases c_5 : p1 = (1 : Int32)
    · refine lv_tableIn (tgt := 63) (off := 62) hx hb d_O_isReceiver_1 (by rw [c_5]; decide +kernel) (by rw [c_5]; decide +kernel) (by rw [c_5]; rfl) (by decide) ?_
      refine lv_aload_n hx hb d_O_isReceiver_63 rfl (lv_at hl 0 rfl) ?_
      refine va_get (D := (dC, dI)) (ci := 2) (v := .ref (qw 0)) (C := R_O) (T := F_O) (N := 4) hx hb hts i_O hown hK hP 0 rfl rfl 0 (by decide) (hts _ k_22) (fun _ h9 => h9) rfl d_O_isReceiver_64 ?_
      refine lv_iload hx hb d_O_isReceiver_67 (lv_at hl 4 rfl) ?_
      refine va_calli (va_runV (As := [.int p4]) (rest := []) ⟨hx, hb, hml, hown, hts⟩ (c_W_isClass l dC dI kw qw s.heap.size v.1  p4) (cwV 1 hts k_g32 rfl rfl rfl (by decide +kernel) ⟨Nat.le_of_ble_eq_true rfl, Nat.le_of_ble_eq_true rfl⟩) ⟨fb_ro, va_recv hK hP (ci := 0) (q0 := 1) rfl rfl, fun U hU hW => ⟨rfl, by rw [hU], by rw [hU]; exact hP.sub (ws' := (wW kw qw v.1)) [1, 2, 3, 4, 5, 6, 7] rfl, va_K.moved hW.alike (hK.sub (tys' := (tW kw)) [0, 1, 2, 3, 4, 5] rfl), NX.warm hW hN⟩⟩ rfl rfl hl.1 rfl (lv_room (Nat.le_of_ble_eq_true rfl)) d_O_isReceiver_69 ⟨Nat.zero_le _, Nat.zero_le _⟩) hS (fun z h1 h2 => absurd h1 (Nat.not_lt.mpr h2)) (fun z h => hA z (Nat.le_trans hS.1 h)) (fun r u t H1 locs ht hvm hpo hB hz1 hk1 hS => ?_)
      subst hpo
      have hP := kp_P hP hk1
      generalize H1 = H at hP hS ⊢
      exact W.zret (v := (f_W_isClass v.1 p4)) hx hb hr (z_W_isClass) (fun t ht hW => ⟨⟨(f_W_isClass v.1 p4), (), rfl, by unfold f_O_isReceiver; rw [if_neg c_1, if_pos c_5], trivial⟩, hS.F ht⟩) hS.2.2 d_O_isReceiver_72
    · skip
      by_cases c_6 : p1 = (2 : Int32)
      · refine lv_tableIn (tgt := 73) (off := 72) hx hb d_O_isReceiver_1 (by rw [c_6]; decide +kernel) (by rw [c_6]; decide +kernel) (by rw [c_6]; rfl) (by decide) ?_
        refine lv_iload hx hb d_O_isReceiver_73 (lv_at hl 4 rfl) ?_
        refine lv_if_ne (tgt := 94) hx hb d_O_isReceiver_75 (by decide) (fun c_7 => ?_) (fun c_7 => ?_)
        · have c_7 : ¬ (p4 = (0 : Int32)) := c_7
          refine lv_iconst (v := (0 : Int32)) hx hb d_O_isReceiver_94 (by decide +kernel) ?_
          exact W.zret (v := (0 : Int32)) hx hb hr (by decide +kernel) (fun t ht hW => ⟨⟨(0 : Int32), (), rfl, by unfold f_O_isReceiver; rw [if_neg c_1, if_neg c_5, if_pos c_6, if_neg c_7], trivial⟩, hS.F ht⟩) hS.2.2 d_O_isReceiver_95
        · have c_7 : p4 = (0 : Int32) := c_7
          refine lv_aload_n hx hb d_O_isReceiver_78 rfl (lv_at hl 0 rfl) ?_
          refine va_get (D := (dC, dI)) (ci := 2) (v := .ref (qw 0)) (C := R_O) (T := F_O) (N := 4) hx hb hts i_O hown hK hP 0 rfl rfl 0 (by decide) (hts _ k_22) (fun _ h9 => h9) rfl d_O_isReceiver_79 ?_
          refine lv_iload_n hx hb d_O_isReceiver_82 rfl (lv_at hl 3 rfl) ?_
          refine lv_iload_n hx hb d_O_isReceiver_83 rfl (lv_at hl 2 rfl) ?_
          have hq_8 : vp_in p3 13 := by first | with_reducible assumption | exact in_has hw (by with_reducible assumption) | exact in_cls hw (by with_reducible assumption) | exact in_ifc hw (by with_reducible assumption) | exact in_ext hw (by with_reducible assumption) | exact in_eq0 (by with_reducible assumption) | exact hfd (by with_reducible assumption) | exact in_rcv hw (by with_reducible assumption) (Or.inl (by with_reducible assumption)) | exact in_rcv hw (by with_reducible assumption) (Or.inr (by with_reducible assumption))
          refine va_calli (va_runV (As := [.int p3, .int p2]) (rest := []) ⟨hx, hb, hml, hown, hts⟩ (c_W_isKindOf l dC dI kw qw s.heap.size v.1  p3 p2 hq_8) (cwV 2 hts k_g26 rfl rfl rfl (by decide +kernel) ⟨Nat.le_of_ble_eq_true rfl, Nat.le_of_ble_eq_true rfl⟩) ⟨fb_ro, va_recv hK hP (ci := 0) (q0 := 1) rfl rfl, fun U hU hW => ⟨rfl, by rw [hU], by rw [hU]; exact hP.sub (ws' := (wW kw qw v.1)) [1, 2, 3, 4, 5, 6, 7] rfl, va_K.moved hW.alike (hK.sub (tys' := (tW kw)) [0, 1, 2, 3, 4, 5] rfl), NX.warm hW hN⟩⟩ rfl rfl hl.1 rfl (lv_room (Nat.le_of_ble_eq_true rfl)) d_O_isReceiver_84 ⟨Nat.zero_le _, Nat.zero_le _⟩) hS (fun z h1 h2 => absurd h1 (Nat.not_lt.mpr h2)) (fun z h => hA z (Nat.le_trans hS.1 h)) (fun r u t H1 locs ht hvm hpo hB hz1 hk1 hS => ?_)
          subst hpo
          have hP := kp_P hP hk1
          generalize H1 = H at hP hS ⊢
          refine lv_if_eq (tgt := 94) hx hb d_O_isReceiver_87 (by decide) (fun c_9 => ?_) (fun c_9 => ?_)
          · have c_9 : (f_W_isKindOf v.1 p3 p2) = (0 : Int32) := c_9
            refine lv_iconst (v := (0 : Int32)) hx hb d_O_isReceiver_94 (by decide +kernel) ?_
            exact W.zret (v := (0 : Int32)) hx hb hr (by decide +kernel) (fun t ht hW => ⟨⟨(0 : Int32), (), rfl, by unfold f_O_isReceiver; rw [if_neg c_1, if_neg c_5, if_pos c_6, if_pos c_7, if_pos c_9], trivial⟩, hS.F ht⟩) hS.2.2 d_O_isReceiver_95
          · have c_9 : ¬ ((f_W_isKindOf v.1 p3 p2) = (0 : Int32)) := c_9
            refine lv_iconst (v := (1 : Int32)) hx hb d_O_isReceiver_90 (by decide +kernel) ?_
            refine lv_goto (tgt := 95) hx hb d_O_isReceiver_91 (by decide) ?_
            exact W.zret (v := (1 : Int32)) hx hb hr (by decide +kernel) (fun t ht hW => ⟨⟨(1 : Int32), (), rfl, by unfold f_O_isReceiver; rw [if_neg c_1, if_neg c_5, if_pos c_6, if_pos c_7, if_neg c_9], trivial⟩, hS.F ht⟩) hS.2.2 d_O_isReceiver_95
      · skip
        by_cases c_10 : p1 = (3 : Int32)
        · refine lv_tableIn (tgt := 96) (off := 95) hx hb d_O_isReceiver_1 (by rw [c_10]; decide +kernel) (by rw [c_10]; decide +kernel) (by rw [c_10]; rfl) (by decide) ?_
          refine lv_iload hx hb d_O_isReceiver_96 (lv_at hl 4 rfl) ?_
          refine lv_if_ne (tgt := 105) hx hb d_O_isReceiver_98 (by decide) (fun c_11 => ?_) (fun c_11 => ?_)
          · have c_11 : ¬ (p4 = (0 : Int32)) := c_11
            refine lv_iconst (v := (0 : Int32)) hx hb d_O_isReceiver_105 (by decide +kernel) ?_
            exact W.zret (v := (0 : Int32)) hx hb hr (by decide +kernel) (fun t ht hW => ⟨⟨(0 : Int32), (), rfl, by unfold f_O_isReceiver; rw [if_neg c_1, if_neg c_5, if_neg c_6, if_pos c_10, if_neg c_11], trivial⟩, hS.F ht⟩) hS.2.2 d_O_isReceiver_106
          · have c_11 : p4 = (0 : Int32) := c_11
            refine lv_iconst (v := (1 : Int32)) hx hb d_O_isReceiver_101 (by decide +kernel) ?_
            refine lv_goto (tgt := 106) hx hb d_O_isReceiver_102 (by decide) ?_
            exact W.zret (v := (1 : Int32)) hx hb hr (by decide +kernel) (fun t ht hW => ⟨⟨(1 : Int32), (), rfl, by unfold f_O_isReceiver; rw [if_neg c_1, if_neg c_5, if_neg c_6, if_pos c_10, if_pos c_11], trivial⟩, hS.F ht⟩) hS.2.2 d_O_isReceiver_106
        · skip
          refine lv_tableOut (tgt := 107) hx hb d_O_isReceiver_1 (by have z0 := ne_ti (z := 0) c_1 rfl; have z1 := ne_ti (z := 1) c_5 rfl; have z2 := ne_ti (z := 2) c_6 rfl; have z3 := ne_ti (z := 3) c_10 rfl; omega) (by decide) ?_
          refine lv_iconst (v := (0 : Int32)) hx hb d_O_isReceiver_107 (by decide +kernel) ?_
          exact W.zret (v := (0 : Int32)) hx hb hr (by decide +kernel) (fun t ht hW => ⟨⟨(0 : Int32), (), rfl, by unfold f_O_isReceiver; rw [if_neg c_1, if_neg c_5, if_neg c_6, if_neg c_10], trivial⟩, hS.F ht⟩) hS.2.2 d_O_isReceiver_108
