set_option maxHeartbeats 1000000 in
set_option maxRecDepth 100000 in
theorem c_O_mayUseMember (l : Launch) (dC : Nat → ClassId) (dI : Nat → Nat → Nat) (h0 : Nat) (kw kf km : Nat → ClassId) (qw qf qm : Nat → Nat) (sz : Nat) (v : ES) (lc : Int32) (p1 p2 p3 : Int32) (hp1 : vp_in p1 13) (hp3 : vp_in p3 13) : Met l y_O_mayUseMember w_O_mayUseMember ({ frames := 2, cells := 0, slots := 0, locals := 43 } : Room) (ro_P dC dI (wO h0 kw kf km qw qf qm v lc) (tO kw kf km) sz [.ref h0, .int p1, .int p2, .int p3]) (ro_Q sz (f_O_mayUseMember v p1 p2 p3)) 0 0 (fun z => sz ≤ z) := by
  refine Met.ofW (cc := b_O_mayUseMember) (maxL := 4) (ret := (some .boolean)) (by decide) rfl ?_
  intro p e s m args below meth c s₁ B hml hv
  obtain ⟨rfl, hsz, hP, hK, hN⟩ := hv
  have hx := B.exec
  have hb := B.bytes
  have hr := B.returns
  have hts := tl_of (atoms_spec (ws := w_O_mayUseMember) B.pre)
  have hown : s.vm.findClass R_O = some m.cls := findClass_of_methodNamed B.named
  have hlocks := B.notSynchronized
  subst hsz
  have hA : ∀ z : Nat, s.heap.size ≤ z → (fun z : Nat => s.heap.size ≤ z) z := fun _ h => h
  have hS : va_S (fun z : Nat => s.heap.size ≤ z) s.heap s.heap [] := va_S.rf
  have hl := lv_entry ([.ref h0, .int p1, .int p2, .int p3]) (n := 4) (Nat.le_of_ble_eq_true rfl)
  rw [lg_entry_eq]
  generalize (lg_sl ([.ref h0, .int p1, .int p2, .int p3]) ++ List.replicate (4 - (lg_sl ([.ref h0, .int p1, .int p2, .int p3])).length) Slot.unset).toArray = ls at hl ⊢
  have hl : lv_has ls 4 [(0, .ref h0), (1, .int p1), (2, .int p2), (3, .int p3)] := hl
  refine lv_iload_n hx hb d_O_mayUseMember_0 rfl (lv_at hl 2 rfl) ?_
  by_cases c_1 : p2 = (1 : Int32)
  · refine lv_tableIn (tgt := 60) (off := 59) hx hb d_O_mayUseMember_1 (by rw [c_1]; decide +kernel) (by rw [c_1]; decide +kernel) (by rw [c_1]; rfl) (by decide) ?_
    refine lv_aload_n hx hb d_O_mayUseMember_60 rfl (lv_at hl 0 rfl) ?_
    refine va_get (D := (dC, dI)) (ci := 2) (v := .ref (qw 0)) (C := R_O) (T := F_O) (N := 4) hx hb hts i_O hown hK hP 0 rfl rfl 0 (by decide) (hts _ k_22) (fun _ h9 => h9) rfl d_O_mayUseMember_61 ?_
    refine lv_iload_n hx hb d_O_mayUseMember_64 rfl (lv_at hl 1 rfl) ?_
    refine lv_iload_n hx hb d_O_mayUseMember_65 rfl (lv_at hl 3 rfl) ?_
    have hq_2 : vp_in p1 13 := by first | with_reducible assumption | exact in_has hw (by with_reducible assumption) | exact in_cls hw (by with_reducible assumption) | exact in_ifc hw (by with_reducible assumption) | exact in_ext hw (by with_reducible assumption) | exact in_eq0 (by with_reducible assumption) | exact hfd (by with_reducible assumption) | exact in_rcv hw (by with_reducible assumption) (Or.inl (by with_reducible assumption)) | exact in_rcv hw (by with_reducible assumption) (Or.inr (by with_reducible assumption))
    have hq_3 : vp_in p3 13 := by first | with_reducible assumption | exact in_has hw (by with_reducible assumption) | exact in_cls hw (by with_reducible assumption) | exact in_ifc hw (by with_reducible assumption) | exact in_ext hw (by with_reducible assumption) | exact in_eq0 (by with_reducible assumption) | exact hfd (by with_reducible assumption) | exact in_rcv hw (by with_reducible assumption) (Or.inl (by with_reducible assumption)) | exact in_rcv hw (by with_reducible assumption) (Or.inr (by with_reducible assumption))
    refine va_calli (va_runV (As := [.int p1, .int p3]) (rest := []) ⟨hx, hb, hml, hown, hts⟩ (c_W_samePackage l dC dI kw qw s.heap.size v.1  p1 p3 hq_2 hq_3) (cwV 2 hts k_g18 rfl rfl rfl (by decide +kernel) ⟨Nat.le_of_ble_eq_true rfl, Nat.le_of_ble_eq_true rfl⟩) ⟨fb_ro, va_recv hK hP (ci := 0) (q0 := 1) rfl rfl, fun U hU hW => ⟨rfl, by rw [hU], by rw [hU]; exact hP.sub (ws' := (wW kw qw v.1)) [1, 2, 3, 4, 5, 6, 7] rfl, va_K.moved hW.alike (hK.sub (tys' := (tW kw)) [0, 1, 2, 3, 4, 5] rfl), NX.warm hW hN⟩⟩ rfl rfl hl.1 rfl (lv_room (Nat.le_of_ble_eq_true rfl)) d_O_mayUseMember_66 ⟨Nat.zero_le _, Nat.zero_le _⟩) hS (fun z h1 h2 => absurd h1 (Nat.not_lt.mpr h2)) (fun z h => hA z (Nat.le_trans hS.1 h)) (fun r u t H1 locs ht hvm hpo hB hz1 hk1 hS => ?_)
    subst hpo
    have hP := kp_P hP hk1
    generalize H1 = H at hP hS ⊢
    exact W.zret (v := (f_W_samePackage v.1 p1 p3)) hx hb hr (z_W_samePackage) (fun t ht hW => ⟨⟨(f_W_samePackage v.1 p1 p3), (), rfl, by unfold f_O_mayUseMember; rw [if_pos c_1], trivial⟩, hS.F ht⟩) hS.2.2 d_O_mayUseMember_69
  · skip
    by_cases c_4 : p2 = (2 : Int32)
    · refine lv_tableIn (tgt := 30) (off := 29) hx hb d_O_mayUseMember_1 (by rw [c_4]; decide +kernel) (by rw [c_4]; decide +kernel) (by rw [c_4]; rfl) (by decide) ?_
      refine lv_aload_n hx hb d_O_mayUseMember_30 rfl (lv_at hl 0 rfl) ?_
      refine va_get (D := (dC, dI)) (ci := 2) (v := .ref (qw 0)) (C := R_O) (T := F_O) (N := 4) hx hb hts i_O hown hK hP 0 rfl rfl 0 (by decide) (hts _ k_22) (fun _ h9 => h9) rfl d_O_mayUseMember_31 ?_
      refine lv_iload_n hx hb d_O_mayUseMember_34 rfl (lv_at hl 1 rfl) ?_
      refine lv_iload_n hx hb d_O_mayUseMember_35 rfl (lv_at hl 3 rfl) ?_
      have hq_5 : vp_in p1 13 := by first | with_reducible assumption | exact in_has hw (by with_reducible assumption) | exact in_cls hw (by with_reducible assumption) | exact in_ifc hw (by with_reducible assumption) | exact in_ext hw (by with_reducible assumption) | exact in_eq0 (by with_reducible assumption) | exact hfd (by with_reducible assumption) | exact in_rcv hw (by with_reducible assumption) (Or.inl (by with_reducible assumption)) | exact in_rcv hw (by with_reducible assumption) (Or.inr (by with_reducible assumption))
      have hq_6 : vp_in p3 13 := by first | with_reducible assumption | exact in_has hw (by with_reducible assumption) | exact in_cls hw (by with_reducible assumption) | exact in_ifc hw (by with_reducible assumption) | exact in_ext hw (by with_reducible assumption) | exact in_eq0 (by with_reducible assumption) | exact hfd (by with_reducible assumption) | exact in_rcv hw (by with_reducible assumption) (Or.inl (by with_reducible assumption)) | exact in_rcv hw (by with_reducible assumption) (Or.inr (by with_reducible assumption))
      refine va_calli (va_runV (As := [.int p1, .int p3]) (rest := []) ⟨hx, hb, hml, hown, hts⟩ (c_W_samePackage l dC dI kw qw s.heap.size v.1  p1 p3 hq_5 hq_6) (cwV 2 hts k_g18 rfl rfl rfl (by decide +kernel) ⟨Nat.le_of_ble_eq_true rfl, Nat.le_of_ble_eq_true rfl⟩) ⟨fb_ro, va_recv hK hP (ci := 0) (q0 := 1) rfl rfl, fun U hU hW => ⟨rfl, by rw [hU], by rw [hU]; exact hP.sub (ws' := (wW kw qw v.1)) [1, 2, 3, 4, 5, 6, 7] rfl, va_K.moved hW.alike (hK.sub (tys' := (tW kw)) [0, 1, 2, 3, 4, 5] rfl), NX.warm hW hN⟩⟩ rfl rfl hl.1 rfl (lv_room (Nat.le_of_ble_eq_true rfl)) d_O_mayUseMember_36 ⟨Nat.zero_le _, Nat.zero_le _⟩) hS (fun z h1 h2 => absurd h1 (Nat.not_lt.mpr h2)) (fun z h => hA z (Nat.le_trans hS.1 h)) (fun r u t H1 locs ht hvm hpo hB hz1 hk1 hS => ?_)
      subst hpo
      have hP := kp_P hP hk1
      generalize H1 = H at hP hS ⊢
      refine lv_if_ne (tgt := 54) hx hb d_O_mayUseMember_39 (by decide) (fun c_7 => ?_) (fun c_7 => ?_)
      · have c_7 : ¬ ((f_W_samePackage v.1 p1 p3) = (0 : Int32)) := c_7
        refine lv_iconst (v := (1 : Int32)) hx hb d_O_mayUseMember_54 (by decide +kernel) ?_
        refine lv_goto (tgt := 59) hx hb d_O_mayUseMember_55 (by decide) ?_
        exact W.zret (v := (1 : Int32)) hx hb hr (by decide +kernel) (fun t ht hW => ⟨⟨(1 : Int32), (), rfl, by unfold f_O_mayUseMember; rw [if_neg c_1, if_pos c_4, if_neg c_7], trivial⟩, hS.F ht⟩) hS.2.2 d_O_mayUseMember_59
      · have c_7 : (f_W_samePackage v.1 p1 p3) = (0 : Int32) := c_7
        refine lv_aload_n hx hb d_O_mayUseMember_42 rfl (lv_at hl 0 rfl) ?_
        refine va_get (D := (dC, dI)) (ci := 2) (v := .ref (qw 0)) (C := R_O) (T := F_O) (N := 4) hx hb hts i_O hown hK hP 0 rfl rfl 0 (by decide) (hts _ k_22) (fun _ h9 => h9) rfl d_O_mayUseMember_43 ?_
        refine lv_iload_n hx hb d_O_mayUseMember_46 rfl (lv_at hl 3 rfl) ?_
        refine lv_iload_n hx hb d_O_mayUseMember_47 rfl (lv_at hl 1 rfl) ?_
        have hq_8 : vp_in p3 13 := by first | with_reducible assumption | exact in_has hw (by with_reducible assumption) | exact in_cls hw (by with_reducible assumption) | exact in_ifc hw (by with_reducible assumption) | exact in_ext hw (by with_reducible assumption) | exact in_eq0 (by with_reducible assumption) | exact hfd (by with_reducible assumption) | exact in_rcv hw (by with_reducible assumption) (Or.inl (by with_reducible assumption)) | exact in_rcv hw (by with_reducible assumption) (Or.inr (by with_reducible assumption))
        refine va_calli (va_runV (As := [.int p3, .int p1]) (rest := []) ⟨hx, hb, hml, hown, hts⟩ (c_W_isKindOf l dC dI kw qw H.size v.1  p3 p1 hq_8) (cwV 2 hts k_g26 rfl rfl rfl (by decide +kernel) ⟨Nat.le_of_ble_eq_true rfl, Nat.le_of_ble_eq_true rfl⟩) ⟨fb_ro, va_recv hK hP (ci := 0) (q0 := 1) rfl rfl, fun U hU hW => ⟨rfl, by rw [hU], by rw [hU]; exact hP.sub (ws' := (wW kw qw v.1)) [1, 2, 3, 4, 5, 6, 7] rfl, va_K.moved hW.alike (hK.sub (tys' := (tW kw)) [0, 1, 2, 3, 4, 5] rfl), NX.warm hW hN⟩⟩ rfl rfl hl.1 rfl (lv_room (Nat.le_of_ble_eq_true rfl)) d_O_mayUseMember_48 ⟨Nat.zero_le _, Nat.zero_le _⟩) hS (fun z h1 h2 => absurd h1 (Nat.not_lt.mpr h2)) (fun z h => hA z (Nat.le_trans hS.1 h)) (fun r u t H1 locs ht hvm hpo hB hz1 hk1 hS => ?_)
        subst hpo
        have hP := kp_P hP hk1
        generalize H1 = H at hP hS ⊢
        refine lv_if_eq (tgt := 58) hx hb d_O_mayUseMember_51 (by decide) (fun c_9 => ?_) (fun c_9 => ?_)
        · have c_9 : (f_W_isKindOf v.1 p3 p1) = (0 : Int32) := c_9
          refine lv_iconst (v := (0 : Int32)) hx hb d_O_mayUseMember_58 (by decide +kernel) ?_
          exact W.zret (v := (0 : Int32)) hx hb hr (by decide +kernel) (fun t ht hW => ⟨⟨(0 : Int32), (), rfl, by unfold f_O_mayUseMember; rw [if_neg c_1, if_pos c_4, if_pos c_7, if_pos c_9], trivial⟩, hS.F ht⟩) hS.2.2 d_O_mayUseMember_59
        · have c_9 : ¬ ((f_W_isKindOf v.1 p3 p1) = (0 : Int32)) := c_9
          refine lv_iconst (v := (1 : Int32)) hx hb d_O_mayUseMember_54 (by decide +kernel) ?_
          refine lv_goto (tgt := 59) hx hb d_O_mayUseMember_55 (by decide) ?_
          exact W.zret (v := (1 : Int32)) hx hb hr (by decide +kernel) (fun t ht hW => ⟨⟨(1 : Int32), (), rfl, by unfold f_O_mayUseMember; rw [if_neg c_1, if_pos c_4, if_pos c_7, if_neg c_9], trivial⟩, hS.F ht⟩) hS.2.2 d_O_mayUseMember_59
    · skip
      by_cases c_10 : p2 = (3 : Int32)
      · refine lv_tableIn (tgt := 28) (off := 27) hx hb d_O_mayUseMember_1 (by rw [c_10]; decide +kernel) (by rw [c_10]; decide +kernel) (by rw [c_10]; rfl) (by decide) ?_
        refine lv_iconst (v := (1 : Int32)) hx hb d_O_mayUseMember_28 (by decide +kernel) ?_
        exact W.zret (v := (1 : Int32)) hx hb hr (by decide +kernel) (fun t ht hW => ⟨⟨(1 : Int32), (), rfl, by unfold f_O_mayUseMember; rw [if_neg c_1, if_neg c_4, if_pos c_10], trivial⟩, hS.F ht⟩) hS.2.2 d_O_mayUseMember_29
      · skip
        refine lv_tableOut (tgt := 70) hx hb d_O_mayUseMember_1 (by have z0 := ne_ti (z := 1) c_1 rfl; have z1 := ne_ti (z := 2) c_4 rfl; have z2 := ne_ti (z := 3) c_10 rfl; omega) (by decide) ?_
        refine lv_aload_n hx hb d_O_mayUseMember_70 rfl (lv_at hl 0 rfl) ?_
        refine va_get (D := (dC, dI)) (ci := 2) (v := .ref (qw 0)) (C := R_O) (T := F_O) (N := 4) hx hb hts i_O hown hK hP 0 rfl rfl 0 (by decide) (hts _ k_22) (fun _ h9 => h9) rfl d_O_mayUseMember_71 ?_
        refine lv_iload_n hx hb d_O_mayUseMember_74 rfl (lv_at hl 1 rfl) ?_
        refine lv_iload_n hx hb d_O_mayUseMember_75 rfl (lv_at hl 3 rfl) ?_
        have hq_11 : vp_in p1 13 := by first | with_reducible assumption | exact in_has hw (by with_reducible assumption) | exact in_cls hw (by with_reducible assumption) | exact in_ifc hw (by with_reducible assumption) | exact in_ext hw (by with_reducible assumption) | exact in_eq0 (by with_reducible assumption) | exact hfd (by with_reducible assumption) | exact in_rcv hw (by with_reducible assumption) (Or.inl (by with_reducible assumption)) | exact in_rcv hw (by with_reducible assumption) (Or.inr (by with_reducible assumption))
        have hq_12 : vp_in p3 13 := by first | with_reducible assumption | exact in_has hw (by with_reducible assumption) | exact in_cls hw (by with_reducible assumption) | exact in_ifc hw (by with_reducible assumption) | exact in_ext hw (by with_reducible assumption) | exact in_eq0 (by with_reducible assumption) | exact hfd (by with_reducible assumption) | exact in_rcv hw (by with_reducible assumption) (Or.inl (by with_reducible assumption)) | exact in_rcv hw (by with_reducible assumption) (Or.inr (by with_reducible assumption))
        refine va_calli (va_runV (As := [.int p1, .int p3]) (rest := []) ⟨hx, hb, hml, hown, hts⟩ (c_W_sameHost l dC dI kw qw s.heap.size v.1  p1 p3 hq_11 hq_12) (cwV 2 hts k_g27 rfl rfl rfl (by decide +kernel) ⟨Nat.le_of_ble_eq_true rfl, Nat.le_of_ble_eq_true rfl⟩) ⟨fb_ro, va_recv hK hP (ci := 0) (q0 := 1) rfl rfl, fun U hU hW => ⟨rfl, by rw [hU], by rw [hU]; exact hP.sub (ws' := (wW kw qw v.1)) [1, 2, 3, 4, 5, 6, 7] rfl, va_K.moved hW.alike (hK.sub (tys' := (tW kw)) [0, 1, 2, 3, 4, 5] rfl), NX.warm hW hN⟩⟩ rfl rfl hl.1 rfl (lv_room (Nat.le_of_ble_eq_true rfl)) d_O_mayUseMember_76 ⟨Nat.zero_le _, Nat.zero_le _⟩) hS (fun z h1 h2 => absurd h1 (Nat.not_lt.mpr h2)) (fun z h => hA z (Nat.le_trans hS.1 h)) (fun r u t H1 locs ht hvm hpo hB hz1 hk1 hS => ?_)
        subst hpo
        have hP := kp_P hP hk1
        generalize H1 = H at hP hS ⊢
        exact W.zret (v := (f_W_sameHost v.1 p1 p3)) hx hb hr (z_W_sameHost) (fun t ht hW => ⟨⟨(f_W_sameHost v.1 p1 p3), (), rfl, by unfold f_O_mayUseMember; rw [if_neg c_1, if_neg c_4, if_neg c_10], trivial⟩, hS.F ht⟩) hS.2.2 d_O_mayUseMember_79
