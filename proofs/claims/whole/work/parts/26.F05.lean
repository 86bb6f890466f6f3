set_option maxHeartbeats 1000000 in
set_option maxRecDepth 100000 in
theorem c_O_type (l : Launch) (dC : Nat → ClassId) (dI : Nat → Nat → Nat) (h0 : Nat) (kw kf km : Nat → ClassId) (qw qf qm : Nat → Nat) (sz : Nat) (v : ES) (lc : Int32) (p1 p2 : Int32) (hw : WF v.1) : Met l y_O_type w_O_type ({ frames := 2, cells := 0, slots := 0, locals := 42 } : Room) (ro_P dC dI (wO h0 kw kf km qw qf qm v lc) (tO kw kf km) sz [.ref h0, .int p1, .int p2]) (ro_Q sz (f_O_type v p1 p2)) 0 0 (fun z => sz ≤ z) := by
  refine Met.ofW (cc := b_O_type) (maxL := 3) (ret := (some .int)) (by decide) rfl ?_
  intro p e s m args below meth c s₁ B hml hv
  obtain ⟨rfl, hsz, hP, hK, hN⟩ := hv
  have hx := B.exec
  have hb := B.bytes
  have hr := B.returns
  have hts := tl_of (atoms_spec (ws := w_O_type) B.pre)
  have hown : s.vm.findClass R_O = some m.cls := findClass_of_methodNamed B.named
  have hlocks := B.notSynchronized
  subst hsz
  have hA : ∀ z : Nat, s.heap.size ≤ z → (fun z : Nat => s.heap.size ≤ z) z := fun _ h => h
  have hS : va_S (fun z : Nat => s.heap.size ≤ z) s.heap s.heap [] := va_S.rf
  have hl := lv_entry ([.ref h0, .int p1, .int p2]) (n := 3) (Nat.le_of_ble_eq_true rfl)
  rw [lg_entry_eq]
  generalize (lg_sl ([.ref h0, .int p1, .int p2]) ++ List.replicate (3 - (lg_sl ([.ref h0, .int p1, .int p2])).length) Slot.unset).toArray = ls at hl ⊢
  have hl : lv_has ls 3 [(0, .ref h0), (1, .int p1), (2, .int p2)] := hl
  refine lv_aload_n hx hb d_O_type_0 rfl (lv_at hl 0 rfl) ?_
  refine va_get (D := (dC, dI)) (ci := 2) (v := .ref (qw 0)) (C := R_O) (T := F_O) (N := 4) hx hb hts i_O hown hK hP 0 rfl rfl 0 (by decide) (hts _ k_22) (fun _ h9 => h9) rfl d_O_type_1 ?_
  refine lv_iload_n hx hb d_O_type_4 rfl (lv_at hl 1 rfl) ?_
  refine va_calli (va_runV (As := [.int p1]) (rest := []) ⟨hx, hb, hml, hown, hts⟩ (c_W_has l dC dI kw qw s.heap.size v.1  p1) (cwV 1 hts k_g41 rfl rfl rfl (by decide +kernel) ⟨Nat.le_of_ble_eq_true rfl, Nat.le_of_ble_eq_true rfl⟩) ⟨fb_ro, va_recv hK hP (ci := 0) (q0 := 1) rfl rfl, fun U hU hW => ⟨rfl, by rw [hU], by rw [hU]; exact hP.sub (ws' := (wW kw qw v.1)) [1, 2, 3, 4, 5, 6, 7] rfl, va_K.moved hW.alike (hK.sub (tys' := (tW kw)) [0, 1, 2, 3, 4, 5] rfl), NX.warm hW hN⟩⟩ rfl rfl hl.1 rfl (lv_room (Nat.le_of_ble_eq_true rfl)) d_O_type_5 ⟨Nat.zero_le _, Nat.zero_le _⟩) hS (fun z h1 h2 => absurd h1 (Nat.not_lt.mpr h2)) (fun z h => hA z (Nat.le_trans hS.1 h)) (fun r u t H1 locs ht hvm hpo hB hz1 hk1 hS => ?_)
  subst hpo
  have hP := kp_P hP hk1
  generalize H1 = H at hP hS ⊢
  refine lv_if_ne (tgt := 13) hx hb d_O_type_8 (by decide) (fun c_1 => ?_) (fun c_1 => ?_)
  · have c_1 : ¬ ((f_W_has v.1 p1) = (0 : Int32)) := c_1
    refine lv_iload_n hx hb d_O_type_13 rfl (lv_at hl 2 rfl) ?_
    by_cases c_2 : p2 = (0 : Int32)
    · refine lv_tableIn (tgt := 68) (off := 54) hx hb d_O_type_14 (by rw [c_2]; decide +kernel) (by rw [c_2]; decide +kernel) (by rw [c_2]; rfl) (by decide) ?_
      refine lv_aload_n hx hb d_O_type_68 rfl (lv_at hl 0 rfl) ?_
      refine va_get (D := (dC, dI)) (ci := 2) (v := .ref (qw 0)) (C := R_O) (T := F_O) (N := 4) hx hb hts i_O hown hK hP 0 rfl rfl 0 (by decide) (hts _ k_22) (fun _ h9 => h9) rfl d_O_type_69 ?_
      refine lv_iload_n hx hb d_O_type_72 rfl (lv_at hl 1 rfl) ?_
      have hq_3 : vp_in p1 13 := by first | with_reducible assumption | exact in_has hw (by with_reducible assumption) | exact in_cls hw (by with_reducible assumption) | exact in_ifc hw (by with_reducible assumption) | exact in_ext hw (by with_reducible assumption) | exact in_eq0 (by with_reducible assumption) | exact hfd (by with_reducible assumption) | exact in_rcv hw (by with_reducible assumption) (Or.inl (by with_reducible assumption)) | exact in_rcv hw (by with_reducible assumption) (Or.inr (by with_reducible assumption))
      refine va_calli (va_runV (As := [.int p1]) (rest := []) ⟨hx, hb, hml, hown, hts⟩ (c_W_superclassOf l dC dI kw qw H.size v.1  p1 hq_3) (cwV 1 hts k_g40 rfl rfl rfl (by decide +kernel) ⟨Nat.le_of_ble_eq_true rfl, Nat.le_of_ble_eq_true rfl⟩) ⟨fb_ro, va_recv hK hP (ci := 0) (q0 := 1) rfl rfl, fun U hU hW => ⟨rfl, by rw [hU], by rw [hU]; exact hP.sub (ws' := (wW kw qw v.1)) [1, 2, 3, 4, 5, 6, 7] rfl, va_K.moved hW.alike (hK.sub (tys' := (tW kw)) [0, 1, 2, 3, 4, 5] rfl), NX.warm hW hN⟩⟩ rfl rfl hl.1 rfl (lv_room (Nat.le_of_ble_eq_true rfl)) d_O_type_73 ⟨Nat.zero_le _, Nat.zero_le _⟩) hS (fun z h1 h2 => absurd h1 (Nat.not_lt.mpr h2)) (fun z h => hA z (Nat.le_trans hS.1 h)) (fun r u t H1 locs ht hvm hpo hB hz1 hk1 hS => ?_)
      subst hpo
      have hP := kp_P hP hk1
      generalize H1 = H at hP hS ⊢
      exact W.iret (v := (f_W_superclassOf v.1 p1)) hx hb hr (fun t ht hW => ⟨⟨(f_W_superclassOf v.1 p1), (), rfl, by unfold f_O_type; rw [if_neg c_1, if_pos c_2], trivial⟩, hS.F ht⟩) hS.2.2 d_O_type_76
    · skip
      by_cases c_4 : p2 = (1 : Int32)
      · refine lv_tableIn (tgt := 77) (off := 63) hx hb d_O_type_14 (by rw [c_4]; decide +kernel) (by rw [c_4]; decide +kernel) (by rw [c_4]; rfl) (by decide) ?_
        refine lv_aload_n hx hb d_O_type_77 rfl (lv_at hl 0 rfl) ?_
        refine va_get (D := (dC, dI)) (ci := 2) (v := .ref (qw 0)) (C := R_O) (T := F_O) (N := 4) hx hb hts i_O hown hK hP 0 rfl rfl 0 (by decide) (hts _ k_22) (fun _ h9 => h9) rfl d_O_type_78 ?_
        refine lv_iload_n hx hb d_O_type_81 rfl (lv_at hl 1 rfl) ?_
        have hq_5 : vp_in p1 13 := by first | with_reducible assumption | exact in_has hw (by with_reducible assumption) | exact in_cls hw (by with_reducible assumption) | exact in_ifc hw (by with_reducible assumption) | exact in_ext hw (by with_reducible assumption) | exact in_eq0 (by with_reducible assumption) | exact hfd (by with_reducible assumption) | exact in_rcv hw (by with_reducible assumption) (Or.inl (by with_reducible assumption)) | exact in_rcv hw (by with_reducible assumption) (Or.inr (by with_reducible assumption))
        refine va_calli (va_runV (As := [.int p1]) (rest := []) ⟨hx, hb, hml, hown, hts⟩ (c_W_packageOf l dC dI kw qw H.size v.1  p1 hq_5) (cwV 1 hts k_g43 rfl rfl rfl (by decide +kernel) ⟨Nat.le_of_ble_eq_true rfl, Nat.le_of_ble_eq_true rfl⟩) ⟨fb_ro, va_recv hK hP (ci := 0) (q0 := 1) rfl rfl, fun U hU hW => ⟨rfl, by rw [hU], by rw [hU]; exact hP.sub (ws' := (wW kw qw v.1)) [1, 2, 3, 4, 5, 6, 7] rfl, va_K.moved hW.alike (hK.sub (tys' := (tW kw)) [0, 1, 2, 3, 4, 5] rfl), NX.warm hW hN⟩⟩ rfl rfl hl.1 rfl (lv_room (Nat.le_of_ble_eq_true rfl)) d_O_type_82 ⟨Nat.zero_le _, Nat.zero_le _⟩) hS (fun z h1 h2 => absurd h1 (Nat.not_lt.mpr h2)) (fun z h => hA z (Nat.le_trans hS.1 h)) (fun r u t H1 locs ht hvm hpo hB hz1 hk1 hS => ?_)
        subst hpo
        have hP := kp_P hP hk1
        generalize H1 = H at hP hS ⊢
        exact W.iret (v := (f_W_packageOf v.1 p1)) hx hb hr (fun t ht hW => ⟨⟨(f_W_packageOf v.1 p1), (), rfl, by unfold f_O_type; rw [if_neg c_1, if_neg c_2, if_pos c_4], trivial⟩, hS.F ht⟩) hS.2.2 d_O_type_85
      · skip
        by_cases c_6 : p2 = (2 : Int32)
        · refine lv_tableIn (tgt := 86) (off := 72) hx hb d_O_type_14 (by rw [c_6]; decide +kernel) (by rw [c_6]; decide +kernel) (by rw [c_6]; rfl) (by decide) ?_
          refine lv_aload_n hx hb d_O_type_86 rfl (lv_at hl 0 rfl) ?_
          refine va_get (D := (dC, dI)) (ci := 2) (v := .ref (qw 0)) (C := R_O) (T := F_O) (N := 4) hx hb hts i_O hown hK hP 0 rfl rfl 0 (by decide) (hts _ k_22) (fun _ h9 => h9) rfl d_O_type_87 ?_
          refine lv_iload_n hx hb d_O_type_90 rfl (lv_at hl 1 rfl) ?_
          have hq_7 : vp_in p1 13 := by first | with_reducible assumption | exact in_has hw (by with_reducible assumption) | exact in_cls hw (by with_reducible assumption) | exact in_ifc hw (by with_reducible assumption) | exact in_ext hw (by with_reducible assumption) | exact in_eq0 (by with_reducible assumption) | exact hfd (by with_reducible assumption) | exact in_rcv hw (by with_reducible assumption) (Or.inl (by with_reducible assumption)) | exact in_rcv hw (by with_reducible assumption) (Or.inr (by with_reducible assumption))
          refine va_calli (va_runV (As := [.int p1]) (rest := []) ⟨hx, hb, hml, hown, hts⟩ (c_W_hostOf l dC dI kw qw H.size v.1  p1 hq_7) (cwV 1 hts k_g44 rfl rfl rfl (by decide +kernel) ⟨Nat.le_of_ble_eq_true rfl, Nat.le_of_ble_eq_true rfl⟩) ⟨fb_ro, va_recv hK hP (ci := 0) (q0 := 1) rfl rfl, fun U hU hW => ⟨rfl, by rw [hU], by rw [hU]; exact hP.sub (ws' := (wW kw qw v.1)) [1, 2, 3, 4, 5, 6, 7] rfl, va_K.moved hW.alike (hK.sub (tys' := (tW kw)) [0, 1, 2, 3, 4, 5] rfl), NX.warm hW hN⟩⟩ rfl rfl hl.1 rfl (lv_room (Nat.le_of_ble_eq_true rfl)) d_O_type_91 ⟨Nat.zero_le _, Nat.zero_le _⟩) hS (fun z h1 h2 => absurd h1 (Nat.not_lt.mpr h2)) (fun z h => hA z (Nat.le_trans hS.1 h)) (fun r u t H1 locs ht hvm hpo hB hz1 hk1 hS => ?_)
          subst hpo
          have hP := kp_P hP hk1
          generalize H1 = H at hP hS ⊢
          exact W.iret (v := (f_W_hostOf v.1 p1)) hx hb hr (fun t ht hW => ⟨⟨(f_W_hostOf v.1 p1), (), rfl, by unfold f_O_type; rw [if_neg c_1, if_neg c_2, if_neg c_4, if_pos c_6], trivial⟩, hS.F ht⟩) hS.2.2 d_O_type_94
        · skip
          by_cases c_8 : p2 = (3 : Int32)
          · refine lv_tableIn (tgt := 95) (off := 81) hx hb d_O_type_14 (by rw [c_8]; decide +kernel) (by rw [c_8]; decide +kernel) (by rw [c_8]; rfl) (by decide) ?_
            refine lv_aload_n hx hb d_O_type_95 rfl (lv_at hl 0 rfl) ?_
            refine va_get (D := (dC, dI)) (ci := 2) (v := .ref (qw 0)) (C := R_O) (T := F_O) (N := 4) hx hb hts i_O hown hK hP 0 rfl rfl 0 (by decide) (hts _ k_22) (fun _ h9 => h9) rfl d_O_type_96 ?_
            refine lv_iload_n hx hb d_O_type_99 rfl (lv_at hl 1 rfl) ?_
            have hq_9 : vp_in p1 13 := by first | with_reducible assumption | exact in_has hw (by with_reducible assumption) | exact in_cls hw (by with_reducible assumption) | exact in_ifc hw (by with_reducible assumption) | exact in_ext hw (by with_reducible assumption) | exact in_eq0 (by with_reducible assumption) | exact hfd (by with_reducible assumption) | exact in_rcv hw (by with_reducible assumption) (Or.inl (by with_reducible assumption)) | exact in_rcv hw (by with_reducible assumption) (Or.inr (by with_reducible assumption))
            refine va_calli (va_runV (As := [.int p1]) (rest := []) ⟨hx, hb, hml, hown, hts⟩ (c_W_directCount l dC dI kw qw H.size v.1  p1 hq_9) (cwV 1 hts k_g45 rfl rfl rfl (by decide +kernel) ⟨Nat.le_of_ble_eq_true rfl, Nat.le_of_ble_eq_true rfl⟩) ⟨fb_ro, va_recv hK hP (ci := 0) (q0 := 1) rfl rfl, fun U hU hW => ⟨rfl, by rw [hU], by rw [hU]; exact hP.sub (ws' := (wW kw qw v.1)) [1, 2, 3, 4, 5, 6, 7] rfl, va_K.moved hW.alike (hK.sub (tys' := (tW kw)) [0, 1, 2, 3, 4, 5] rfl), NX.warm hW hN⟩⟩ rfl rfl hl.1 rfl (lv_room (Nat.le_of_ble_eq_true rfl)) d_O_type_100 ⟨Nat.zero_le _, Nat.zero_le _⟩) hS (fun z h1 h2 => absurd h1 (Nat.not_lt.mpr h2)) (fun z h => hA z (Nat.le_trans hS.1 h)) (fun r u t H1 locs ht hvm hpo hB hz1 hk1 hS => ?_)
            subst hpo
            have hP := kp_P hP hk1
            generalize H1 = H at hP hS ⊢
            exact W.iret (v := (f_W_directCount v.1 p1)) hx hb hr (fun t ht hW => ⟨⟨(f_W_directCount v.1 p1), (), rfl, by unfold f_O_type; rw [if_neg c_1, if_neg c_2, if_neg c_4, if_neg c_6, if_pos c_8], trivial⟩, hS.F ht⟩) hS.2.2 d_O_type_103
          · skip
            by_cases c_10 : p2 = (4 : Int32)
            · refine lv_tableIn (tgt := 104) (off := 90) hx hb d_O_type_14 (by rw [c_10]; decide +kernel) (by rw [c_10]; decide +kernel) (by rw [c_10]; rfl) (by decide) ?_
              refine lv_aload_n hx hb d_O_type_104 rfl (lv_at hl 0 rfl) ?_
              refine va_get (D := (dC, dI)) (ci := 2) (v := .ref (qw 0)) (C := R_O) (T := F_O) (N := 4) hx hb hts i_O hown hK hP 0 rfl rfl 0 (by decide) (hts _ k_22) (fun _ h9 => h9) rfl d_O_type_105 ?_
              refine lv_iload_n hx hb d_O_type_108 rfl (lv_at hl 1 rfl) ?_
              refine lv_iload_n hx hb d_O_type_109 rfl (lv_at hl 2 rfl) ?_
              refine lv_iconst (v := (4 : Int32)) hx hb d_O_type_110 (by decide +kernel) ?_
              refine lv_isub hx hb d_O_type_111 ?_
              have hq_11 : vp_in ((p1 * (4 : Int32)) + (p2 - (4 : Int32))) 52 := by first | with_reducible assumption | exact in_52 (by first | with_reducible assumption | exact in_has hw (by with_reducible assumption) | exact in_cls hw (by with_reducible assumption) | exact in_ifc hw (by with_reducible assumption) | exact in_ext hw (by with_reducible assumption) | exact in_eq0 (by with_reducible assumption) | exact hfd (by with_reducible assumption) | exact in_rcv hw (by with_reducible assumption) (Or.inl (by with_reducible assumption)) | exact in_rcv hw (by with_reducible assumption) (Or.inr (by with_reducible assumption))) (by first | with_reducible assumption | exact in_name (by with_reducible assumption) | exact in4_4 (by with_reducible assumption) | exact in4_5 (by with_reducible assumption) | exact in4_6 (by with_reducible assumption) | exact in4_7 (by with_reducible assumption))
              refine va_calli (va_runV (As := [.int p1, .int (p2 - (4 : Int32))]) (rest := []) ⟨hx, hb, hml, hown, hts⟩ (c_W_directAt l dC dI kw qw H.size v.1  p1 (p2 - (4 : Int32)) hq_11) (cwV 2 hts k_g46 rfl rfl rfl (by decide +kernel) ⟨Nat.le_of_ble_eq_true rfl, Nat.le_of_ble_eq_true rfl⟩) ⟨fb_ro, va_recv hK hP (ci := 0) (q0 := 1) rfl rfl, fun U hU hW => ⟨rfl, by rw [hU], by rw [hU]; exact hP.sub (ws' := (wW kw qw v.1)) [1, 2, 3, 4, 5, 6, 7] rfl, va_K.moved hW.alike (hK.sub (tys' := (tW kw)) [0, 1, 2, 3, 4, 5] rfl), NX.warm hW hN⟩⟩ rfl rfl hl.1 rfl (lv_room (Nat.le_of_ble_eq_true rfl)) d_O_type_112 ⟨Nat.zero_le _, Nat.zero_le _⟩) hS (fun z h1 h2 => absurd h1 (Nat.not_lt.mpr h2)) (fun z h => hA z (Nat.le_trans hS.1 h)) (fun r u t H1 locs ht hvm hpo hB hz1 hk1 hS => ?_)
              subst hpo
              have hP := kp_P hP hk1
              generalize H1 = H at hP hS ⊢
              exact W.iret (v := (f_W_directAt v.1 p1 (p2 - (4 : Int32)))) hx hb hr (fun t ht hW => ⟨⟨(f_W_directAt v.1 p1 (p2 - (4 : Int32))), (), rfl, by unfold f_O_type; rw [if_neg c_1, if_neg c_2, if_neg c_4, if_neg c_6, if_neg c_8, if_pos c_10], trivial⟩, hS.F ht⟩) hS.2.2 d_O_type_115
            · skip
              by_cases c_12 : p2 = (5 : Int32)
              · refine lv_tableIn (tgt := 104) (off := 90) hx hb d_O_type_14 (by rw [c_12]; decide +kernel) (by rw [c_12]; decide +kernel) (by rw [c_12]; rfl) (by decide) ?_
                refine lv_aload_n hx hb d_O_type_104 rfl (lv_at hl 0 rfl) ?_
                refine va_get (D := (dC, dI)) (ci := 2) (v := .ref (qw 0)) (C := R_O) (T := F_O) (N := 4) hx hb hts i_O hown hK hP 0 rfl rfl 0 (by decide) (hts _ k_22) (fun _ h9 => h9) rfl d_O_type_105 ?_
                refine lv_iload_n hx hb d_O_type_108 rfl (lv_at hl 1 rfl) ?_
                refine lv_iload_n hx hb d_O_type_109 rfl (lv_at hl 2 rfl) ?_
                refine lv_iconst (v := (4 : Int32)) hx hb d_O_type_110 (by decide +kernel) ?_
                refine lv_isub hx hb d_O_type_111 ?_
                have hq_13 : vp_in ((p1 * (4 : Int32)) + (p2 - (4 : Int32))) 52 := by first | with_reducible assumption | exact in_52 (by first | with_reducible assumption | exact in_has hw (by with_reducible assumption) | exact in_cls hw (by with_reducible assumption) | exact in_ifc hw (by with_reducible assumption) | exact in_ext hw (by with_reducible assumption) | exact in_eq0 (by with_reducible assumption) | exact hfd (by with_reducible assumption) | exact in_rcv hw (by with_reducible assumption) (Or.inl (by with_reducible assumption)) | exact in_rcv hw (by with_reducible assumption) (Or.inr (by with_reducible assumption))) (by first | with_reducible assumption | exact in_name (by with_reducible assumption) | exact in4_4 (by with_reducible assumption) | exact in4_5 (by with_reducible assumption) | exact in4_6 (by with_reducible assumption) | exact in4_7 (by with_reducible assumption))
                refine va_calli (va_runV (As := [.int p1, .int (p2 - (4 : Int32))]) (rest := []) ⟨hx, hb, hml, hown, hts⟩ (c_W_directAt l dC dI kw qw H.size v.1  p1 (p2 - (4 : Int32)) hq_13) (cwV 2 hts k_g46 rfl rfl rfl (by decide +kernel) ⟨Nat.le_of_ble_eq_true rfl, Nat.le_of_ble_eq_true rfl⟩) ⟨fb_ro, va_recv hK hP (ci := 0) (q0 := 1) rfl rfl, fun U hU hW => ⟨rfl, by rw [hU], by rw [hU]; exact hP.sub (ws' := (wW kw qw v.1)) [1, 2, 3, 4, 5, 6, 7] rfl, va_K.moved hW.alike (hK.sub (tys' := (tW kw)) [0, 1, 2, 3, 4, 5] rfl), NX.warm hW hN⟩⟩ rfl rfl hl.1 rfl (lv_room (Nat.le_of_ble_eq_true rfl)) d_O_type_112 ⟨Nat.zero_le _, Nat.zero_le _⟩) hS (fun z h1 h2 => absurd h1 (Nat.not_lt.mpr h2)) (fun z h => hA z (Nat.le_trans hS.1 h)) (fun r u t H1 locs ht hvm hpo hB hz1 hk1 hS => ?_)
                subst hpo
                have hP := kp_P hP hk1
                generalize H1 = H at hP hS ⊢
                exact W.iret (v := (f_W_directAt v.1 p1 (p2 - (4 : Int32)))) hx hb hr (fun t ht hW => ⟨⟨(f_W_directAt v.1 p1 (p2 - (4 : Int32))), (), rfl, by unfold f_O_type; rw [if_neg c_1, if_neg c_2, if_neg c_4, if_neg c_6, if_neg c_8, if_neg c_10, if_pos c_12], trivial⟩, hS.F ht⟩) hS.2.2 d_O_type_115
              · skip
                by_cases c_14 : p2 = (6 : Int32)
                · refine lv_tableIn (tgt := 104) (off := 90) hx hb d_O_type_14 (by rw [c_14]; decide +kernel) (by rw [c_14]; decide +kernel) (by rw [c_14]; rfl) (by decide) ?_
                  refine lv_aload_n hx hb d_O_type_104 rfl (lv_at hl 0 rfl) ?_
                  refine va_get (D := (dC, dI)) (ci := 2) (v := .ref (qw 0)) (C := R_O) (T := F_O) (N := 4) hx hb hts i_O hown hK hP 0 rfl rfl 0 (by decide) (hts _ k_22) (fun _ h9 => h9) rfl d_O_type_105 ?_
                  refine lv_iload_n hx hb d_O_type_108 rfl (lv_at hl 1 rfl) ?_
                  refine lv_iload_n hx hb d_O_type_109 rfl (lv_at hl 2 rfl) ?_
                  refine lv_iconst (v := (4 : Int32)) hx hb d_O_type_110 (by decide +kernel) ?_
                  refine lv_isub hx hb d_O_type_111 ?_
                  have hq_15 : vp_in ((p1 * (4 : Int32)) + (p2 - (4 : Int32))) 52 := by first | with_reducible assumption | exact in_52 (by first | with_reducible assumption | exact in_has hw (by with_reducible assumption) | exact in_cls hw (by with_reducible assumption) | exact in_ifc hw (by with_reducible assumption) | exact in_ext hw (by with_reducible assumption) | exact in_eq0 (by with_reducible assumption) | exact hfd (by with_reducible assumption) | exact in_rcv hw (by with_reducible assumption) (Or.inl (by with_reducible assumption)) | exact in_rcv hw (by with_reducible assumption) (Or.inr (by with_reducible assumption))) (by first | with_reducible assumption | exact in_name (by with_reducible assumption) | exact in4_4 (by with_reducible assumption) | exact in4_5 (by with_reducible assumption) | exact in4_6 (by with_reducible assumption) | exact in4_7 (by with_reducible assumption))
                  refine va_calli (va_runV (As := [.int p1, .int (p2 - (4 : Int32))]) (rest := []) ⟨hx, hb, hml, hown, hts⟩ (c_W_directAt l dC dI kw qw H.size v.1  p1 (p2 - (4 : Int32)) hq_15) (cwV 2 hts k_g46 rfl rfl rfl (by decide +kernel) ⟨Nat.le_of_ble_eq_true rfl, Nat.le_of_ble_eq_true rfl⟩) ⟨fb_ro, va_recv hK hP (ci := 0) (q0 := 1) rfl rfl, fun U hU hW => ⟨rfl, by rw [hU], by rw [hU]; exact hP.sub (ws' := (wW kw qw v.1)) [1, 2, 3, 4, 5, 6, 7] rfl, va_K.moved hW.alike (hK.sub (tys' := (tW kw)) [0, 1, 2, 3, 4, 5] rfl), NX.warm hW hN⟩⟩ rfl rfl hl.1 rfl (lv_room (Nat.le_of_ble_eq_true rfl)) d_O_type_112 ⟨Nat.zero_le _, Nat.zero_le _⟩) hS (fun z h1 h2 => absurd h1 (Nat.not_lt.mpr h2)) (fun z h => hA z (Nat.le_trans hS.1 h)) (fun r u t H1 locs ht hvm hpo hB hz1 hk1 hS => ?_)
                  subst hpo
                  have hP := kp_P hP hk1
                  generalize H1 = H at hP hS ⊢
                  exact W.iret (v := (f_W_directAt v.1 p1 (p2 - (4 : Int32)))) hx hb hr (fun t ht hW => ⟨⟨(f_W_directAt v.1 p1 (p2 - (4 : Int32))), (), rfl, by unfold f_O_type; rw [if_neg c_1, if_neg c_2, if_neg c_4, if_neg c_6, if_neg c_8, if_neg c_10, if_neg c_12, if_pos c_14], trivial⟩, hS.F ht⟩) hS.2.2 d_O_type_115
                · skip
                  by_cases c_16 : p2 = (7 : Int32)
                  · refine lv_tableIn (tgt := 104) (off := 90) hx hb d_O_type_14 (by rw [c_16]; decide +kernel) (by rw [c_16]; decide +kernel) (by rw [c_16]; rfl) (by decide) ?_
                    refine lv_aload_n hx hb d_O_type_104 rfl (lv_at hl 0 rfl) ?_
                    refine va_get (D := (dC, dI)) (ci := 2) (v := .ref (qw 0)) (C := R_O) (T := F_O) (N := 4) hx hb hts i_O hown hK hP 0 rfl rfl 0 (by decide) (hts _ k_22) (fun _ h9 => h9) rfl d_O_type_105 ?_
                    refine lv_iload_n hx hb d_O_type_108 rfl (lv_at hl 1 rfl) ?_
                    refine lv_iload_n hx hb d_O_type_109 rfl (lv_at hl 2 rfl) ?_
                    refine lv_iconst (v := (4 : Int32)) hx hb d_O_type_110 (by decide +kernel) ?_
                    refine lv_isub hx hb d_O_type_111 ?_
                    have hq_17 : vp_in ((p1 * (4 : Int32)) + (p2 - (4 : Int32))) 52 := by first | with_reducible assumption | exact in_52 (by first | with_reducible assumption | exact in_has hw (by with_reducible assumption) | exact in_cls hw (by with_reducible assumption) | exact in_ifc hw (by with_reducible assumption) | exact in_ext hw (by with_reducible assumption) | exact in_eq0 (by with_reducible assumption) | exact hfd (by with_reducible assumption) | exact in_rcv hw (by with_reducible assumption) (Or.inl (by with_reducible assumption)) | exact in_rcv hw (by with_reducible assumption) (Or.inr (by with_reducible assumption))) (by first | with_reducible assumption | exact in_name (by with_reducible assumption) | exact in4_4 (by with_reducible assumption) | exact in4_5 (by with_reducible assumption) | exact in4_6 (by with_reducible assumption) | exact in4_7 (by with_reducible assumption))
                    refine va_calli (va_runV (As := [.int p1, .int (p2 - (4 : Int32))]) (rest := []) ⟨hx, hb, hml, hown, hts⟩ (c_W_directAt l dC dI kw qw H.size v.1  p1 (p2 - (4 : Int32)) hq_17) (cwV 2 hts k_g46 rfl rfl rfl (by decide +kernel) ⟨Nat.le_of_ble_eq_true rfl, Nat.le_of_ble_eq_true rfl⟩) ⟨fb_ro, va_recv hK hP (ci := 0) (q0 := 1) rfl rfl, fun U hU hW => ⟨rfl, by rw [hU], by rw [hU]; exact hP.sub (ws' := (wW kw qw v.1)) [1, 2, 3, 4, 5, 6, 7] rfl, va_K.moved hW.alike (hK.sub (tys' := (tW kw)) [0, 1, 2, 3, 4, 5] rfl), NX.warm hW hN⟩⟩ rfl rfl hl.1 rfl (lv_room (Nat.le_of_ble_eq_true rfl)) d_O_type_112 ⟨Nat.zero_le _, Nat.zero_le _⟩) hS (fun z h1 h2 => absurd h1 (Nat.not_lt.mpr h2)) (fun z h => hA z (Nat.le_trans hS.1 h)) (fun r u t H1 locs ht hvm hpo hB hz1 hk1 hS => ?_)
                    subst hpo
                    have hP := kp_P hP hk1
                    generalize H1 = H at hP hS ⊢
                    exact W.iret (v := (f_W_directAt v.1 p1 (p2 - (4 : Int32)))) hx hb hr (fun t ht hW => ⟨⟨(f_W_directAt v.1 p1 (p2 - (4 : Int32))), (), rfl, by unfold f_O_type; rw [if_neg c_1, if_neg c_2, if_neg c_4, if_neg c_6, if_neg c_8, if_neg c_10, if_neg c_12, if_neg c_14, if_pos c_16], trivial⟩, hS.F ht⟩) hS.2.2 d_O_type_115
                  · skip
                    by_cases c_18 : p2 = (8 : Int32)
                    · refine lv_tableIn (tgt := 116) (off := 102) hx hb d_O_type_14 (by rw [c_18]; decide +kernel) (by rw [c_18]; decide +kernel) (by rw [c_18]; rfl) (by decide) ?_
                      refine lv_aload_n hx hb d_O_type_116 rfl (lv_at hl 0 rfl) ?_
                      refine va_get (D := (dC, dI)) (ci := 2) (v := .ref (qw 0)) (C := R_O) (T := F_O) (N := 4) hx hb hts i_O hown hK hP 0 rfl rfl 0 (by decide) (hts _ k_22) (fun _ h9 => h9) rfl d_O_type_117 ?_
                      refine lv_iload_n hx hb d_O_type_120 rfl (lv_at hl 1 rfl) ?_
                      have hq_19 : vp_in p1 13 := by first | with_reducible assumption | exact in_has hw (by with_reducible assumption) | exact in_cls hw (by with_reducible assumption) | exact in_ifc hw (by with_reducible assumption) | exact in_ext hw (by with_reducible assumption) | exact in_eq0 (by with_reducible assumption) | exact hfd (by with_reducible assumption) | exact in_rcv hw (by with_reducible assumption) (Or.inl (by with_reducible assumption)) | exact in_rcv hw (by with_reducible assumption) (Or.inr (by with_reducible assumption))
                      refine va_calli (va_runV (As := [.int p1]) (rest := []) ⟨hx, hb, hml, hown, hts⟩ (c_W_supertypes l dC dI kw qw H.size v.1  p1 hq_19) (cwV 1 hts k_g9 rfl rfl rfl (by decide +kernel) ⟨Nat.le_of_ble_eq_true rfl, Nat.le_of_ble_eq_true rfl⟩) ⟨fb_ro, va_recv hK hP (ci := 0) (q0 := 1) rfl rfl, fun U hU hW => ⟨rfl, by rw [hU], by rw [hU]; exact hP.sub (ws' := (wW kw qw v.1)) [1, 2, 3, 4, 5, 6, 7] rfl, va_K.moved hW.alike (hK.sub (tys' := (tW kw)) [0, 1, 2, 3, 4, 5] rfl), NX.warm hW hN⟩⟩ rfl rfl hl.1 rfl (lv_room (Nat.le_of_ble_eq_true rfl)) d_O_type_121 ⟨Nat.zero_le _, Nat.zero_le _⟩) hS (fun z h1 h2 => absurd h1 (Nat.not_lt.mpr h2)) (fun z h => hA z (Nat.le_trans hS.1 h)) (fun r u t H1 locs ht hvm hpo hB hz1 hk1 hS => ?_)
                      subst hpo
                      have hP := kp_P hP hk1
                      generalize H1 = H at hP hS ⊢
                      refine va_calli (va_runS (As := [.int (f_W_supertypes v.1 p1)]) (rest := []) ⟨hx, hb, hml, hown, hts⟩ (c_J_bitCount l dC dI  H.size   (f_W_supertypes v.1 p1)) ⟨callB_of 1 hts k_g15 rfl rfl rfl (hts _ k_25) (hts _ k_24) (by decide +kernel) ⟨Nat.le_of_ble_eq_true rfl, Nat.le_of_ble_eq_true rfl⟩, hts _ k_26⟩ ⟨fb_ro, fun U hU hW => ⟨rfl, by rw [hU], by rw [hU]; exact hP.sub (ws' := ([] : va_W)) [] rfl, va_K.moved hW.alike (hK.sub (tys' := []) [] rfl), NX.warm hW hN⟩⟩ rfl rfl hl.1 rfl (lv_room (Nat.le_of_ble_eq_true rfl)) d_O_type_124 ⟨Nat.zero_le _, Nat.zero_le _⟩) hS (fun z h1 h2 => absurd h1 (Nat.not_lt.mpr h2)) (fun z h => hA z (Nat.le_trans hS.1 h)) (fun r u t H1 locs ht hvm hpo hB hz1 hk1 hS => ?_)
                      subst hpo
                      have hP := kp_P hP hk1
                      generalize H1 = H at hP hS ⊢
                      exact W.iret (v := (f_J_bitCount (f_W_supertypes v.1 p1))) hx hb hr (fun t ht hW => ⟨⟨(f_J_bitCount (f_W_supertypes v.1 p1)), (), rfl, by unfold f_O_type; rw [if_neg c_1, if_neg c_2, if_neg c_4, if_neg c_6, if_neg c_8, if_neg c_10, if_neg c_12, if_neg c_14, if_neg c_16, if_pos c_18], trivial⟩, hS.F ht⟩) hS.2.2 d_O_type_127
                    · skip
                      by_cases c_20 : p2 = (9 : Int32)
                      · refine lv_tableIn (tgt := 128) (off := 114) hx hb d_O_type_14 (by rw [c_20]; decide +kernel) (by rw [c_20]; decide +kernel) (by rw [c_20]; rfl) (by decide) ?_
                        refine lv_aload_n hx hb d_O_type_128 rfl (lv_at hl 0 rfl) ?_
                        refine va_get (D := (dC, dI)) (ci := 2) (v := .ref (qw 0)) (C := R_O) (T := F_O) (N := 4) hx hb hts i_O hown hK hP 0 rfl rfl 0 (by decide) (hts _ k_22) (fun _ h9 => h9) rfl d_O_type_129 ?_
                        refine lv_iload_n hx hb d_O_type_132 rfl (lv_at hl 1 rfl) ?_
                        refine va_calli (va_runV (As := [.int p1]) (rest := []) ⟨hx, hb, hml, hown, hts⟩ (c_W_isInterface l dC dI kw qw H.size v.1  p1) (cwV 1 hts k_g33 rfl rfl rfl (by decide +kernel) ⟨Nat.le_of_ble_eq_true rfl, Nat.le_of_ble_eq_true rfl⟩) ⟨fb_ro, va_recv hK hP (ci := 0) (q0 := 1) rfl rfl, fun U hU hW => ⟨rfl, by rw [hU], by rw [hU]; exact hP.sub (ws' := (wW kw qw v.1)) [1, 2, 3, 4, 5, 6, 7] rfl, va_K.moved hW.alike (hK.sub (tys' := (tW kw)) [0, 1, 2, 3, 4, 5] rfl), NX.warm hW hN⟩⟩ rfl rfl hl.1 rfl (lv_room (Nat.le_of_ble_eq_true rfl)) d_O_type_133 ⟨Nat.zero_le _, Nat.zero_le _⟩) hS (fun z h1 h2 => absurd h1 (Nat.not_lt.mpr h2)) (fun z h => hA z (Nat.le_trans hS.1 h)) (fun r u t H1 locs ht hvm hpo hB hz1 hk1 hS => ?_)
                        subst hpo
                        have hP := kp_P hP hk1
                        generalize H1 = H at hP hS ⊢
                        refine lv_if_eq (tgt := 143) hx hb d_O_type_136 (by decide) (fun c_21 => ?_) (fun c_21 => ?_)
                        · have c_21 : (f_W_isInterface v.1 p1) = (0 : Int32) := c_21
                          refine lv_iconst (v := (0 : Int32)) hx hb d_O_type_143 (by decide +kernel) ?_
                          exact W.iret (v := (0 : Int32)) hx hb hr (fun t ht hW => ⟨⟨(0 : Int32), (), rfl, by unfold f_O_type; rw [if_neg c_1, if_neg c_2, if_neg c_4, if_neg c_6, if_neg c_8, if_neg c_10, if_neg c_12, if_neg c_14, if_neg c_16, if_neg c_18, if_pos c_20, if_pos c_21], trivial⟩, hS.F ht⟩) hS.2.2 d_O_type_144
                        · have c_21 : ¬ ((f_W_isInterface v.1 p1) = (0 : Int32)) := c_21
                          refine lv_iconst (v := (1 : Int32)) hx hb d_O_type_139 (by decide +kernel) ?_
                          refine lv_goto (tgt := 144) hx hb d_O_type_140 (by decide) ?_
                          exact W.iret (v := (1 : Int32)) hx hb hr (fun t ht hW => ⟨⟨(1 : Int32), (), rfl, by unfold f_O_type; rw [if_neg c_1, if_neg c_2, if_neg c_4, if_neg c_6, if_neg c_8, if_neg c_10, if_neg c_12, if_neg c_14, if_neg c_16, if_neg c_18, if_pos c_20, if_neg c_21], trivial⟩, hS.F ht⟩) hS.2.2 d_O_type_144
                      · skip
                        refine lv_tableOut (tgt := 145) hx hb d_O_type_14 (by have z0 := ne_ti (z := 0) c_2 rfl; have z1 := ne_ti (z := 1) c_4 rfl; have z2 := ne_ti (z := 2) c_6 rfl; have z3 := ne_ti (z := 3) c_8 rfl; have z4 := ne_ti (z := 4) c_10 rfl; have z5 := ne_ti (z := 5) c_12 rfl; have z6 := ne_ti (z := 6) c_14 rfl; have z7 := ne_ti (z := 7) c_16 rfl; have z8 := ne_ti (z := 8) c_18 rfl; have z9 := ne_ti (z := 9) c_20 rfl; omega) (by decide) ?_
                        refine lv_iconst (v := (-1 : Int32)) hx hb d_O_type_145 (by decide +kernel) ?_
                        exact W.iret (v := (-1 : Int32)) hx hb hr (fun t ht hW => ⟨⟨(-1 : Int32), (), rfl, by unfold f_O_type; rw [if_neg c_1, if_neg c_2, if_neg c_4, if_neg c_6, if_neg c_8, if_neg c_10, if_neg c_12, if_neg c_14, if_neg c_16, if_neg c_18, if_neg c_20], trivial⟩, hS.F ht⟩) hS.2.2 d_O_type_146
  · have c_1 : (f_W_has v.1 p1) = (0 : Int32) := c_1
    refine lv_iconst (v := (-1 : Int32)) hx hb d_O_type_11 (by decide +kernel) ?_
    exact W.iret (v := (-1 : Int32)) hx hb hr (fun t ht hW => ⟨⟨(-1 : Int32), (), rfl, by unfold f_O_type; rw [if_pos c_1], trivial⟩, hS.F ht⟩) hS.2.2 d_O_type_12
