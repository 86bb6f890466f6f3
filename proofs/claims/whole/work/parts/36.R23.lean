set_option maxHeartbeats 1000000 in
set_option maxRecDepth 100000 in
theorem c_R_overriding (l : Launch) (dC : Nat → ClassId) (dI : Nat → Nat → Nat) (ka : Nat → ClassId) (qa : Nat → Nat) (sz : Nat) (b0 b1 : Int32) (a0 a1 a2 a3 a4 a5 a6 a7 a8 a9 a10 a11 a12 : Nat → Int32) (p1 p2 p3 : Int32) (hp1 : vp_in p1 13) (hp2 : vp_in p2 13) (hp3 : vp_in p3 4) (hpa : vPar a4) : Met l y_R_overriding w_R_overriding ({ frames := 1, cells := 0, slots := 0, locals := 22 } : Room) (ro_P dC dI (wR ka qa b0 b1 a0 a1 a2 a3 a4 a5 a6 a7 a8 a9 a10 a11 a12) (tR ka) sz [.ref (qa 0), .int p1, .int p2, .int p3]) (ro_Q sz (f_R_overriding a3 a4 a9 a10 a11 p1 p2 p3)) 0 0 (fun z => sz ≤ z) := by
  refine Met.ofW (cc := b_R_overriding) (maxL := 6) (ret := (some .boolean)) (by decide) rfl ?_
  intro p e s m args below meth c s₁ B hml hv
  obtain ⟨rfl, hsz, hP, hK, hN⟩ := hv
  have hx := B.exec
  have hb := B.bytes
  have hr := B.returns
  have hts := tl_of (atoms_spec (ws := w_R_overriding) B.pre)
  have hown : s.vm.findClass R_R = some m.cls := findClass_of_methodNamed B.named
  have hlocks := B.notSynchronized
  subst hsz
  have hA : ∀ z : Nat, s.heap.size ≤ z → (fun z : Nat => s.heap.size ≤ z) z := fun _ h => h
  have hS : va_S (fun z : Nat => s.heap.size ≤ z) s.heap s.heap [] := va_S.rf
  have hl := lv_entry ([.ref (qa 0), .int p1, .int p2, .int p3]) (n := 6) (Nat.le_of_ble_eq_true rfl)
  rw [lg_entry_eq]
  generalize (lg_sl ([.ref (qa 0), .int p1, .int p2, .int p3]) ++ List.replicate (6 - (lg_sl ([.ref (qa 0), .int p1, .int p2, .int p3])).length) Slot.unset).toArray = ls at hl ⊢
  have hl : lv_has ls 6 [(0, .ref (qa 0)), (1, .int p1), (2, .int p2), (3, .int p3)] := hl
  refine lv_aload_n hx hb d_R_overriding_0 rfl (lv_at hl 0 rfl) ?_
  refine lv_iload_n hx hb d_R_overriding_1 rfl (lv_at hl 1 rfl) ?_
  refine lv_iload_n hx hb d_R_overriding_2 rfl (lv_at hl 3 rfl) ?_
  have hq_1 : vp_in p1 13 := by first | with_reducible assumption | exact rin_has hT (by with_reducible assumption)
  have hq_2 : vp_in p3 4 := by first | with_reducible assumption | exact jn_name (by with_reducible assumption)
  refine va_calli (va_runV (As := [.int p1, .int p3]) (rest := []) ⟨hx, hb, hml, hown, hts⟩ (c_R_has l dC dI ka qa s.heap.size b0 b1 a0 a1 a2 a3 a4 a5 a6 a7 a8 a9 a10 a11 a12 p1 p3 hq_1 hq_2) (cwV 2 hts k_g73 rfl rfl rfl (by decide +kernel) ⟨Nat.le_of_ble_eq_true rfl, Nat.le_of_ble_eq_true rfl⟩) ⟨fb_ro, va_recv hK hP (ci := 3) (q0 := 0) rfl rfl, fun U hU hW => ⟨rfl, by rw [hU], by rw [hU]; exact hP, va_K.moved hW.alike (hK), NX.warm hW hN⟩⟩ rfl rfl hl.1 rfl (lv_room (Nat.le_of_ble_eq_true rfl)) d_R_overriding_3 ⟨Nat.zero_le _, Nat.zero_le _⟩) hS (fun z h1 h2 => absurd h1 (Nat.not_lt.mpr h2)) (fun z h => hA z (Nat.le_trans hS.1 h)) (fun r u t H1 locs ht hvm hpo hB hz1 hk1 hS => ?_)
  subst hpo
  have hP := kp_P hP hk1
  generalize H1 = H at hP hS ⊢
  refine lv_if_eq (tgt := 45) hx hb d_R_overriding_6 (by decide) (fun c_3 => ?_) (fun c_3 => ?_)
  · have c_3 : (f_R_has a9 p1 p3) = (0 : Int32) := c_3
    refine lv_iconst (v := (0 : Int32)) hx hb d_R_overriding_45 (by decide +kernel) ?_
    exact W.zret (v := (0 : Int32)) hx hb hr (by decide +kernel) (fun t ht hW => ⟨⟨(0 : Int32), (), rfl, by unfold f_R_overriding; rw [if_pos c_3], trivial⟩, hS.F ht⟩) hS.2.2 d_R_overriding_46
  · have c_3 : ¬ ((f_R_has a9 p1 p3) = (0 : Int32)) := c_3
    refine lv_aload_n hx hb d_R_overriding_9 rfl (lv_at hl 0 rfl) ?_
    refine lv_iload_n hx hb d_R_overriding_10 rfl (lv_at hl 2 rfl) ?_
    refine lv_iload_n hx hb d_R_overriding_11 rfl (lv_at hl 3 rfl) ?_
    have hq_4 : vp_in p2 13 := by first | with_reducible assumption | exact rin_has hT (by with_reducible assumption)
    have hq_5 : vp_in p3 4 := by first | with_reducible assumption | exact jn_name (by with_reducible assumption)
    refine va_calli (va_runV (As := [.int p2, .int p3]) (rest := []) ⟨hx, hb, hml, hown, hts⟩ (c_R_has l dC dI ka qa H.size b0 b1 a0 a1 a2 a3 a4 a5 a6 a7 a8 a9 a10 a11 a12 p2 p3 hq_4 hq_5) (cwV 2 hts k_g73 rfl rfl rfl (by decide +kernel) ⟨Nat.le_of_ble_eq_true rfl, Nat.le_of_ble_eq_true rfl⟩) ⟨fb_ro, va_recv hK hP (ci := 3) (q0 := 0) rfl rfl, fun U hU hW => ⟨rfl, by rw [hU], by rw [hU]; exact hP, va_K.moved hW.alike (hK), NX.warm hW hN⟩⟩ rfl rfl hl.1 rfl (lv_room (Nat.le_of_ble_eq_true rfl)) d_R_overriding_12 ⟨Nat.zero_le _, Nat.zero_le _⟩) hS (fun z h1 h2 => absurd h1 (Nat.not_lt.mpr h2)) (fun z h => hA z (Nat.le_trans hS.1 h)) (fun r u t H1 locs ht hvm hpo hB hz1 hk1 hS => ?_)
    subst hpo
    have hP := kp_P hP hk1
    generalize H1 = H at hP hS ⊢
    refine lv_if_eq (tgt := 45) hx hb d_R_overriding_15 (by decide) (fun c_6 => ?_) (fun c_6 => ?_)
    · have c_6 : (f_R_has a9 p2 p3) = (0 : Int32) := c_6
      refine lv_iconst (v := (0 : Int32)) hx hb d_R_overriding_45 (by decide +kernel) ?_
      exact W.zret (v := (0 : Int32)) hx hb hr (by decide +kernel) (fun t ht hW => ⟨⟨(0 : Int32), (), rfl, by unfold f_R_overriding; rw [if_neg c_3, if_pos c_6], trivial⟩, hS.F ht⟩) hS.2.2 d_R_overriding_46
    · have c_6 : ¬ ((f_R_has a9 p2 p3) = (0 : Int32)) := c_6
      refine lv_aload_n hx hb d_R_overriding_18 rfl (lv_at hl 0 rfl) ?_
      refine lv_iload_n hx hb d_R_overriding_19 rfl (lv_at hl 1 rfl) ?_
      refine lv_iload_n hx hb d_R_overriding_20 rfl (lv_at hl 3 rfl) ?_
      have hq_7 : vp_in p1 13 := by first | with_reducible assumption | exact rin_has hT (by with_reducible assumption)
      have hq_8 : vp_in p3 4 := by first | with_reducible assumption | exact jn_name (by with_reducible assumption)
      refine va_calli (va_runV (As := [.int p1, .int p3]) (rest := []) ⟨hx, hb, hml, hown, hts⟩ (c_R_isStatic l dC dI ka qa H.size b0 b1 a0 a1 a2 a3 a4 a5 a6 a7 a8 a9 a10 a11 a12 p1 p3 hq_7 hq_8) (cwV 2 hts k_g74 rfl rfl rfl (by decide +kernel) ⟨Nat.le_of_ble_eq_true rfl, Nat.le_of_ble_eq_true rfl⟩) ⟨fb_ro, va_recv hK hP (ci := 3) (q0 := 0) rfl rfl, fun U hU hW => ⟨rfl, by rw [hU], by rw [hU]; exact hP, va_K.moved hW.alike (hK), NX.warm hW hN⟩⟩ rfl rfl hl.1 rfl (lv_room (Nat.le_of_ble_eq_true rfl)) d_R_overriding_21 ⟨Nat.zero_le _, Nat.zero_le _⟩) hS (fun z h1 h2 => absurd h1 (Nat.not_lt.mpr h2)) (fun z h => hA z (Nat.le_trans hS.1 h)) (fun r u t H1 locs ht hvm hpo hB hz1 hk1 hS => ?_)
      subst hpo
      have hP := kp_P hP hk1
      generalize H1 = H at hP hS ⊢
      refine lv_if_ne (tgt := 45) hx hb d_R_overriding_24 (by decide) (fun c_9 => ?_) (fun c_9 => ?_)
      · have c_9 : ¬ ((f_R_isStatic a9 p1 p3) = (0 : Int32)) := c_9
        refine lv_iconst (v := (0 : Int32)) hx hb d_R_overriding_45 (by decide +kernel) ?_
        exact W.zret (v := (0 : Int32)) hx hb hr (by decide +kernel) (fun t ht hW => ⟨⟨(0 : Int32), (), rfl, by unfold f_R_overriding; rw [if_neg c_3, if_neg c_6, if_neg c_9], trivial⟩, hS.F ht⟩) hS.2.2 d_R_overriding_46
      · have c_9 : (f_R_isStatic a9 p1 p3) = (0 : Int32) := c_9
        refine lv_aload_n hx hb d_R_overriding_27 rfl (lv_at hl 0 rfl) ?_
        refine lv_iload_n hx hb d_R_overriding_28 rfl (lv_at hl 2 rfl) ?_
        refine lv_iload_n hx hb d_R_overriding_29 rfl (lv_at hl 3 rfl) ?_
        have hq_10 : vp_in p2 13 := by first | with_reducible assumption | exact rin_has hT (by with_reducible assumption)
        have hq_11 : vp_in p3 4 := by first | with_reducible assumption | exact jn_name (by with_reducible assumption)
        refine va_calli (va_runV (As := [.int p2, .int p3]) (rest := []) ⟨hx, hb, hml, hown, hts⟩ (c_R_isStatic l dC dI ka qa H.size b0 b1 a0 a1 a2 a3 a4 a5 a6 a7 a8 a9 a10 a11 a12 p2 p3 hq_10 hq_11) (cwV 2 hts k_g74 rfl rfl rfl (by decide +kernel) ⟨Nat.le_of_ble_eq_true rfl, Nat.le_of_ble_eq_true rfl⟩) ⟨fb_ro, va_recv hK hP (ci := 3) (q0 := 0) rfl rfl, fun U hU hW => ⟨rfl, by rw [hU], by rw [hU]; exact hP, va_K.moved hW.alike (hK), NX.warm hW hN⟩⟩ rfl rfl hl.1 rfl (lv_room (Nat.le_of_ble_eq_true rfl)) d_R_overriding_30 ⟨Nat.zero_le _, Nat.zero_le _⟩) hS (fun z h1 h2 => absurd h1 (Nat.not_lt.mpr h2)) (fun z h => hA z (Nat.le_trans hS.1 h)) (fun r u t H1 locs ht hvm hpo hB hz1 hk1 hS => ?_)
        subst hpo
        have hP := kp_P hP hk1
        generalize H1 = H at hP hS ⊢
        refine lv_if_ne (tgt := 45) hx hb d_R_overriding_33 (by decide) (fun c_12 => ?_) (fun c_12 => ?_)
        · have c_12 : ¬ ((f_R_isStatic a9 p2 p3) = (0 : Int32)) := c_12
          refine lv_iconst (v := (0 : Int32)) hx hb d_R_overriding_45 (by decide +kernel) ?_
          exact W.zret (v := (0 : Int32)) hx hb hr (by decide +kernel) (fun t ht hW => ⟨⟨(0 : Int32), (), rfl, by unfold f_R_overriding; rw [if_neg c_3, if_neg c_6, if_pos c_9, if_neg c_12], trivial⟩, hS.F ht⟩) hS.2.2 d_R_overriding_46
        · have c_12 : (f_R_isStatic a9 p2 p3) = (0 : Int32) := c_12
          refine lv_aload_n hx hb d_R_overriding_36 rfl (lv_at hl 0 rfl) ?_
          refine lv_iload_n hx hb d_R_overriding_37 rfl (lv_at hl 1 rfl) ?_
          refine lv_iload_n hx hb d_R_overriding_38 rfl (lv_at hl 2 rfl) ?_
          have hq_13 : vp_in p1 13 := by first | with_reducible assumption | exact rin_has hT (by with_reducible assumption)
          refine va_calli (va_runV (As := [.int p1, .int p2]) (rest := []) ⟨hx, hb, hml, hown, hts⟩ (c_R_is l dC dI ka qa H.size b0 b1 a0 a1 a2 a3 a4 a5 a6 a7 a8 a9 a10 a11 a12 p1 p2 hq_13) (cwV 2 hts k_g70 rfl rfl rfl (by decide +kernel) ⟨Nat.le_of_ble_eq_true rfl, Nat.le_of_ble_eq_true rfl⟩) ⟨fb_ro, va_recv hK hP (ci := 3) (q0 := 0) rfl rfl, fun U hU hW => ⟨rfl, by rw [hU], by rw [hU]; exact hP, va_K.moved hW.alike (hK), NX.warm hW hN⟩⟩ rfl rfl hl.1 rfl (lv_room (Nat.le_of_ble_eq_true rfl)) d_R_overriding_39 ⟨Nat.zero_le _, Nat.zero_le _⟩) hS (fun z h1 h2 => absurd h1 (Nat.not_lt.mpr h2)) (fun z h => hA z (Nat.le_trans hS.1 h)) (fun r u t H1 locs ht hvm hpo hB hz1 hk1 hS => ?_)
          subst hpo
          have hP := kp_P hP hk1
          generalize H1 = H at hP hS ⊢
          refine lv_if_ne (tgt := 47) hx hb d_R_overriding_42 (by decide) (fun c_14 => ?_) (fun c_14 => ?_)
          · have c_14 : ¬ ((f_R_is a10 p1 p2) = (0 : Int32)) := c_14
            refine lv_iload_n hx hb d_R_overriding_47 rfl (lv_at hl 1 rfl) ?_
            refine lv_iload_n hx hb d_R_overriding_48 rfl (lv_at hl 2 rfl) ?_
            refine lv_icmp_ne (tgt := 54) hx hb d_R_overriding_49 (by decide) (fun c_15 => ?_) (fun c_15 => ?_)
            · have c_15 : ¬ (p1 = p2) := c_15
              refine lv_aload_n hx hb d_R_overriding_54 rfl (lv_at hl 0 rfl) ?_
              refine va_get (D := (dC, dI)) (ci := 3) (v := .ref (qa 10)) (C := R_R) (T := F_R) (N := 15) hx hb hts i_R hown hK hP 0 rfl rfl 10 (by decide) (hts _ k_49) (fun _ h9 => h9) rfl d_R_overriding_55 ?_
              refine lv_iconst (v := (4 : Int32)) hx hb d_R_overriding_58 (by decide +kernel) ?_
              refine lv_iload_n hx hb d_R_overriding_59 rfl (lv_at hl 2 rfl) ?_
              refine lv_imul hx hb d_R_overriding_60 ?_
              refine lv_iload_n hx hb d_R_overriding_61 rfl (lv_at hl 3 rfl) ?_
              refine lv_iadd hx hb d_R_overriding_62 ?_
              have hi_16 : vp_in (((4 : Int32) * p2) + p3) 52 := by first | with_reducible assumption | exact jn_52 (by first | with_reducible assumption | exact rin_has hT (by with_reducible assumption)) (by first | with_reducible assumption | exact jn_name (by with_reducible assumption))
              refine va_iald (D := (dC, dI)) (f := a9) hx hb hK hP 10 9 rfl rfl hi_16 d_R_overriding_63 ?_
              refine lv_iconst (v := (3 : Int32)) hx hb d_R_overriding_64 (by decide +kernel) ?_
              refine lv_iand hx hb d_R_overriding_65 ?_
              refine lv_istore (lv' := [(4, .int ((a9 (((4 : Int32) * p2) + p3).toNatClampNeg) &&& (3 : Int32))), (0, .ref (qa 0)), (1, .int p1), (2, .int p2), (3, .int p3)]) hx hb d_R_overriding_66 hl (by decide) rfl (fun ls hl => ?_)
              refine lv_aload_n hx hb d_R_overriding_68 rfl (lv_at hl 1 rfl) ?_
              refine lv_iload_n hx hb d_R_overriding_69 rfl (lv_at hl 2 rfl) ?_
              refine lv_iload_n hx hb d_R_overriding_70 rfl (lv_at hl 4 rfl) ?_
              have hq_17 : vp_in p1 13 := by first | with_reducible assumption | exact rin_has hT (by with_reducible assumption)
              have hq_18 : vp_in p3 4 := by first | with_reducible assumption | exact jn_name (by with_reducible assumption)
              refine va_calli (va_runV (As := [.int p1, .int p3]) (rest := []) ⟨hx, hb, hml, hown, hts⟩ (c_R_isPrivate l dC dI ka qa H.size b0 b1 a0 a1 a2 a3 a4 a5 a6 a7 a8 a9 a10 a11 a12 p1 p3 hq_17 hq_18) (cwV 2 hts k_g75 rfl rfl rfl (by decide +kernel) ⟨Nat.le_of_ble_eq_true rfl, Nat.le_of_ble_eq_true rfl⟩) ⟨fb_ro, va_recv hK hP (ci := 3) (q0 := 0) rfl rfl, fun U hU hW => ⟨rfl, by rw [hU], by rw [hU]; exact hP, va_K.moved hW.alike (hK), NX.warm hW hN⟩⟩ rfl rfl hl.1 rfl (lv_room (Nat.le_of_ble_eq_true rfl)) d_R_overriding_71 ⟨Nat.zero_le _, Nat.zero_le _⟩) hS (fun z h1 h2 => absurd h1 (Nat.not_lt.mpr h2)) (fun z h => hA z (Nat.le_trans hS.1 h)) (fun r u t H1 locs ht hvm hpo hB hz1 hk1 hS => ?_)
              subst hpo
              have hP := kp_P hP hk1
              generalize H1 = H at hP hS ⊢
              refine lv_if_ne (tgt := 82) hx hb d_R_overriding_74 (by decide) (fun c_19 => ?_) (fun c_19 => ?_)
              · have c_19 : ¬ ((f_R_isPrivate a9 p1 p3) = (0 : Int32)) := c_19
                refine lv_iconst (v := (0 : Int32)) hx hb d_R_overriding_82 (by decide +kernel) ?_
                exact W.zret (v := (0 : Int32)) hx hb hr (by decide +kernel) (fun t ht hW => ⟨⟨(0 : Int32), (), rfl, by unfold f_R_overriding; rw [if_neg c_3, if_neg c_6, if_pos c_9, if_pos c_12, if_neg c_14, if_neg c_15, if_neg c_19], trivial⟩, hS.F ht⟩) hS.2.2 d_R_overriding_83
              · have c_19 : (f_R_isPrivate a9 p1 p3) = (0 : Int32) := c_19
                refine lv_iload hx hb d_R_overriding_77 (lv_at hl 0 rfl) ?_
                refine lv_if_ne (tgt := 84) hx hb d_R_overriding_79 (by decide) (fun c_20 => ?_) (fun c_20 => ?_)
                · have c_20 : ¬ (((a9 (((4 : Int32) * p2) + p3).toNatClampNeg) &&& (3 : Int32)) = (0 : Int32)) := c_20
                  refine lv_iload hx hb d_R_overriding_84 (lv_at hl 0 rfl) ?_
                  refine lv_iconst (v := (1 : Int32)) hx hb d_R_overriding_86 (by decide +kernel) ?_
                  refine lv_icmp_gt (tgt := 105) hx hb d_R_overriding_87 (by decide) (fun c_21 => ?_) (fun c_21 => ?_)
                  · have c_21 : (1 : Int32) < ((a9 (((4 : Int32) * p2) + p3).toNatClampNeg) &&& (3 : Int32)) := c_21
                    refine lv_iconst (v := (1 : Int32)) hx hb d_R_overriding_105 (by decide +kernel) ?_
                    exact W.zret (v := (1 : Int32)) hx hb hr (by decide +kernel) (fun t ht hW => ⟨⟨(1 : Int32), (), rfl, by unfold f_R_overriding; rw [if_neg c_3, if_neg c_6, if_pos c_9, if_pos c_12, if_neg c_14, if_neg c_15, if_pos c_19, if_neg c_20, if_pos c_21], trivial⟩, hS.F ht⟩) hS.2.2 d_R_overriding_106
                  · have c_21 : ¬ ((1 : Int32) < ((a9 (((4 : Int32) * p2) + p3).toNatClampNeg) &&& (3 : Int32))) := c_21
                    refine lv_aload_n hx hb d_R_overriding_90 rfl (lv_at hl 1 rfl) ?_
                    refine va_get (D := (dC, dI)) (ci := 3) (v := .ref (qa 4)) (C := R_R) (T := F_R) (N := 15) hx hb hts i_R hown hK hP 0 rfl rfl 4 (by decide) (hts _ k_47) (fun _ h9 => h9) rfl d_R_overriding_91 ?_
                    refine lv_iload_n hx hb d_R_overriding_94 rfl (lv_at hl 2 rfl) ?_
                    have hi_22 : vp_in p1 13 := by first | with_reducible assumption | exact rin_has hT (by with_reducible assumption)
                    refine va_iald (D := (dC, dI)) (f := a3) hx hb hK hP 4 3 rfl rfl hi_22 d_R_overriding_95 ?_
                    refine lv_aload_n hx hb d_R_overriding_96 rfl (lv_at hl 1 rfl) ?_
                    refine va_get (D := (dC, dI)) (ci := 3) (v := .ref (qa 4)) (C := R_R) (T := F_R) (N := 15) hx hb hts i_R hown hK hP 0 rfl rfl 4 (by decide) (hts _ k_47) (fun _ h9 => h9) rfl d_R_overriding_97 ?_
                    refine lv_iload_n hx hb d_R_overriding_100 rfl (lv_at hl 3 rfl) ?_
                    have hi_23 : vp_in p2 13 := by first | with_reducible assumption | exact rin_has hT (by with_reducible assumption)
                    refine va_iald (D := (dC, dI)) (f := a3) hx hb hK hP 4 3 rfl rfl hi_23 d_R_overriding_101 ?_
                    refine lv_icmp_ne (tgt := 107) hx hb d_R_overriding_102 (by decide) (fun c_24 => ?_) (fun c_24 => ?_)
                    · have c_24 : ¬ ((a3 p1.toNatClampNeg) = (a3 p2.toNatClampNeg)) := c_24
                      refine lv_aload_n hx hb d_R_overriding_107 rfl (lv_at hl 1 rfl) ?_
                      refine va_get (D := (dC, dI)) (ci := 3) (v := .ref (qa 5)) (C := R_R) (T := F_R) (N := 15) hx hb hts i_R hown hK hP 0 rfl rfl 5 (by decide) (hts _ k_50) (fun _ h9 => h9) rfl d_R_overriding_108 ?_
                      refine lv_iload_n hx hb d_R_overriding_111 rfl (lv_at hl 2 rfl) ?_
                      have hi_25 : vp_in p1 13 := by first | with_reducible assumption | exact rin_has hT (by with_reducible assumption)
                      refine va_iald (D := (dC, dI)) (f := a4) hx hb hK hP 5 4 rfl rfl hi_25 d_R_overriding_112 ?_
                      refine lv_istore (lv' := [(5, .int (a4 p1.toNatClampNeg)), (4, .int ((a9 (((4 : Int32) * p2) + p3).toNatClampNeg) &&& (3 : Int32))), (0, .ref (qa 0)), (1, .int p1), (2, .int p2), (3, .int p3)]) hx hb d_R_overriding_113 hl (by decide) rfl (fun ls hl => ?_)
                      have LOOP_115 : ∀ (n k : Nat) (x5 : Int32) (H : Heap) (locs : List Loc) (ls : Array Slot), x5 = nI k → k + 1 ≤ n → k ≤ 12 → lr_R_overriding_115 a3 a4 a9 a10 a11 p1 p2 p3  n x5 = (f_R_overriding a3 a4 a9 a10 a11 p1 p2 p3) → va_P (dC, dI) classes (wR ka qa b0 b1 a0 a1 a2 a3 a4 a5 a6 a7 a8 a9 a10 a11 a12) H → va_S (fun z : Nat => s.heap.size ≤ z) s.heap H locs → lv_has ls 6 [(5, .int x5), (4, .int ((a9 (((4 : Int32) * p2) + p3).toNatClampNeg) &&& (3 : Int32))), (0, .ref (qa 0)), (1, .int p1), (2, .int p2), (3, .int p3)] → W p l e (headSpec w_R_overriding ({ frames := 1, cells := 0, slots := 0, locals := 22 } : Room)).room s m ([.ref (qa 0), .int p1, .int p2, .int p3] : List Value).toArray below meth c H locs 0 0 (MQ below (ro_Q s.heap.size (f_R_overriding a3 a4 a9 a10 a11 p1 p2 p3)) ([.ref (qa 0), .int p1, .int p2, .int p3] : List Value).toArray s 0 0 (fun z => s.heap.size ≤ z)) (F0 m 115 ls []) := by
                        intro n
                        induction n with
                        | zero =>
                          intro k x5 H locs ls et h1 h2
                          exfalso; omega
                        | succ n ih =>
                          intro k x5 H locs ls et h1 h2 hF hP hS hl
                          refine lv_iload hx hb d_R_overriding_115 (lv_at hl 0 rfl) ?_
                          refine lv_if_le (tgt := 170) hx hb d_R_overriding_117 (by decide) (fun c_26 => ?_) (fun c_26 => ?_)
                          · have c_26 : x5 ≤ (0 : Int32) := c_26
                            refine lv_iconst (v := (0 : Int32)) hx hb d_R_overriding_170 (by decide +kernel) ?_
                            exact W.zret (v := (0 : Int32)) hx hb hr (by decide +kernel) (fun t ht hW => ⟨⟨(0 : Int32), (), rfl, by rw [← hF, lr_R_overriding_115_s, if_pos c_26], trivial⟩, hS.F ht⟩) hS.2.2 d_R_overriding_171
                          · have c_26 : ¬ (x5 ≤ (0 : Int32)) := c_26
                            refine lv_iload hx hb d_R_overriding_120 (lv_at hl 0 rfl) ?_
                            refine lv_iload_n hx hb d_R_overriding_122 rfl (lv_at hl 4 rfl) ?_
                            refine lv_icmp_eq (tgt := 170) hx hb d_R_overriding_123 (by decide) (fun c_27 => ?_) (fun c_27 => ?_)
                            · have c_27 : x5 = p2 := c_27
                              refine lv_iconst (v := (0 : Int32)) hx hb d_R_overriding_170 (by decide +kernel) ?_
                              exact W.zret (v := (0 : Int32)) hx hb hr (by decide +kernel) (fun t ht hW => ⟨⟨(0 : Int32), (), rfl, by rw [← hF, lr_R_overriding_115_s, if_neg c_26, if_pos c_27], trivial⟩, hS.F ht⟩) hS.2.2 d_R_overriding_171
                            · have c_27 : ¬ (x5 = p2) := c_27
                              refine lv_aload_n hx hb d_R_overriding_126 rfl (lv_at hl 2 rfl) ?_
                              refine va_get (D := (dC, dI)) (ci := 3) (v := .ref (qa 12)) (C := R_R) (T := F_R) (N := 15) hx hb hts i_R hown hK hP 0 rfl rfl 12 (by decide) (hts _ k_57) (fun _ h9 => h9) rfl d_R_overriding_127 ?_
                              refine lv_bipush (v := (13 : Int32)) hx hb d_R_overriding_130 (by decide +kernel) ?_
                              refine lv_iload hx hb d_R_overriding_132 (lv_at hl 0 rfl) ?_
                              refine lv_imul hx hb d_R_overriding_134 ?_
                              refine lv_iload_n hx hb d_R_overriding_135 rfl (lv_at hl 4 rfl) ?_
                              refine lv_iadd hx hb d_R_overriding_136 ?_
                              have hi_28 : vp_in (((13 : Int32) * x5) + p2) 169 := by exact jn_169 (by first | with_reducible assumption | exact in_et et (leT hT et h2 (by with_reducible assumption)) | exact in_et et h2 | exact in_et eu (leT hT eu u2 (by with_reducible assumption)) | exact in_et eu u2) (by first | with_reducible assumption | exact rin_has hT (by with_reducible assumption))
                              refine va_zald (D := (dC, dI)) (f := a11) hx hb hK hP 12 11 rfl rfl hi_28 d_R_overriding_137 ?_
                              refine lv_if_eq (tgt := 158) hx hb d_R_overriding_138 (by decide) (fun c_29 => ?_) (fun c_29 => ?_)
                              · have c_29 : (a11 (((13 : Int32) * x5) + p2).toNatClampNeg) = (0 : Int32) := c_29
                                refine lv_aload_n hx hb d_R_overriding_158 rfl (lv_at hl 2 rfl) ?_
                                refine va_get (D := (dC, dI)) (ci := 3) (v := .ref (qa 5)) (C := R_R) (T := F_R) (N := 15) hx hb hts i_R hown hK hP 0 rfl rfl 5 (by decide) (hts _ k_50) (fun _ h9 => h9) rfl d_R_overriding_159 ?_
                                refine lv_iload hx hb d_R_overriding_162 (lv_at hl 0 rfl) ?_
                                have hi_30 : vp_in x5 13 := by first | with_reducible assumption | exact in_et et (leT hT et h2 (by with_reducible assumption)) | exact in_et et h2 | exact in_et eu (leT hT eu u2 (by with_reducible assumption)) | exact in_et eu u2
                                refine va_iald (D := (dC, dI)) (f := a4) hx hb hK hP 5 4 rfl rfl hi_30 d_R_overriding_164 ?_
                                refine lv_istore (lv' := [(5, .int (a4 x5.toNatClampNeg)), (4, .int ((a9 (((4 : Int32) * p2) + p3).toNatClampNeg) &&& (3 : Int32))), (0, .ref (qa 0)), (1, .int p1), (2, .int p2), (3, .int p3)]) hx hb d_R_overriding_165 hl (by decide) rfl (fun ls hl => ?_)
                                refine lv_goto (tgt := 115) hx hb d_R_overriding_167 (by decide) ?_
                                exact ih ((a4 x5.toNatClampNeg).toNatClampNeg) (a4 x5.toNatClampNeg) _ _ _ (par_et hpa (in_et et h2)) (par_h1 hpa et h2 h1 (by with_reducible assumption)) (par_h2 hpa (in_et et h2)) (by rw [← hF, lr_R_overriding_115_s, if_neg c_26, if_neg c_27, if_pos c_29]) hP hS (lv_sub hl [0, 1, 2, 3, 4, 5] rfl)
                              · have c_29 : ¬ ((a11 (((13 : Int32) * x5) + p2).toNatClampNeg) = (0 : Int32)) := c_29
                                refine lv_aload_n hx hb d_R_overriding_141 rfl (lv_at hl 2 rfl) ?_
                                refine va_get (D := (dC, dI)) (ci := 3) (v := .ref (qa 12)) (C := R_R) (T := F_R) (N := 15) hx hb hts i_R hown hK hP 0 rfl rfl 12 (by decide) (hts _ k_57) (fun _ h9 => h9) rfl d_R_overriding_142 ?_
                                refine lv_bipush (v := (13 : Int32)) hx hb d_R_overriding_145 (by decide +kernel) ?_
                                refine lv_iload_n hx hb d_R_overriding_147 rfl (lv_at hl 3 rfl) ?_
                                refine lv_imul hx hb d_R_overriding_148 ?_
                                refine lv_iload hx hb d_R_overriding_149 (lv_at hl 0 rfl) ?_
                                refine lv_iadd hx hb d_R_overriding_151 ?_
                                have hi_31 : vp_in (((13 : Int32) * p1) + x5) 169 := by exact jn_169 (by first | with_reducible assumption | exact rin_has hT (by with_reducible assumption)) (by first | with_reducible assumption | exact in_et et (leT hT et h2 (by with_reducible assumption)) | exact in_et et h2 | exact in_et eu (leT hT eu u2 (by with_reducible assumption)) | exact in_et eu u2)
                                refine va_zald (D := (dC, dI)) (f := a11) hx hb hK hP 12 11 rfl rfl hi_31 d_R_overriding_152 ?_
                                refine lv_if_eq (tgt := 158) hx hb d_R_overriding_153 (by decide) (fun c_32 => ?_) (fun c_32 => ?_)
                                · have c_32 : (a11 (((13 : Int32) * p1) + x5).toNatClampNeg) = (0 : Int32) := c_32
                                  refine lv_aload_n hx hb d_R_overriding_158 rfl (lv_at hl 2 rfl) ?_
                                  refine va_get (D := (dC, dI)) (ci := 3) (v := .ref (qa 5)) (C := R_R) (T := F_R) (N := 15) hx hb hts i_R hown hK hP 0 rfl rfl 5 (by decide) (hts _ k_50) (fun _ h9 => h9) rfl d_R_overriding_159 ?_
                                  refine lv_iload hx hb d_R_overriding_162 (lv_at hl 0 rfl) ?_
                                  have hi_33 : vp_in x5 13 := by first | with_reducible assumption | exact in_et et (leT hT et h2 (by with_reducible assumption)) | exact in_et et h2 | exact in_et eu (leT hT eu u2 (by with_reducible assumption)) | exact in_et eu u2
                                  refine va_iald (D := (dC, dI)) (f := a4) hx hb hK hP 5 4 rfl rfl hi_33 d_R_overriding_164 ?_
                                  refine lv_istore (lv' := [(5, .int (a4 x5.toNatClampNeg)), (4, .int ((a9 (((4 : Int32) * p2) + p3).toNatClampNeg) &&& (3 : Int32))), (0, .ref (qa 0)), (1, .int p1), (2, .int p2), (3, .int p3)]) hx hb d_R_overriding_165 hl (by decide) rfl (fun ls hl => ?_)
                                  refine lv_goto (tgt := 115) hx hb d_R_overriding_167 (by decide) ?_
                                  exact ih ((a4 x5.toNatClampNeg).toNatClampNeg) (a4 x5.toNatClampNeg) _ _ _ (par_et hpa (in_et et h2)) (par_h1 hpa et h2 h1 (by with_reducible assumption)) (par_h2 hpa (in_et et h2)) (by rw [← hF, lr_R_overriding_115_s, if_neg c_26, if_neg c_27, if_neg c_29, if_pos c_32]) hP hS (lv_sub hl [0, 1, 2, 3, 4, 5] rfl)
                                · have c_32 : ¬ ((a11 (((13 : Int32) * p1) + x5).toNatClampNeg) = (0 : Int32)) := c_32
                                  refine lv_iconst (v := (1 : Int32)) hx hb d_R_overriding_156 (by decide +kernel) ?_
                                  exact W.zret (v := (1 : Int32)) hx hb hr (by decide +kernel) (fun t ht hW => ⟨⟨(1 : Int32), (), rfl, by rw [← hF, lr_R_overriding_115_s, if_neg c_26, if_neg c_27, if_neg c_29, if_neg c_32], trivial⟩, hS.F ht⟩) hS.2.2 d_R_overriding_157
                      exact LOOP_115 14 ((a4 p1.toNatClampNeg).toNatClampNeg) (a4 p1.toNatClampNeg) _ _ _ (par_et hpa hp1) (by have := par_h2 hpa hp1; omega) (par_h2 hpa hp1) (by unfold f_R_overriding; rw [if_neg c_3, if_neg c_6, if_pos c_9, if_pos c_12, if_neg c_14, if_neg c_15, if_pos c_19, if_neg c_20, if_neg c_21, if_neg c_24]) hP hS (lv_sub hl [0, 1, 2, 3, 4, 5] rfl)
                    · have c_24 : (a3 p1.toNatClampNeg) = (a3 p2.toNatClampNeg) := c_24
                      refine lv_iconst (v := (1 : Int32)) hx hb d_R_overriding_105 (by decide +kernel) ?_
                      exact W.zret (v := (1 : Int32)) hx hb hr (by decide +kernel) (fun t ht hW => ⟨⟨(1 : Int32), (), rfl, by unfold f_R_overriding; rw [if_neg c_3, if_neg c_6, if_pos c_9, if_pos c_12, if_neg c_14, if_neg c_15, if_pos c_19, if_neg c_20, if_neg c_21, if_pos c_24], trivial⟩, hS.F ht⟩) hS.2.2 d_R_overriding_106
                · have c_20 : ((a9 (((4 : Int32) * p2) + p3).toNatClampNeg) &&& (3 : Int32)) = (0 : Int32) := c_20
                  refine lv_iconst (v := (0 : Int32)) hx hb d_R_overriding_82 (by decide +kernel) ?_
                  exact W.zret (v := (0 : Int32)) hx hb hr (by decide +kernel) (fun t ht hW => ⟨⟨(0 : Int32), (), rfl, by unfold f_R_overriding; rw [if_neg c_3, if_neg c_6, if_pos c_9, if_pos c_12, if_neg c_14, if_neg c_15, if_pos c_19, if_pos c_20], trivial⟩, hS.F ht⟩) hS.2.2 d_R_overriding_83
            · have c_15 : p1 = p2 := c_15
              refine lv_iconst (v := (1 : Int32)) hx hb d_R_overriding_52 (by decide +kernel) ?_
              exact W.zret (v := (1 : Int32)) hx hb hr (by decide +kernel) (fun t ht hW => ⟨⟨(1 : Int32), (), rfl, by unfold f_R_overriding; rw [if_neg c_3, if_neg c_6, if_pos c_9, if_pos c_12, if_neg c_14, if_pos c_15], trivial⟩, hS.F ht⟩) hS.2.2 d_R_overriding_53
          · have c_14 : (f_R_is a10 p1 p2) = (0 : Int32) := c_14
            refine lv_iconst (v := (0 : Int32)) hx hb d_R_overriding_45 (by decide +kernel) ?_
            exact W.zret (v := (0 : Int32)) hx hb hr (by decide +kernel) (fun t ht hW => ⟨⟨(0 : Int32), (), rfl, by unfold f_R_overriding; rw [if_neg c_3, if_neg c_6, if_pos c_9, if_pos c_12, if_pos c_14], trivial⟩, hS.F ht⟩) hS.2.2 d_R_overriding_46
