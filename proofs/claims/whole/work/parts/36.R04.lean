set_option maxHeartbeats 1000000 in
set_option maxRecDepth 100000 in
theorem c_R_usable (l : Launch) (dC : Nat → ClassId) (dI : Nat → Nat → Nat) (ka : Nat → ClassId) (qa : Nat → Nat) (sz : Nat) (b0 b1 : Int32) (a0 a1 a2 a3 a4 a5 a6 a7 a8 a9 a10 a11 a12 : Nat → Int32) (p1 p2 p3 : Int32) (hp1 : vp_in p1 13) (hp2 : vp_in p2 13) : Met l y_R_usable w_R_usable ({ frames := 1, cells := 0, slots := 0, locals := 22 } : Room) (ro_P dC dI (wR ka qa b0 b1 a0 a1 a2 a3 a4 a5 a6 a7 a8 a9 a10 a11 a12) (tR ka) sz [.ref (qa 0), .int p1, .int p2, .int p3]) (ro_Q sz (f_R_usable a3 a5 a10 p1 p2 p3)) 0 0 (fun z => sz ≤ z) := by
  refine Met.ofW (cc := b_R_usable) (maxL := 5) (ret := (some .boolean)) (by decide) rfl ?_
  intro p e s m args below meth c s₁ B hml hv
  obtain ⟨rfl, hsz, hP, hK, hN⟩ := hv
  have hx := B.exec
  have hb := B.bytes
  have hr := B.returns
  have hts := tl_of (atoms_spec (ws := w_R_usable) B.pre)
  have hown : s.vm.findClass R_R = some m.cls := findClass_of_methodNamed B.named
  have hlocks := B.notSynchronized
  subst hsz
  have hA : ∀ z : Nat, s.heap.size ≤ z → (fun z : Nat => s.heap.size ≤ z) z := fun _ h => h
  have hS : va_S (fun z : Nat => s.heap.size ≤ z) s.heap s.heap [] := va_S.rf
  have hl := lv_entry ([.ref (qa 0), .int p1, .int p2, .int p3]) (n := 5) (Nat.le_of_ble_eq_true rfl)
  rw [lg_entry_eq]
  generalize (lg_sl ([.ref (qa 0), .int p1, .int p2, .int p3]) ++ List.replicate (5 - (lg_sl ([.ref (qa 0), .int p1, .int p2, .int p3])).length) Slot.unset).toArray = ls at hl ⊢
  have hl : lv_has ls 5 [(0, .ref (qa 0)), (1, .int p1), (2, .int p2), (3, .int p3)] := hl
  refine lv_iload_n hx hb d_R_usable_0 rfl (lv_at hl 3 rfl) ?_
  refine lv_iconst (v := (3 : Int32)) hx hb d_R_usable_1 (by decide +kernel) ?_
  refine lv_iand hx hb d_R_usable_2 ?_
  refine lv_istore (lv' := [(4, .int (p3 &&& (3 : Int32))), (0, .ref (qa 0)), (1, .int p1), (2, .int p2), (3, .int p3)]) hx hb d_R_usable_3 hl (by decide) rfl (fun ls hl => ?_)
  refine lv_iload hx hb d_R_usable_5 (lv_at hl 0 rfl) ?_
  refine lv_iconst (v := (3 : Int32)) hx hb d_R_usable_7 (by decide +kernel) ?_
  refine lv_icmp_ne (tgt := 13) hx hb d_R_usable_8 (by decide) (fun c_1 => ?_) (fun c_1 => ?_)
  · have c_1 : ¬ ((p3 &&& (3 : Int32)) = (3 : Int32)) := c_1
    refine lv_iload hx hb d_R_usable_13 (lv_at hl 0 rfl) ?_
    refine lv_iconst (v := (2 : Int32)) hx hb d_R_usable_15 (by decide +kernel) ?_
    refine lv_icmp_ne (tgt := 49) hx hb d_R_usable_16 (by decide) (fun c_2 => ?_) (fun c_2 => ?_)
    · have c_2 : ¬ ((p3 &&& (3 : Int32)) = (2 : Int32)) := c_2
      refine lv_iload hx hb d_R_usable_49 (lv_at hl 0 rfl) ?_
      refine lv_iconst (v := (1 : Int32)) hx hb d_R_usable_51 (by decide +kernel) ?_
      refine lv_icmp_ne (tgt := 78) hx hb d_R_usable_52 (by decide) (fun c_3 => ?_) (fun c_3 => ?_)
      · have c_3 : ¬ ((p3 &&& (3 : Int32)) = (1 : Int32)) := c_3
        refine lv_aload_n hx hb d_R_usable_78 rfl (lv_at hl 1 rfl) ?_
        refine va_get (D := (dC, dI)) (ci := 3) (v := .ref (qa 6)) (C := R_R) (T := F_R) (N := 15) hx hb hts i_R hown hK hP 0 rfl rfl 6 (by decide) (hts _ k_48) (fun _ h9 => h9) rfl d_R_usable_79 ?_
        refine lv_iload_n hx hb d_R_usable_82 rfl (lv_at hl 3 rfl) ?_
        have hi_4 : vp_in p2 13 := by first | with_reducible assumption | exact rin_has hT (by with_reducible assumption)
        refine va_iald (D := (dC, dI)) (f := a5) hx hb hK hP 6 5 rfl rfl hi_4 d_R_usable_83 ?_
        refine lv_aload_n hx hb d_R_usable_84 rfl (lv_at hl 1 rfl) ?_
        refine va_get (D := (dC, dI)) (ci := 3) (v := .ref (qa 6)) (C := R_R) (T := F_R) (N := 15) hx hb hts i_R hown hK hP 0 rfl rfl 6 (by decide) (hts _ k_48) (fun _ h9 => h9) rfl d_R_usable_85 ?_
        refine lv_iload_n hx hb d_R_usable_88 rfl (lv_at hl 2 rfl) ?_
        have hi_5 : vp_in p1 13 := by first | with_reducible assumption | exact rin_has hT (by with_reducible assumption)
        refine va_iald (D := (dC, dI)) (f := a5) hx hb hK hP 6 5 rfl rfl hi_5 d_R_usable_89 ?_
        refine lv_icmp_ne (tgt := 97) hx hb d_R_usable_90 (by decide) (fun c_6 => ?_) (fun c_6 => ?_)
        · have c_6 : ¬ ((a5 p2.toNatClampNeg) = (a5 p1.toNatClampNeg)) := c_6
          refine lv_iconst (v := (0 : Int32)) hx hb d_R_usable_97 (by decide +kernel) ?_
          exact W.zret (v := (0 : Int32)) hx hb hr (by decide +kernel) (fun t ht hW => ⟨⟨(0 : Int32), (), rfl, by unfold f_R_usable; rw [if_neg c_1, if_neg c_2, if_neg c_3, if_neg c_6], trivial⟩, hS.F ht⟩) hS.2.2 d_R_usable_98
        · have c_6 : (a5 p2.toNatClampNeg) = (a5 p1.toNatClampNeg) := c_6
          refine lv_iconst (v := (1 : Int32)) hx hb d_R_usable_93 (by decide +kernel) ?_
          refine lv_goto (tgt := 98) hx hb d_R_usable_94 (by decide) ?_
          exact W.zret (v := (1 : Int32)) hx hb hr (by decide +kernel) (fun t ht hW => ⟨⟨(1 : Int32), (), rfl, by unfold f_R_usable; rw [if_neg c_1, if_neg c_2, if_neg c_3, if_pos c_6], trivial⟩, hS.F ht⟩) hS.2.2 d_R_usable_98
      · have c_3 : (p3 &&& (3 : Int32)) = (1 : Int32) := c_3
        refine lv_aload_n hx hb d_R_usable_55 rfl (lv_at hl 1 rfl) ?_
        refine va_get (D := (dC, dI)) (ci := 3) (v := .ref (qa 4)) (C := R_R) (T := F_R) (N := 15) hx hb hts i_R hown hK hP 0 rfl rfl 4 (by decide) (hts _ k_47) (fun _ h9 => h9) rfl d_R_usable_56 ?_
        refine lv_iload_n hx hb d_R_usable_59 rfl (lv_at hl 3 rfl) ?_
        have hi_7 : vp_in p2 13 := by first | with_reducible assumption | exact rin_has hT (by with_reducible assumption)
        refine va_iald (D := (dC, dI)) (f := a3) hx hb hK hP 4 3 rfl rfl hi_7 d_R_usable_60 ?_
        refine lv_aload_n hx hb d_R_usable_61 rfl (lv_at hl 1 rfl) ?_
        refine va_get (D := (dC, dI)) (ci := 3) (v := .ref (qa 4)) (C := R_R) (T := F_R) (N := 15) hx hb hts i_R hown hK hP 0 rfl rfl 4 (by decide) (hts _ k_47) (fun _ h9 => h9) rfl d_R_usable_62 ?_
        refine lv_iload_n hx hb d_R_usable_65 rfl (lv_at hl 2 rfl) ?_
        have hi_8 : vp_in p1 13 := by first | with_reducible assumption | exact rin_has hT (by with_reducible assumption)
        refine va_iald (D := (dC, dI)) (f := a3) hx hb hK hP 4 3 rfl rfl hi_8 d_R_usable_66 ?_
        refine lv_icmp_ne (tgt := 74) hx hb d_R_usable_67 (by decide) (fun c_9 => ?_) (fun c_9 => ?_)
        · have c_9 : ¬ ((a3 p2.toNatClampNeg) = (a3 p1.toNatClampNeg)) := c_9
          refine lv_iconst (v := (0 : Int32)) hx hb d_R_usable_74 (by decide +kernel) ?_
          refine lv_goto (tgt := 98) hx hb d_R_usable_75 (by decide) ?_
          exact W.zret (v := (0 : Int32)) hx hb hr (by decide +kernel) (fun t ht hW => ⟨⟨(0 : Int32), (), rfl, by unfold f_R_usable; rw [if_neg c_1, if_neg c_2, if_pos c_3, if_neg c_9], trivial⟩, hS.F ht⟩) hS.2.2 d_R_usable_98
        · have c_9 : (a3 p2.toNatClampNeg) = (a3 p1.toNatClampNeg) := c_9
          refine lv_iconst (v := (1 : Int32)) hx hb d_R_usable_70 (by decide +kernel) ?_
          refine lv_goto (tgt := 98) hx hb d_R_usable_71 (by decide) ?_
          exact W.zret (v := (1 : Int32)) hx hb hr (by decide +kernel) (fun t ht hW => ⟨⟨(1 : Int32), (), rfl, by unfold f_R_usable; rw [if_neg c_1, if_neg c_2, if_pos c_3, if_pos c_9], trivial⟩, hS.F ht⟩) hS.2.2 d_R_usable_98
    · have c_2 : (p3 &&& (3 : Int32)) = (2 : Int32) := c_2
      refine lv_aload_n hx hb d_R_usable_19 rfl (lv_at hl 1 rfl) ?_
      refine va_get (D := (dC, dI)) (ci := 3) (v := .ref (qa 4)) (C := R_R) (T := F_R) (N := 15) hx hb hts i_R hown hK hP 0 rfl rfl 4 (by decide) (hts _ k_47) (fun _ h9 => h9) rfl d_R_usable_20 ?_
      refine lv_iload_n hx hb d_R_usable_23 rfl (lv_at hl 3 rfl) ?_
      have hi_10 : vp_in p2 13 := by first | with_reducible assumption | exact rin_has hT (by with_reducible assumption)
      refine va_iald (D := (dC, dI)) (f := a3) hx hb hK hP 4 3 rfl rfl hi_10 d_R_usable_24 ?_
      refine lv_aload_n hx hb d_R_usable_25 rfl (lv_at hl 1 rfl) ?_
      refine va_get (D := (dC, dI)) (ci := 3) (v := .ref (qa 4)) (C := R_R) (T := F_R) (N := 15) hx hb hts i_R hown hK hP 0 rfl rfl 4 (by decide) (hts _ k_47) (fun _ h9 => h9) rfl d_R_usable_26 ?_
      refine lv_iload_n hx hb d_R_usable_29 rfl (lv_at hl 2 rfl) ?_
      have hi_11 : vp_in p1 13 := by first | with_reducible assumption | exact rin_has hT (by with_reducible assumption)
      refine va_iald (D := (dC, dI)) (f := a3) hx hb hK hP 4 3 rfl rfl hi_11 d_R_usable_30 ?_
      refine lv_icmp_eq (tgt := 43) hx hb d_R_usable_31 (by decide) (fun c_12 => ?_) (fun c_12 => ?_)
      · have c_12 : (a3 p2.toNatClampNeg) = (a3 p1.toNatClampNeg) := c_12
        refine lv_iconst (v := (1 : Int32)) hx hb d_R_usable_43 (by decide +kernel) ?_
        refine lv_goto (tgt := 48) hx hb d_R_usable_44 (by decide) ?_
        exact W.zret (v := (1 : Int32)) hx hb hr (by decide +kernel) (fun t ht hW => ⟨⟨(1 : Int32), (), rfl, by unfold f_R_usable; rw [if_neg c_1, if_pos c_2, if_pos c_12], trivial⟩, hS.F ht⟩) hS.2.2 d_R_usable_48
      · have c_12 : ¬ ((a3 p2.toNatClampNeg) = (a3 p1.toNatClampNeg)) := c_12
        refine lv_aload_n hx hb d_R_usable_34 rfl (lv_at hl 1 rfl) ?_
        refine lv_iload_n hx hb d_R_usable_35 rfl (lv_at hl 2 rfl) ?_
        refine lv_iload_n hx hb d_R_usable_36 rfl (lv_at hl 3 rfl) ?_
        have hq_13 : vp_in p1 13 := by first | with_reducible assumption | exact rin_has hT (by with_reducible assumption)
        refine va_calli (va_runV (As := [.int p1, .int p2]) (rest := []) ⟨hx, hb, hml, hown, hts⟩ (c_R_is l dC dI ka qa s.heap.size b0 b1 a0 a1 a2 a3 a4 a5 a6 a7 a8 a9 a10 a11 a12 p1 p2 hq_13) (cwV 2 hts k_g70 rfl rfl rfl (by decide +kernel) ⟨Nat.le_of_ble_eq_true rfl, Nat.le_of_ble_eq_true rfl⟩) ⟨fb_ro, va_recv hK hP (ci := 3) (q0 := 0) rfl rfl, fun U hU hW => ⟨rfl, by rw [hU], by rw [hU]; exact hP, va_K.moved hW.alike (hK), NX.warm hW hN⟩⟩ rfl rfl hl.1 rfl (lv_room (Nat.le_of_ble_eq_true rfl)) d_R_usable_37 ⟨Nat.zero_le _, Nat.zero_le _⟩) hS (fun z h1 h2 => absurd h1 (Nat.not_lt.mpr h2)) (fun z h => hA z (Nat.le_trans hS.1 h)) (fun r u t H1 locs ht hvm hpo hB hz1 hk1 hS => ?_)
        subst hpo
        have hP := kp_P hP hk1
        generalize H1 = H at hP hS ⊢
        refine lv_if_eq (tgt := 47) hx hb d_R_usable_40 (by decide) (fun c_14 => ?_) (fun c_14 => ?_)
        · have c_14 : (f_R_is a10 p1 p2) = (0 : Int32) := c_14
          refine lv_iconst (v := (0 : Int32)) hx hb d_R_usable_47 (by decide +kernel) ?_
          exact W.zret (v := (0 : Int32)) hx hb hr (by decide +kernel) (fun t ht hW => ⟨⟨(0 : Int32), (), rfl, by unfold f_R_usable; rw [if_neg c_1, if_pos c_2, if_neg c_12, if_pos c_14], trivial⟩, hS.F ht⟩) hS.2.2 d_R_usable_48
        · have c_14 : ¬ ((f_R_is a10 p1 p2) = (0 : Int32)) := c_14
          refine lv_iconst (v := (1 : Int32)) hx hb d_R_usable_43 (by decide +kernel) ?_
          refine lv_goto (tgt := 48) hx hb d_R_usable_44 (by decide) ?_
          exact W.zret (v := (1 : Int32)) hx hb hr (by decide +kernel) (fun t ht hW => ⟨⟨(1 : Int32), (), rfl, by unfold f_R_usable; rw [if_neg c_1, if_pos c_2, if_neg c_12, if_neg c_14], trivial⟩, hS.F ht⟩) hS.2.2 d_R_usable_48
  · have c_1 : (p3 &&& (3 : Int32)) = (3 : Int32) := c_1
    refine lv_iconst (v := (1 : Int32)) hx hb d_R_usable_11 (by decide +kernel) ?_
    exact W.zret (v := (1 : Int32)) hx hb hr (by decide +kernel) (fun t ht hW => ⟨⟨(1 : Int32), (), rfl, by unfold f_R_usable; rw [if_pos c_1], trivial⟩, hS.F ht⟩) hS.2.2 d_R_usable_12
