set_option maxHeartbeats 1000000 in
set_option maxRecDepth 100000 in
theorem c_W_has (l : Launch) (dC : Nat → ClassId) (dI : Nat → Nat → Nat) (ka : Nat → ClassId) (qa : Nat → Nat) (sz : Nat) (w : WS) (p1 : Int32)  : Met l y_W_has w_W_has ({ frames := 0, cells := 0, slots := 0, locals := 0 } : Room) (ro_P dC dI (wW ka qa w) (tW ka) sz [.ref (qa 0), .int p1]) (ro_Q sz (f_W_has w p1)) 0 0 (fun z => sz ≤ z) := by
  refine Met.ofW (cc := b_W_has) (maxL := 2) (ret := (some .boolean)) (by decide) rfl ?_
  intro p e s m args below meth c s₁ B hml hv
  obtain ⟨rfl, hsz, hP, hK, hN⟩ := hv
  have hx := B.exec
  have hb := B.bytes
  have hr := B.returns
  have hts := tl_of (atoms_spec (ws := w_W_has) B.pre)
  have hown : s.vm.findClass R_W = some m.cls := findClass_of_methodNamed B.named
  have hlocks := B.notSynchronized
  subst hsz
  have hA : ∀ z : Nat, s.heap.size ≤ z → (fun z : Nat => s.heap.size ≤ z) z := fun _ h => h
  have hS : va_S (fun z : Nat => s.heap.size ≤ z) s.heap s.heap [] := va_S.rf
  have hl := lv_entry ([.ref (qa 0), .int p1]) (n := 2) (Nat.le_of_ble_eq_true rfl)
  rw [lg_entry_eq]
  generalize (lg_sl ([.ref (qa 0), .int p1]) ++ List.replicate (2 - (lg_sl ([.ref (qa 0), .int p1])).length) Slot.unset).toArray = ls at hl ⊢
  have hl : lv_has ls 2 [(0, .ref (qa 0)), (1, .int p1)] := hl
  refine lv_iload_n hx hb d_W_has_0 rfl (lv_at hl 1 rfl) ?_
  refine lv_iconst (v := (1 : Int32)) hx hb d_W_has_1 (by decide +kernel) ?_
  refine lv_icmp_lt (tgt := 17) hx hb d_W_has_2 (by decide) (fun c_1 => ?_) (fun c_1 => ?_)
  · have c_1 : p1 < (1 : Int32) := c_1
    refine lv_iconst (v := (0 : Int32)) hx hb d_W_has_17 (by decide +kernel) ?_
    exact W.zret (v := (0 : Int32)) hx hb hr (by decide +kernel) (fun t ht hW => ⟨⟨(0 : Int32), (), rfl, by unfold f_W_has; rw [if_pos c_1], trivial⟩, hS.F ht⟩) hS.2.2 d_W_has_18
  · have c_1 : ¬ (p1 < (1 : Int32)) := c_1
    refine lv_iload_n hx hb d_W_has_5 rfl (lv_at hl 1 rfl) ?_
    refine lv_aload_n hx hb d_W_has_6 rfl (lv_at hl 0 rfl) ?_
    refine va_get (D := (dC, dI)) (ci := 0) (v := .int (w.2 3)) (C := R_W) (T := F_W) (N := 10) hx hb hts i_W hown hK hP 0 rfl rfl 9 (by decide) (hts _ k_3) (fun _ h9 => h9) rfl d_W_has_7 ?_
    refine lv_icmp_gt (tgt := 17) hx hb d_W_has_10 (by decide) (fun c_2 => ?_) (fun c_2 => ?_)
    · have c_2 : (w.2 3) < p1 := c_2
      refine lv_iconst (v := (0 : Int32)) hx hb d_W_has_17 (by decide +kernel) ?_
      exact W.zret (v := (0 : Int32)) hx hb hr (by decide +kernel) (fun t ht hW => ⟨⟨(0 : Int32), (), rfl, by unfold f_W_has; rw [if_neg c_1, if_pos c_2], trivial⟩, hS.F ht⟩) hS.2.2 d_W_has_18
    · have c_2 : ¬ ((w.2 3) < p1) := c_2
      refine lv_iconst (v := (1 : Int32)) hx hb d_W_has_13 (by decide +kernel) ?_
      refine lv_goto (tgt := 18) hx hb d_W_has_14 (by decide) ?_
      exact W.zret (v := (1 : Int32)) hx hb hr (by decide +kernel) (fun t ht hW => ⟨⟨(1 : Int32), (), rfl, by unfold f_W_has; rw [if_neg c_1, if_neg c_2], trivial⟩, hS.F ht⟩) hS.2.2 d_W_has_18
set_option maxHeartbeats 1000000 in
set_option maxRecDepth 100000 in
theorem c_W_isFull (l : Launch) (dC : Nat → ClassId) (dI : Nat → Nat → Nat) (ka : Nat → ClassId) (qa : Nat → Nat) (sz : Nat) (w : WS)  : Met l y_W_isFull w_W_isFull ({ frames := 0, cells := 0, slots := 0, locals := 0 } : Room) (ro_P dC dI (wW ka qa w) (tW ka) sz [.ref (qa 0)]) (ro_Q sz (f_W_isFull w)) 0 0 (fun z => sz ≤ z) := by
  refine Met.ofW (cc := b_W_isFull) (maxL := 1) (ret := (some .boolean)) (by decide) rfl ?_
  intro p e s m args below meth c s₁ B hml hv
  obtain ⟨rfl, hsz, hP, hK, hN⟩ := hv
  have hx := B.exec
  have hb := B.bytes
  have hr := B.returns
  have hts := tl_of (atoms_spec (ws := w_W_isFull) B.pre)
  have hown : s.vm.findClass R_W = some m.cls := findClass_of_methodNamed B.named
  have hlocks := B.notSynchronized
  subst hsz
  have hA : ∀ z : Nat, s.heap.size ≤ z → (fun z : Nat => s.heap.size ≤ z) z := fun _ h => h
  have hS : va_S (fun z : Nat => s.heap.size ≤ z) s.heap s.heap [] := va_S.rf
  have hl := lv_entry ([.ref (qa 0)]) (n := 1) (Nat.le_of_ble_eq_true rfl)
  rw [lg_entry_eq]
  generalize (lg_sl ([.ref (qa 0)]) ++ List.replicate (1 - (lg_sl ([.ref (qa 0)])).length) Slot.unset).toArray = ls at hl ⊢
  have hl : lv_has ls 1 [(0, .ref (qa 0))] := hl
  refine lv_aload_n hx hb d_W_isFull_0 rfl (lv_at hl 0 rfl) ?_
  refine va_get (D := (dC, dI)) (ci := 0) (v := .int (w.2 3)) (C := R_W) (T := F_W) (N := 10) hx hb hts i_W hown hK hP 0 rfl rfl 9 (by decide) (hts _ k_3) (fun _ h9 => h9) rfl d_W_isFull_1 ?_
  refine lv_bipush (v := (12 : Int32)) hx hb d_W_isFull_4 (by decide +kernel) ?_
  refine lv_icmp_lt (tgt := 13) hx hb d_W_isFull_6 (by decide) (fun c_1 => ?_) (fun c_1 => ?_)
  · have c_1 : (w.2 3) < (12 : Int32) := c_1
    refine lv_iconst (v := (0 : Int32)) hx hb d_W_isFull_13 (by decide +kernel) ?_
    exact W.zret (v := (0 : Int32)) hx hb hr (by decide +kernel) (fun t ht hW => ⟨⟨(0 : Int32), (), rfl, by unfold f_W_isFull; rw [if_pos c_1], trivial⟩, hS.F ht⟩) hS.2.2 d_W_isFull_14
  · have c_1 : ¬ ((w.2 3) < (12 : Int32)) := c_1
    refine lv_iconst (v := (1 : Int32)) hx hb d_W_isFull_9 (by decide +kernel) ?_
    refine lv_goto (tgt := 14) hx hb d_W_isFull_10 (by decide) ?_
    exact W.zret (v := (1 : Int32)) hx hb hr (by decide +kernel) (fun t ht hW => ⟨⟨(1 : Int32), (), rfl, by unfold f_W_isFull; rw [if_neg c_1], trivial⟩, hS.F ht⟩) hS.2.2 d_W_isFull_14
set_option maxHeartbeats 1000000 in
set_option maxRecDepth 100000 in
theorem c_W_isInterface (l : Launch) (dC : Nat → ClassId) (dI : Nat → Nat → Nat) (ka : Nat → ClassId) (qa : Nat → Nat) (sz : Nat) (w : WS) (p1 : Int32)  : Met l y_W_isInterface w_W_isInterface ({ frames := 1, cells := 0, slots := 0, locals := 21 } : Room) (ro_P dC dI (wW ka qa w) (tW ka) sz [.ref (qa 0), .int p1]) (ro_Q sz (f_W_isInterface w p1)) 0 0 (fun z => sz ≤ z) := by
  refine Met.ofW (cc := b_W_isInterface) (maxL := 2) (ret := (some .boolean)) (by decide) rfl ?_
  intro p e s m args below meth c s₁ B hml hv
  obtain ⟨rfl, hsz, hP, hK, hN⟩ := hv
  have hx := B.exec
  have hb := B.bytes
  have hr := B.returns
  have hts := tl_of (atoms_spec (ws := w_W_isInterface) B.pre)
  have hown : s.vm.findClass R_W = some m.cls := findClass_of_methodNamed B.named
  have hlocks := B.notSynchronized
  subst hsz
  have hA : ∀ z : Nat, s.heap.size ≤ z → (fun z : Nat => s.heap.size ≤ z) z := fun _ h => h
  have hS : va_S (fun z : Nat => s.heap.size ≤ z) s.heap s.heap [] := va_S.rf
  have hl := lv_entry ([.ref (qa 0), .int p1]) (n := 2) (Nat.le_of_ble_eq_true rfl)
  rw [lg_entry_eq]
  generalize (lg_sl ([.ref (qa 0), .int p1]) ++ List.replicate (2 - (lg_sl ([.ref (qa 0), .int p1])).length) Slot.unset).toArray = ls at hl ⊢
  have hl : lv_has ls 2 [(0, .ref (qa 0)), (1, .int p1)] := hl
  refine lv_aload_n hx hb d_W_isInterface_0 rfl (lv_at hl 0 rfl) ?_
  refine lv_iload_n hx hb d_W_isInterface_1 rfl (lv_at hl 1 rfl) ?_
  refine va_calli (va_runV (As := [.int p1]) (rest := []) ⟨hx, hb, hml, hown, hts⟩ (c_W_has l dC dI ka qa s.heap.size w  p1) (cwV 1 hts k_g1 rfl rfl rfl (by decide +kernel) ⟨Nat.le_of_ble_eq_true rfl, Nat.le_of_ble_eq_true rfl⟩) ⟨fb_ro, va_recv hK hP (ci := 0) (q0 := 0) rfl rfl, fun U hU hW => ⟨rfl, by rw [hU], by rw [hU]; exact hP.sub (ws' := (wW ka qa w)) [0, 1, 2, 3, 4, 5, 6] rfl, va_K.moved hW.alike (hK.sub (tys' := (tW ka)) [0, 1, 2, 3, 4, 5] rfl), NX.warm hW hN⟩⟩ rfl rfl hl.1 rfl (lv_room (Nat.le_of_ble_eq_true rfl)) d_W_isInterface_2 ⟨Nat.zero_le _, Nat.zero_le _⟩) hS (fun z h1 h2 => absurd h1 (Nat.not_lt.mpr h2)) (fun z h => hA z (Nat.le_trans hS.1 h)) (fun r u t H1 locs ht hvm hpo hB hz1 hk1 hS => ?_)
  subst hpo
  have hP := kp_P hP hk1
  generalize H1 = H at hP hS ⊢
  refine lv_if_eq (tgt := 23) hx hb d_W_isInterface_5 (by decide) (fun c_1 => ?_) (fun c_1 => ?_)
  · have c_1 : (f_W_has w p1) = (0 : Int32) := c_1
    refine lv_iconst (v := (0 : Int32)) hx hb d_W_isInterface_23 (by decide +kernel) ?_
    exact W.zret (v := (0 : Int32)) hx hb hr (by decide +kernel) (fun t ht hW => ⟨⟨(0 : Int32), (), rfl, by unfold f_W_isInterface; rw [if_pos c_1], trivial⟩, hS.F ht⟩) hS.2.2 d_W_isInterface_24
  · have c_1 : ¬ ((f_W_has w p1) = (0 : Int32)) := c_1
    refine lv_aload_n hx hb d_W_isInterface_8 rfl (lv_at hl 0 rfl) ?_
    refine va_get (D := (dC, dI)) (ci := 0) (v := .int (w.2 2)) (C := R_W) (T := F_W) (N := 10) hx hb hts i_W hown hK hP 0 rfl rfl 8 (by decide) (hts _ k_4) (fun _ h9 => h9) rfl d_W_isInterface_9 ?_
    refine lv_iload_n hx hb d_W_isInterface_12 rfl (lv_at hl 1 rfl) ?_
    refine va_calli (va_runSN (As := [.int (w.2 2), .int p1]) (rest := []) ⟨hx, hb, hml, hown, hts⟩ (c_O_holds l dC dI  H.size   (w.2 2) p1) ⟨va_cnB 2 hts k_g2 rfl rfl rfl (hN _ k_5 rfl) (hts _ k_6) (by decide +kernel) ⟨Nat.le_of_ble_eq_true rfl, Nat.le_of_ble_eq_true rfl⟩, hts _ k_7, trivial⟩ ⟨fb_ro, fun U hU hW => ⟨rfl, by rw [hU], by rw [hU]; exact hP.sub (ws' := ([] : va_W)) [] rfl, va_K.moved hW.alike (hK.sub (tys' := []) [] rfl), NX.warm hW hN⟩⟩ rfl rfl hl.1 rfl (lv_room (Nat.le_of_ble_eq_true rfl)) d_W_isInterface_13 ⟨Nat.zero_le _, Nat.zero_le _⟩) hS (fun z h1 h2 => absurd h1 (Nat.not_lt.mpr h2)) (fun z h => hA z (Nat.le_trans hS.1 h)) (fun r u t H1 locs ht hvm hpo hB hz1 hk1 hS => ?_)
    subst hpo
    have hP := kp_P hP hk1
    generalize H1 = H at hP hS ⊢
    refine lv_if_eq (tgt := 23) hx hb d_W_isInterface_16 (by decide) (fun c_2 => ?_) (fun c_2 => ?_)
    · have c_2 : (f_O_holds (w.2 2) p1) = (0 : Int32) := c_2
      refine lv_iconst (v := (0 : Int32)) hx hb d_W_isInterface_23 (by decide +kernel) ?_
      exact W.zret (v := (0 : Int32)) hx hb hr (by decide +kernel) (fun t ht hW => ⟨⟨(0 : Int32), (), rfl, by unfold f_W_isInterface; rw [if_neg c_1, if_pos c_2], trivial⟩, hS.F ht⟩) hS.2.2 d_W_isInterface_24
    · have c_2 : ¬ ((f_O_holds (w.2 2) p1) = (0 : Int32)) := c_2
      refine lv_iconst (v := (1 : Int32)) hx hb d_W_isInterface_19 (by decide +kernel) ?_
      refine lv_goto (tgt := 24) hx hb d_W_isInterface_20 (by decide) ?_
      exact W.zret (v := (1 : Int32)) hx hb hr (by decide +kernel) (fun t ht hW => ⟨⟨(1 : Int32), (), rfl, by unfold f_W_isInterface; rw [if_neg c_1, if_neg c_2], trivial⟩, hS.F ht⟩) hS.2.2 d_W_isInterface_24
set_option maxHeartbeats 1000000 in
set_option maxRecDepth 100000 in
theorem c_W_isClass (l : Launch) (dC : Nat → ClassId) (dI : Nat → Nat → Nat) (ka : Nat → ClassId) (qa : Nat → Nat) (sz : Nat) (w : WS) (p1 : Int32)  : Met l y_W_isClass w_W_isClass ({ frames := 1, cells := 0, slots := 0, locals := 21 } : Room) (ro_P dC dI (wW ka qa w) (tW ka) sz [.ref (qa 0), .int p1]) (ro_Q sz (f_W_isClass w p1)) 0 0 (fun z => sz ≤ z) := by
  refine Met.ofW (cc := b_W_isClass) (maxL := 2) (ret := (some .boolean)) (by decide) rfl ?_
  intro p e s m args below meth c s₁ B hml hv
  obtain ⟨rfl, hsz, hP, hK, hN⟩ := hv
  have hx := B.exec
  have hb := B.bytes
  have hr := B.returns
  have hts := tl_of (atoms_spec (ws := w_W_isClass) B.pre)
  have hown : s.vm.findClass R_W = some m.cls := findClass_of_methodNamed B.named
  have hlocks := B.notSynchronized
  subst hsz
  have hA : ∀ z : Nat, s.heap.size ≤ z → (fun z : Nat => s.heap.size ≤ z) z := fun _ h => h
  have hS : va_S (fun z : Nat => s.heap.size ≤ z) s.heap s.heap [] := va_S.rf
  have hl := lv_entry ([.ref (qa 0), .int p1]) (n := 2) (Nat.le_of_ble_eq_true rfl)
  rw [lg_entry_eq]
  generalize (lg_sl ([.ref (qa 0), .int p1]) ++ List.replicate (2 - (lg_sl ([.ref (qa 0), .int p1])).length) Slot.unset).toArray = ls at hl ⊢
  have hl : lv_has ls 2 [(0, .ref (qa 0)), (1, .int p1)] := hl
  refine lv_aload_n hx hb d_W_isClass_0 rfl (lv_at hl 0 rfl) ?_
  refine lv_iload_n hx hb d_W_isClass_1 rfl (lv_at hl 1 rfl) ?_
  refine va_calli (va_runV (As := [.int p1]) (rest := []) ⟨hx, hb, hml, hown, hts⟩ (c_W_has l dC dI ka qa s.heap.size w  p1) (cwV 1 hts k_g1 rfl rfl rfl (by decide +kernel) ⟨Nat.le_of_ble_eq_true rfl, Nat.le_of_ble_eq_true rfl⟩) ⟨fb_ro, va_recv hK hP (ci := 0) (q0 := 0) rfl rfl, fun U hU hW => ⟨rfl, by rw [hU], by rw [hU]; exact hP.sub (ws' := (wW ka qa w)) [0, 1, 2, 3, 4, 5, 6] rfl, va_K.moved hW.alike (hK.sub (tys' := (tW ka)) [0, 1, 2, 3, 4, 5] rfl), NX.warm hW hN⟩⟩ rfl rfl hl.1 rfl (lv_room (Nat.le_of_ble_eq_true rfl)) d_W_isClass_2 ⟨Nat.zero_le _, Nat.zero_le _⟩) hS (fun z h1 h2 => absurd h1 (Nat.not_lt.mpr h2)) (fun z h => hA z (Nat.le_trans hS.1 h)) (fun r u t H1 locs ht hvm hpo hB hz1 hk1 hS => ?_)
  subst hpo
  have hP := kp_P hP hk1
  generalize H1 = H at hP hS ⊢
  refine lv_if_eq (tgt := 23) hx hb d_W_isClass_5 (by decide) (fun c_1 => ?_) (fun c_1 => ?_)
  · have c_1 : (f_W_has w p1) = (0 : Int32) := c_1
    refine lv_iconst (v := (0 : Int32)) hx hb d_W_isClass_23 (by decide +kernel) ?_
    exact W.zret (v := (0 : Int32)) hx hb hr (by decide +kernel) (fun t ht hW => ⟨⟨(0 : Int32), (), rfl, by unfold f_W_isClass; rw [if_pos c_1], trivial⟩, hS.F ht⟩) hS.2.2 d_W_isClass_24
  · have c_1 : ¬ ((f_W_has w p1) = (0 : Int32)) := c_1
    refine lv_aload_n hx hb d_W_isClass_8 rfl (lv_at hl 0 rfl) ?_
    refine va_get (D := (dC, dI)) (ci := 0) (v := .int (w.2 2)) (C := R_W) (T := F_W) (N := 10) hx hb hts i_W hown hK hP 0 rfl rfl 8 (by decide) (hts _ k_4) (fun _ h9 => h9) rfl d_W_isClass_9 ?_
    refine lv_iload_n hx hb d_W_isClass_12 rfl (lv_at hl 1 rfl) ?_
    refine va_calli (va_runSN (As := [.int (w.2 2), .int p1]) (rest := []) ⟨hx, hb, hml, hown, hts⟩ (c_O_holds l dC dI  H.size   (w.2 2) p1) ⟨va_cnB 2 hts k_g2 rfl rfl rfl (hN _ k_5 rfl) (hts _ k_6) (by decide +kernel) ⟨Nat.le_of_ble_eq_true rfl, Nat.le_of_ble_eq_true rfl⟩, hts _ k_7, trivial⟩ ⟨fb_ro, fun U hU hW => ⟨rfl, by rw [hU], by rw [hU]; exact hP.sub (ws' := ([] : va_W)) [] rfl, va_K.moved hW.alike (hK.sub (tys' := []) [] rfl), NX.warm hW hN⟩⟩ rfl rfl hl.1 rfl (lv_room (Nat.le_of_ble_eq_true rfl)) d_W_isClass_13 ⟨Nat.zero_le _, Nat.zero_le _⟩) hS (fun z h1 h2 => absurd h1 (Nat.not_lt.mpr h2)) (fun z h => hA z (Nat.le_trans hS.1 h)) (fun r u t H1 locs ht hvm hpo hB hz1 hk1 hS => ?_)
    subst hpo
    have hP := kp_P hP hk1
    generalize H1 = H at hP hS ⊢
    refine lv_if_ne (tgt := 23) hx hb d_W_isClass_16 (by decide) (fun c_2 => ?_) (fun c_2 => ?_)
    · have c_2 : ¬ ((f_O_holds (w.2 2) p1) = (0 : Int32)) := c_2
      refine lv_iconst (v := (0 : Int32)) hx hb d_W_isClass_23 (by decide +kernel) ?_
      exact W.zret (v := (0 : Int32)) hx hb hr (by decide +kernel) (fun t ht hW => ⟨⟨(0 : Int32), (), rfl, by unfold f_W_isClass; rw [if_neg c_1, if_neg c_2], trivial⟩, hS.F ht⟩) hS.2.2 d_W_isClass_24
    · have c_2 : (f_O_holds (w.2 2) p1) = (0 : Int32) := c_2
      refine lv_iconst (v := (1 : Int32)) hx hb d_W_isClass_19 (by decide +kernel) ?_
      refine lv_goto (tgt := 24) hx hb d_W_isClass_20 (by decide) ?_
      exact W.zret (v := (1 : Int32)) hx hb hr (by decide +kernel) (fun t ht hW => ⟨⟨(1 : Int32), (), rfl, by unfold f_W_isClass; rw [if_neg c_1, if_pos c_2], trivial⟩, hS.F ht⟩) hS.2.2 d_W_isClass_24
set_option maxHeartbeats 1000000 in
set_option maxRecDepth 100000 in
theorem c_W_mayBeExtended (l : Launch) (dC : Nat → ClassId) (dI : Nat → Nat → Nat) (ka : Nat → ClassId) (qa : Nat → Nat) (sz : Nat) (w : WS) (p1 : Int32)  : Met l y_W_mayBeExtended w_W_mayBeExtended ({ frames := 2, cells := 0, slots := 0, locals := 42 } : Room) (ro_P dC dI (wW ka qa w) (tW ka) sz [.ref (qa 0), .int p1]) (ro_Q sz (f_W_mayBeExtended w p1)) 0 0 (fun z => sz ≤ z) := by
  refine Met.ofW (cc := b_W_mayBeExtended) (maxL := 2) (ret := (some .boolean)) (by decide) rfl ?_
  intro p e s m args below meth c s₁ B hml hv
  obtain ⟨rfl, hsz, hP, hK, hN⟩ := hv
  have hx := B.exec
  have hb := B.bytes
  have hr := B.returns
  have hts := tl_of (atoms_spec (ws := w_W_mayBeExtended) B.pre)
  have hown : s.vm.findClass R_W = some m.cls := findClass_of_methodNamed B.named
  have hlocks := B.notSynchronized
  subst hsz
  have hA : ∀ z : Nat, s.heap.size ≤ z → (fun z : Nat => s.heap.size ≤ z) z := fun _ h => h
  have hS : va_S (fun z : Nat => s.heap.size ≤ z) s.heap s.heap [] := va_S.rf
  have hl := lv_entry ([.ref (qa 0), .int p1]) (n := 2) (Nat.le_of_ble_eq_true rfl)
  rw [lg_entry_eq]
  generalize (lg_sl ([.ref (qa 0), .int p1]) ++ List.replicate (2 - (lg_sl ([.ref (qa 0), .int p1])).length) Slot.unset).toArray = ls at hl ⊢
  have hl : lv_has ls 2 [(0, .ref (qa 0)), (1, .int p1)] := hl
  refine lv_aload_n hx hb d_W_mayBeExtended_0 rfl (lv_at hl 0 rfl) ?_
  refine lv_iload_n hx hb d_W_mayBeExtended_1 rfl (lv_at hl 1 rfl) ?_
  refine va_calli (va_runV (As := [.int p1]) (rest := []) ⟨hx, hb, hml, hown, hts⟩ (c_W_isClass l dC dI ka qa s.heap.size w  p1) (cwV 1 hts k_g3 rfl rfl rfl (by decide +kernel) ⟨Nat.le_of_ble_eq_true rfl, Nat.le_of_ble_eq_true rfl⟩) ⟨fb_ro, va_recv hK hP (ci := 0) (q0 := 0) rfl rfl, fun U hU hW => ⟨rfl, by rw [hU], by rw [hU]; exact hP.sub (ws' := (wW ka qa w)) [0, 1, 2, 3, 4, 5, 6] rfl, va_K.moved hW.alike (hK.sub (tys' := (tW ka)) [0, 1, 2, 3, 4, 5] rfl), NX.warm hW hN⟩⟩ rfl rfl hl.1 rfl (lv_room (Nat.le_of_ble_eq_true rfl)) d_W_mayBeExtended_2 ⟨Nat.zero_le _, Nat.zero_le _⟩) hS (fun z h1 h2 => absurd h1 (Nat.not_lt.mpr h2)) (fun z h => hA z (Nat.le_trans hS.1 h)) (fun r u t H1 locs ht hvm hpo hB hz1 hk1 hS => ?_)
  subst hpo
  have hP := kp_P hP hk1
  generalize H1 = H at hP hS ⊢
  refine lv_if_eq (tgt := 23) hx hb d_W_mayBeExtended_5 (by decide) (fun c_1 => ?_) (fun c_1 => ?_)
  · have c_1 : (f_W_isClass w p1) = (0 : Int32) := c_1
    refine lv_iconst (v := (0 : Int32)) hx hb d_W_mayBeExtended_23 (by decide +kernel) ?_
    exact W.zret (v := (0 : Int32)) hx hb hr (by decide +kernel) (fun t ht hW => ⟨⟨(0 : Int32), (), rfl, by unfold f_W_mayBeExtended; rw [if_pos c_1], trivial⟩, hS.F ht⟩) hS.2.2 d_W_mayBeExtended_24
  · have c_1 : ¬ ((f_W_isClass w p1) = (0 : Int32)) := c_1
    refine lv_aload_n hx hb d_W_mayBeExtended_8 rfl (lv_at hl 0 rfl) ?_
    refine va_get (D := (dC, dI)) (ci := 0) (v := .int (w.2 1)) (C := R_W) (T := F_W) (N := 10) hx hb hts i_W hown hK hP 0 rfl rfl 7 (by decide) (hts _ k_8) (fun _ h9 => h9) rfl d_W_mayBeExtended_9 ?_
    refine lv_iload_n hx hb d_W_mayBeExtended_12 rfl (lv_at hl 1 rfl) ?_
    refine va_calli (va_runSN (As := [.int (w.2 1), .int p1]) (rest := []) ⟨hx, hb, hml, hown, hts⟩ (c_O_holds l dC dI  H.size   (w.2 1) p1) ⟨va_cnB 2 hts k_g2 rfl rfl rfl (hN _ k_5 rfl) (hts _ k_6) (by decide +kernel) ⟨Nat.le_of_ble_eq_true rfl, Nat.le_of_ble_eq_true rfl⟩, hts _ k_7, trivial⟩ ⟨fb_ro, fun U hU hW => ⟨rfl, by rw [hU], by rw [hU]; exact hP.sub (ws' := ([] : va_W)) [] rfl, va_K.moved hW.alike (hK.sub (tys' := []) [] rfl), NX.warm hW hN⟩⟩ rfl rfl hl.1 rfl (lv_room (Nat.le_of_ble_eq_true rfl)) d_W_mayBeExtended_13 ⟨Nat.zero_le _, Nat.zero_le _⟩) hS (fun z h1 h2 => absurd h1 (Nat.not_lt.mpr h2)) (fun z h => hA z (Nat.le_trans hS.1 h)) (fun r u t H1 locs ht hvm hpo hB hz1 hk1 hS => ?_)
    subst hpo
    have hP := kp_P hP hk1
    generalize H1 = H at hP hS ⊢
    refine lv_if_ne (tgt := 23) hx hb d_W_mayBeExtended_16 (by decide) (fun c_2 => ?_) (fun c_2 => ?_)
    · have c_2 : ¬ ((f_O_holds (w.2 1) p1) = (0 : Int32)) := c_2
      refine lv_iconst (v := (0 : Int32)) hx hb d_W_mayBeExtended_23 (by decide +kernel) ?_
      exact W.zret (v := (0 : Int32)) hx hb hr (by decide +kernel) (fun t ht hW => ⟨⟨(0 : Int32), (), rfl, by unfold f_W_mayBeExtended; rw [if_neg c_1, if_neg c_2], trivial⟩, hS.F ht⟩) hS.2.2 d_W_mayBeExtended_24
    · have c_2 : (f_O_holds (w.2 1) p1) = (0 : Int32) := c_2
      refine lv_iconst (v := (1 : Int32)) hx hb d_W_mayBeExtended_19 (by decide +kernel) ?_
      refine lv_goto (tgt := 24) hx hb d_W_mayBeExtended_20 (by decide) ?_
      exact W.zret (v := (1 : Int32)) hx hb hr (by decide +kernel) (fun t ht hW => ⟨⟨(1 : Int32), (), rfl, by unfold f_W_mayBeExtended; rw [if_neg c_1, if_pos c_2], trivial⟩, hS.F ht⟩) hS.2.2 d_W_mayBeExtended_24
set_option maxHeartbeats 1000000 in
set_option maxRecDepth 100000 in
theorem c_W_directCount (l : Launch) (dC : Nat → ClassId) (dI : Nat → Nat → Nat) (ka : Nat → ClassId) (qa : Nat → Nat) (sz : Nat) (w : WS) (p1 : Int32) (hp1 : vp_in p1 13) : Met l y_W_directCount w_W_directCount ({ frames := 0, cells := 0, slots := 0, locals := 0 } : Room) (ro_P dC dI (wW ka qa w) (tW ka) sz [.ref (qa 0), .int p1]) (ro_Q sz (f_W_directCount w p1)) 0 0 (fun z => sz ≤ z) := by
  refine Met.ofW (cc := b_W_directCount) (maxL := 2) (ret := (some .int)) (by decide) rfl ?_
  intro p e s m args below meth c s₁ B hml hv
  obtain ⟨rfl, hsz, hP, hK, hN⟩ := hv
  have hx := B.exec
  have hb := B.bytes
  have hr := B.returns
  have hts := tl_of (atoms_spec (ws := w_W_directCount) B.pre)
  have hown : s.vm.findClass R_W = some m.cls := findClass_of_methodNamed B.named
  have hlocks := B.notSynchronized
  subst hsz
  have hA : ∀ z : Nat, s.heap.size ≤ z → (fun z : Nat => s.heap.size ≤ z) z := fun _ h => h
  have hS : va_S (fun z : Nat => s.heap.size ≤ z) s.heap s.heap [] := va_S.rf
  have hl := lv_entry ([.ref (qa 0), .int p1]) (n := 2) (Nat.le_of_ble_eq_true rfl)
  rw [lg_entry_eq]
  generalize (lg_sl ([.ref (qa 0), .int p1]) ++ List.replicate (2 - (lg_sl ([.ref (qa 0), .int p1])).length) Slot.unset).toArray = ls at hl ⊢
  have hl : lv_has ls 2 [(0, .ref (qa 0)), (1, .int p1)] := hl
  refine lv_aload_n hx hb d_W_directCount_0 rfl (lv_at hl 0 rfl) ?_
  refine va_get (D := (dC, dI)) (ci := 0) (v := .ref (qa 4)) (C := R_W) (T := F_W) (N := 10) hx hb hts i_W hown hK hP 0 rfl rfl 3 (by decide) (hts _ k_9) (fun _ h9 => h9) rfl d_W_directCount_1 ?_
  refine lv_iload_n hx hb d_W_directCount_4 rfl (lv_at hl 1 rfl) ?_
  have hi_1 : vp_in p1 13 := by first | with_reducible assumption | exact in_has hw (by with_reducible assumption) | exact in_cls hw (by with_reducible assumption) | exact in_ifc hw (by with_reducible assumption) | exact in_ext hw (by with_reducible assumption) | exact in_eq0 (by with_reducible assumption) | exact hfd (by with_reducible assumption) | exact in_rcv hw (by with_reducible assumption) (Or.inl (by with_reducible assumption)) | exact in_rcv hw (by with_reducible assumption) (Or.inr (by with_reducible assumption))
  refine va_iald (D := (dC, dI)) (f := (w.1 3)) hx hb hK hP 4 3 rfl rfl hi_1 d_W_directCount_5 ?_
  exact W.iret (v := ((w.1 3) p1.toNatClampNeg)) hx hb hr (fun t ht hW => ⟨⟨((w.1 3) p1.toNatClampNeg), (), rfl, rfl, trivial⟩, hS.F ht⟩) hS.2.2 d_W_directCount_6
set_option maxHeartbeats 1000000 in
set_option maxRecDepth 100000 in
theorem c_W_directAt (l : Launch) (dC : Nat → ClassId) (dI : Nat → Nat → Nat) (ka : Nat → ClassId) (qa : Nat → Nat) (sz : Nat) (w : WS) (p1 p2 : Int32) (hp : vp_in ((p1 * (4 : Int32)) + p2) 52) : Met l y_W_directAt w_W_directAt ({ frames := 0, cells := 0, slots := 0, locals := 0 } : Room) (ro_P dC dI (wW ka qa w) (tW ka) sz [.ref (qa 0), .int p1, .int p2]) (ro_Q sz (f_W_directAt w p1 p2)) 0 0 (fun z => sz ≤ z) := by
  refine Met.ofW (cc := b_W_directAt) (maxL := 3) (ret := (some .int)) (by decide) rfl ?_
  intro p e s m args below meth c s₁ B hml hv
  obtain ⟨rfl, hsz, hP, hK, hN⟩ := hv
  have hx := B.exec
  have hb := B.bytes
  have hr := B.returns
  have hts := tl_of (atoms_spec (ws := w_W_directAt) B.pre)
  have hown : s.vm.findClass R_W = some m.cls := findClass_of_methodNamed B.named
  have hlocks := B.notSynchronized
  subst hsz
  have hA : ∀ z : Nat, s.heap.size ≤ z → (fun z : Nat => s.heap.size ≤ z) z := fun _ h => h
  have hS : va_S (fun z : Nat => s.heap.size ≤ z) s.heap s.heap [] := va_S.rf
  have hl := lv_entry ([.ref (qa 0), .int p1, .int p2]) (n := 3) (Nat.le_of_ble_eq_true rfl)
  rw [lg_entry_eq]
  generalize (lg_sl ([.ref (qa 0), .int p1, .int p2]) ++ List.replicate (3 - (lg_sl ([.ref (qa 0), .int p1, .int p2])).length) Slot.unset).toArray = ls at hl ⊢
  have hl : lv_has ls 3 [(0, .ref (qa 0)), (1, .int p1), (2, .int p2)] := hl
  refine lv_aload_n hx hb d_W_directAt_0 rfl (lv_at hl 0 rfl) ?_
  refine va_get (D := (dC, dI)) (ci := 0) (v := .ref (qa 5)) (C := R_W) (T := F_W) (N := 10) hx hb hts i_W hown hK hP 0 rfl rfl 4 (by decide) (hts _ k_10) (fun _ h9 => h9) rfl d_W_directAt_1 ?_
  refine lv_iload_n hx hb d_W_directAt_4 rfl (lv_at hl 1 rfl) ?_
  refine lv_iconst (v := (4 : Int32)) hx hb d_W_directAt_5 (by decide +kernel) ?_
  refine lv_imul hx hb d_W_directAt_6 ?_
  refine lv_iload_n hx hb d_W_directAt_7 rfl (lv_at hl 2 rfl) ?_
  refine lv_iadd hx hb d_W_directAt_8 ?_
  have hi_1 : vp_in ((p1 * (4 : Int32)) + p2) 52 := by first | with_reducible assumption | exact in_52 (by first | with_reducible assumption | exact in_has hw (by with_reducible assumption) | exact in_cls hw (by with_reducible assumption) | exact in_ifc hw (by with_reducible assumption) | exact in_ext hw (by with_reducible assumption) | exact in_eq0 (by with_reducible assumption) | exact hfd (by with_reducible assumption) | exact in_rcv hw (by with_reducible assumption) (Or.inl (by with_reducible assumption)) | exact in_rcv hw (by with_reducible assumption) (Or.inr (by with_reducible assumption))) (by first | with_reducible assumption | exact in_name (by with_reducible assumption) | exact in4_4 (by with_reducible assumption) | exact in4_5 (by with_reducible assumption) | exact in4_6 (by with_reducible assumption) | exact in4_7 (by with_reducible assumption))
  refine va_iald (D := (dC, dI)) (f := (w.1 4)) hx hb hK hP 5 4 rfl rfl hi_1 d_W_directAt_9 ?_
  exact W.iret (v := ((w.1 4) ((p1 * (4 : Int32)) + p2).toNatClampNeg)) hx hb hr (fun t ht hW => ⟨⟨((w.1 4) ((p1 * (4 : Int32)) + p2).toNatClampNeg), (), rfl, rfl, trivial⟩, hS.F ht⟩) hS.2.2 d_W_directAt_10
set_option maxHeartbeats 1000000 in
set_option maxRecDepth 100000 in
theorem c_W_superclassOf (l : Launch) (dC : Nat → ClassId) (dI : Nat → Nat → Nat) (ka : Nat → ClassId) (qa : Nat → Nat) (sz : Nat) (w : WS) (p1 : Int32) (hp1 : vp_in p1 13) : Met l y_W_superclassOf w_W_superclassOf ({ frames := 0, cells := 0, slots := 0, locals := 0 } : Room) (ro_P dC dI (wW ka qa w) (tW ka) sz [.ref (qa 0), .int p1]) (ro_Q sz (f_W_superclassOf w p1)) 0 0 (fun z => sz ≤ z) := by
  refine Met.ofW (cc := b_W_superclassOf) (maxL := 2) (ret := (some .int)) (by decide) rfl ?_
  intro p e s m args below meth c s₁ B hml hv
  obtain ⟨rfl, hsz, hP, hK, hN⟩ := hv
  have hx := B.exec
  have hb := B.bytes
  have hr := B.returns
  have hts := tl_of (atoms_spec (ws := w_W_superclassOf) B.pre)
  have hown : s.vm.findClass R_W = some m.cls := findClass_of_methodNamed B.named
  have hlocks := B.notSynchronized
  subst hsz
  have hA : ∀ z : Nat, s.heap.size ≤ z → (fun z : Nat => s.heap.size ≤ z) z := fun _ h => h
  have hS : va_S (fun z : Nat => s.heap.size ≤ z) s.heap s.heap [] := va_S.rf
  have hl := lv_entry ([.ref (qa 0), .int p1]) (n := 2) (Nat.le_of_ble_eq_true rfl)
  rw [lg_entry_eq]
  generalize (lg_sl ([.ref (qa 0), .int p1]) ++ List.replicate (2 - (lg_sl ([.ref (qa 0), .int p1])).length) Slot.unset).toArray = ls at hl ⊢
  have hl : lv_has ls 2 [(0, .ref (qa 0)), (1, .int p1)] := hl
  refine lv_aload_n hx hb d_W_superclassOf_0 rfl (lv_at hl 0 rfl) ?_
  refine va_get (D := (dC, dI)) (ci := 0) (v := .ref (qa 1)) (C := R_W) (T := F_W) (N := 10) hx hb hts i_W hown hK hP 0 rfl rfl 0 (by decide) (hts _ k_11) (fun _ h9 => h9) rfl d_W_superclassOf_1 ?_
  refine lv_iload_n hx hb d_W_superclassOf_4 rfl (lv_at hl 1 rfl) ?_
  have hi_1 : vp_in p1 13 := by first | with_reducible assumption | exact in_has hw (by with_reducible assumption) | exact in_cls hw (by with_reducible assumption) | exact in_ifc hw (by with_reducible assumption) | exact in_ext hw (by with_reducible assumption) | exact in_eq0 (by with_reducible assumption) | exact hfd (by with_reducible assumption) | exact in_rcv hw (by with_reducible assumption) (Or.inl (by with_reducible assumption)) | exact in_rcv hw (by with_reducible assumption) (Or.inr (by with_reducible assumption))
  refine va_iald (D := (dC, dI)) (f := (w.1 0)) hx hb hK hP 1 0 rfl rfl hi_1 d_W_superclassOf_5 ?_
  exact W.iret (v := ((w.1 0) p1.toNatClampNeg)) hx hb hr (fun t ht hW => ⟨⟨((w.1 0) p1.toNatClampNeg), (), rfl, rfl, trivial⟩, hS.F ht⟩) hS.2.2 d_W_superclassOf_6
set_option maxHeartbeats 1000000 in
set_option maxRecDepth 100000 in
theorem c_W_packageOf (l : Launch) (dC : Nat → ClassId) (dI : Nat → Nat → Nat) (ka : Nat → ClassId) (qa : Nat → Nat) (sz : Nat) (w : WS) (p1 : Int32) (hp1 : vp_in p1 13) : Met l y_W_packageOf w_W_packageOf ({ frames := 0, cells := 0, slots := 0, locals := 0 } : Room) (ro_P dC dI (wW ka qa w) (tW ka) sz [.ref (qa 0), .int p1]) (ro_Q sz (f_W_packageOf w p1)) 0 0 (fun z => sz ≤ z) := by
  refine Met.ofW (cc := b_W_packageOf) (maxL := 2) (ret := (some .int)) (by decide) rfl ?_
  intro p e s m args below meth c s₁ B hml hv
  obtain ⟨rfl, hsz, hP, hK, hN⟩ := hv
  have hx := B.exec
  have hb := B.bytes
  have hr := B.returns
  have hts := tl_of (atoms_spec (ws := w_W_packageOf) B.pre)
  have hown : s.vm.findClass R_W = some m.cls := findClass_of_methodNamed B.named
  have hlocks := B.notSynchronized
  subst hsz
  have hA : ∀ z : Nat, s.heap.size ≤ z → (fun z : Nat => s.heap.size ≤ z) z := fun _ h => h
  have hS : va_S (fun z : Nat => s.heap.size ≤ z) s.heap s.heap [] := va_S.rf
  have hl := lv_entry ([.ref (qa 0), .int p1]) (n := 2) (Nat.le_of_ble_eq_true rfl)
  rw [lg_entry_eq]
  generalize (lg_sl ([.ref (qa 0), .int p1]) ++ List.replicate (2 - (lg_sl ([.ref (qa 0), .int p1])).length) Slot.unset).toArray = ls at hl ⊢
  have hl : lv_has ls 2 [(0, .ref (qa 0)), (1, .int p1)] := hl
  refine lv_aload_n hx hb d_W_packageOf_0 rfl (lv_at hl 0 rfl) ?_
  refine va_get (D := (dC, dI)) (ci := 0) (v := .ref (qa 2)) (C := R_W) (T := F_W) (N := 10) hx hb hts i_W hown hK hP 0 rfl rfl 1 (by decide) (hts _ k_12) (fun _ h9 => h9) rfl d_W_packageOf_1 ?_
  refine lv_iload_n hx hb d_W_packageOf_4 rfl (lv_at hl 1 rfl) ?_
  have hi_1 : vp_in p1 13 := by first | with_reducible assumption | exact in_has hw (by with_reducible assumption) | exact in_cls hw (by with_reducible assumption) | exact in_ifc hw (by with_reducible assumption) | exact in_ext hw (by with_reducible assumption) | exact in_eq0 (by with_reducible assumption) | exact hfd (by with_reducible assumption) | exact in_rcv hw (by with_reducible assumption) (Or.inl (by with_reducible assumption)) | exact in_rcv hw (by with_reducible assumption) (Or.inr (by with_reducible assumption))
  refine va_iald (D := (dC, dI)) (f := (w.1 1)) hx hb hK hP 2 1 rfl rfl hi_1 d_W_packageOf_5 ?_
  exact W.iret (v := ((w.1 1) p1.toNatClampNeg)) hx hb hr (fun t ht hW => ⟨⟨((w.1 1) p1.toNatClampNeg), (), rfl, rfl, trivial⟩, hS.F ht⟩) hS.2.2 d_W_packageOf_6
set_option maxHeartbeats 1000000 in
set_option maxRecDepth 100000 in
theorem c_W_hostOf (l : Launch) (dC : Nat → ClassId) (dI : Nat → Nat → Nat) (ka : Nat → ClassId) (qa : Nat → Nat) (sz : Nat) (w : WS) (p1 : Int32) (hp1 : vp_in p1 13) : Met l y_W_hostOf w_W_hostOf ({ frames := 0, cells := 0, slots := 0, locals := 0 } : Room) (ro_P dC dI (wW ka qa w) (tW ka) sz [.ref (qa 0), .int p1]) (ro_Q sz (f_W_hostOf w p1)) 0 0 (fun z => sz ≤ z) := by
  refine Met.ofW (cc := b_W_hostOf) (maxL := 2) (ret := (some .int)) (by decide) rfl ?_
  intro p e s m args below meth c s₁ B hml hv
  obtain ⟨rfl, hsz, hP, hK, hN⟩ := hv
  have hx := B.exec
  have hb := B.bytes
  have hr := B.returns
  have hts := tl_of (atoms_spec (ws := w_W_hostOf) B.pre)
  have hown : s.vm.findClass R_W = some m.cls := findClass_of_methodNamed B.named
  have hlocks := B.notSynchronized
  subst hsz
  have hA : ∀ z : Nat, s.heap.size ≤ z → (fun z : Nat => s.heap.size ≤ z) z := fun _ h => h
  have hS : va_S (fun z : Nat => s.heap.size ≤ z) s.heap s.heap [] := va_S.rf
  have hl := lv_entry ([.ref (qa 0), .int p1]) (n := 2) (Nat.le_of_ble_eq_true rfl)
  rw [lg_entry_eq]
  generalize (lg_sl ([.ref (qa 0), .int p1]) ++ List.replicate (2 - (lg_sl ([.ref (qa 0), .int p1])).length) Slot.unset).toArray = ls at hl ⊢
  have hl : lv_has ls 2 [(0, .ref (qa 0)), (1, .int p1)] := hl
  refine lv_aload_n hx hb d_W_hostOf_0 rfl (lv_at hl 0 rfl) ?_
  refine va_get (D := (dC, dI)) (ci := 0) (v := .ref (qa 3)) (C := R_W) (T := F_W) (N := 10) hx hb hts i_W hown hK hP 0 rfl rfl 2 (by decide) (hts _ k_13) (fun _ h9 => h9) rfl d_W_hostOf_1 ?_
  refine lv_iload_n hx hb d_W_hostOf_4 rfl (lv_at hl 1 rfl) ?_
  have hi_1 : vp_in p1 13 := by first | with_reducible assumption | exact in_has hw (by with_reducible assumption) | exact in_cls hw (by with_reducible assumption) | exact in_ifc hw (by with_reducible assumption) | exact in_ext hw (by with_reducible assumption) | exact in_eq0 (by with_reducible assumption) | exact hfd (by with_reducible assumption) | exact in_rcv hw (by with_reducible assumption) (Or.inl (by with_reducible assumption)) | exact in_rcv hw (by with_reducible assumption) (Or.inr (by with_reducible assumption))
  refine va_iald (D := (dC, dI)) (f := (w.1 2)) hx hb hK hP 3 2 rfl rfl hi_1 d_W_hostOf_5 ?_
  exact W.iret (v := ((w.1 2) p1.toNatClampNeg)) hx hb hr (fun t ht hW => ⟨⟨((w.1 2) p1.toNatClampNeg), (), rfl, rfl, trivial⟩, hS.F ht⟩) hS.2.2 d_W_hostOf_6
set_option maxHeartbeats 1000000 in
set_option maxRecDepth 100000 in
theorem c_W_interfaces (l : Launch) (dC : Nat → ClassId) (dI : Nat → Nat → Nat) (ka : Nat → ClassId) (qa : Nat → Nat) (sz : Nat) (w : WS)  : Met l y_W_interfaces w_W_interfaces ({ frames := 0, cells := 0, slots := 0, locals := 0 } : Room) (ro_P dC dI (wW ka qa w) (tW ka) sz [.ref (qa 0)]) (ro_Q sz (f_W_interfaces w)) 0 0 (fun z => sz ≤ z) := by
  refine Met.ofW (cc := b_W_interfaces) (maxL := 1) (ret := (some .int)) (by decide) rfl ?_
  intro p e s m args below meth c s₁ B hml hv
  obtain ⟨rfl, hsz, hP, hK, hN⟩ := hv
  have hx := B.exec
  have hb := B.bytes
  have hr := B.returns
  have hts := tl_of (atoms_spec (ws := w_W_interfaces) B.pre)
  have hown : s.vm.findClass R_W = some m.cls := findClass_of_methodNamed B.named
  have hlocks := B.notSynchronized
  subst hsz
  have hA : ∀ z : Nat, s.heap.size ≤ z → (fun z : Nat => s.heap.size ≤ z) z := fun _ h => h
  have hS : va_S (fun z : Nat => s.heap.size ≤ z) s.heap s.heap [] := va_S.rf
  have hl := lv_entry ([.ref (qa 0)]) (n := 1) (Nat.le_of_ble_eq_true rfl)
  rw [lg_entry_eq]
  generalize (lg_sl ([.ref (qa 0)]) ++ List.replicate (1 - (lg_sl ([.ref (qa 0)])).length) Slot.unset).toArray = ls at hl ⊢
  have hl : lv_has ls 1 [(0, .ref (qa 0))] := hl
  refine lv_aload_n hx hb d_W_interfaces_0 rfl (lv_at hl 0 rfl) ?_
  refine va_get (D := (dC, dI)) (ci := 0) (v := .int (w.2 2)) (C := R_W) (T := F_W) (N := 10) hx hb hts i_W hown hK hP 0 rfl rfl 8 (by decide) (hts _ k_4) (fun _ h9 => h9) rfl d_W_interfaces_1 ?_
  exact W.iret (v := (w.2 2)) hx hb hr (fun t ht hW => ⟨⟨(w.2 2), (), rfl, rfl, trivial⟩, hS.F ht⟩) hS.2.2 d_W_interfaces_4
set_option maxHeartbeats 1000000 in
set_option maxRecDepth 100000 in
theorem c_W_isKindOf (l : Launch) (dC : Nat → ClassId) (dI : Nat → Nat → Nat) (ka : Nat → ClassId) (qa : Nat → Nat) (sz : Nat) (w : WS) (p1 p2 : Int32) (hp1 : vp_in p1 13) : Met l y_W_isKindOf w_W_isKindOf ({ frames := 1, cells := 0, slots := 0, locals := 21 } : Room) (ro_P dC dI (wW ka qa w) (tW ka) sz [.ref (qa 0), .int p1, .int p2]) (ro_Q sz (f_W_isKindOf w p1 p2)) 0 0 (fun z => sz ≤ z) := by
  refine Met.ofW (cc := b_W_isKindOf) (maxL := 3) (ret := (some .boolean)) (by decide) rfl ?_
  intro p e s m args below meth c s₁ B hml hv
  obtain ⟨rfl, hsz, hP, hK, hN⟩ := hv
  have hx := B.exec
  have hb := B.bytes
  have hr := B.returns
  have hts := tl_of (atoms_spec (ws := w_W_isKindOf) B.pre)
  have hown : s.vm.findClass R_W = some m.cls := findClass_of_methodNamed B.named
  have hlocks := B.notSynchronized
  subst hsz
  have hA : ∀ z : Nat, s.heap.size ≤ z → (fun z : Nat => s.heap.size ≤ z) z := fun _ h => h
  have hS : va_S (fun z : Nat => s.heap.size ≤ z) s.heap s.heap [] := va_S.rf
  have hl := lv_entry ([.ref (qa 0), .int p1, .int p2]) (n := 3) (Nat.le_of_ble_eq_true rfl)
  rw [lg_entry_eq]
  generalize (lg_sl ([.ref (qa 0), .int p1, .int p2]) ++ List.replicate (3 - (lg_sl ([.ref (qa 0), .int p1, .int p2])).length) Slot.unset).toArray = ls at hl ⊢
  have hl : lv_has ls 3 [(0, .ref (qa 0)), (1, .int p1), (2, .int p2)] := hl
  refine lv_aload_n hx hb d_W_isKindOf_0 rfl (lv_at hl 0 rfl) ?_
  refine va_get (D := (dC, dI)) (ci := 0) (v := .ref (qa 6)) (C := R_W) (T := F_W) (N := 10) hx hb hts i_W hown hK hP 0 rfl rfl 5 (by decide) (hts _ k_14) (fun _ h9 => h9) rfl d_W_isKindOf_1 ?_
  refine lv_iload_n hx hb d_W_isKindOf_4 rfl (lv_at hl 1 rfl) ?_
  have hi_1 : vp_in p1 13 := by first | with_reducible assumption | exact in_has hw (by with_reducible assumption) | exact in_cls hw (by with_reducible assumption) | exact in_ifc hw (by with_reducible assumption) | exact in_ext hw (by with_reducible assumption) | exact in_eq0 (by with_reducible assumption) | exact hfd (by with_reducible assumption) | exact in_rcv hw (by with_reducible assumption) (Or.inl (by with_reducible assumption)) | exact in_rcv hw (by with_reducible assumption) (Or.inr (by with_reducible assumption))
  refine va_iald (D := (dC, dI)) (f := (w.1 5)) hx hb hK hP 6 5 rfl rfl hi_1 d_W_isKindOf_5 ?_
  refine lv_iload_n hx hb d_W_isKindOf_6 rfl (lv_at hl 2 rfl) ?_
  refine va_calli (va_runSN (As := [.int ((w.1 5) p1.toNatClampNeg), .int p2]) (rest := []) ⟨hx, hb, hml, hown, hts⟩ (c_O_holds l dC dI  s.heap.size   ((w.1 5) p1.toNatClampNeg) p2) ⟨va_cnB 2 hts k_g2 rfl rfl rfl (hN _ k_5 rfl) (hts _ k_6) (by decide +kernel) ⟨Nat.le_of_ble_eq_true rfl, Nat.le_of_ble_eq_true rfl⟩, hts _ k_7, trivial⟩ ⟨fb_ro, fun U hU hW => ⟨rfl, by rw [hU], by rw [hU]; exact hP.sub (ws' := ([] : va_W)) [] rfl, va_K.moved hW.alike (hK.sub (tys' := []) [] rfl), NX.warm hW hN⟩⟩ rfl rfl hl.1 rfl (lv_room (Nat.le_of_ble_eq_true rfl)) d_W_isKindOf_7 ⟨Nat.zero_le _, Nat.zero_le _⟩) hS (fun z h1 h2 => absurd h1 (Nat.not_lt.mpr h2)) (fun z h => hA z (Nat.le_trans hS.1 h)) (fun r u t H1 locs ht hvm hpo hB hz1 hk1 hS => ?_)
  subst hpo
  have hP := kp_P hP hk1
  generalize H1 = H at hP hS ⊢
  exact W.zret (v := (f_O_holds ((w.1 5) p1.toNatClampNeg) p2)) hx hb hr (z_O_holds) (fun t ht hW => ⟨⟨(f_O_holds ((w.1 5) p1.toNatClampNeg) p2), (), rfl, rfl, trivial⟩, hS.F ht⟩) hS.2.2 d_W_isKindOf_10
set_option maxHeartbeats 1000000 in
set_option maxRecDepth 100000 in
theorem c_W_supertypes (l : Launch) (dC : Nat → ClassId) (dI : Nat → Nat → Nat) (ka : Nat → ClassId) (qa : Nat → Nat) (sz : Nat) (w : WS) (p1 : Int32) (hp1 : vp_in p1 13) : Met l y_W_supertypes w_W_supertypes ({ frames := 0, cells := 0, slots := 0, locals := 0 } : Room) (ro_P dC dI (wW ka qa w) (tW ka) sz [.ref (qa 0), .int p1]) (ro_Q sz (f_W_supertypes w p1)) 0 0 (fun z => sz ≤ z) := by
  refine Met.ofW (cc := b_W_supertypes) (maxL := 2) (ret := (some .int)) (by decide) rfl ?_
  intro p e s m args below meth c s₁ B hml hv
  obtain ⟨rfl, hsz, hP, hK, hN⟩ := hv
  have hx := B.exec
  have hb := B.bytes
  have hr := B.returns
  have hts := tl_of (atoms_spec (ws := w_W_supertypes) B.pre)
  have hown : s.vm.findClass R_W = some m.cls := findClass_of_methodNamed B.named
  have hlocks := B.notSynchronized
  subst hsz
  have hA : ∀ z : Nat, s.heap.size ≤ z → (fun z : Nat => s.heap.size ≤ z) z := fun _ h => h
  have hS : va_S (fun z : Nat => s.heap.size ≤ z) s.heap s.heap [] := va_S.rf
  have hl := lv_entry ([.ref (qa 0), .int p1]) (n := 2) (Nat.le_of_ble_eq_true rfl)
  rw [lg_entry_eq]
  generalize (lg_sl ([.ref (qa 0), .int p1]) ++ List.replicate (2 - (lg_sl ([.ref (qa 0), .int p1])).length) Slot.unset).toArray = ls at hl ⊢
  have hl : lv_has ls 2 [(0, .ref (qa 0)), (1, .int p1)] := hl
  refine lv_aload_n hx hb d_W_supertypes_0 rfl (lv_at hl 0 rfl) ?_
  refine va_get (D := (dC, dI)) (ci := 0) (v := .ref (qa 6)) (C := R_W) (T := F_W) (N := 10) hx hb hts i_W hown hK hP 0 rfl rfl 5 (by decide) (hts _ k_14) (fun _ h9 => h9) rfl d_W_supertypes_1 ?_
  refine lv_iload_n hx hb d_W_supertypes_4 rfl (lv_at hl 1 rfl) ?_
  have hi_1 : vp_in p1 13 := by first | with_reducible assumption | exact in_has hw (by with_reducible assumption) | exact in_cls hw (by with_reducible assumption) | exact in_ifc hw (by with_reducible assumption) | exact in_ext hw (by with_reducible assumption) | exact in_eq0 (by with_reducible assumption) | exact hfd (by with_reducible assumption) | exact in_rcv hw (by with_reducible assumption) (Or.inl (by with_reducible assumption)) | exact in_rcv hw (by with_reducible assumption) (Or.inr (by with_reducible assumption))
  refine va_iald (D := (dC, dI)) (f := (w.1 5)) hx hb hK hP 6 5 rfl rfl hi_1 d_W_supertypes_5 ?_
  refine lv_iconst (v := (1 : Int32)) hx hb d_W_supertypes_6 (by decide +kernel) ?_
  refine lv_iload_n hx hb d_W_supertypes_7 rfl (lv_at hl 1 rfl) ?_
  refine lv_ishl hx hb d_W_supertypes_8 ?_
  refine lv_iconst (v := (-1 : Int32)) hx hb d_W_supertypes_9 (by decide +kernel) ?_
  refine lv_ixor hx hb d_W_supertypes_10 ?_
  refine lv_iand hx hb d_W_supertypes_11 ?_
  exact W.iret (v := (((w.1 5) p1.toNatClampNeg) &&& (((1 : Int32) <<< (p1 &&& (31 : Int32))) ^^^ (-1 : Int32)))) hx hb hr (fun t ht hW => ⟨⟨(((w.1 5) p1.toNatClampNeg) &&& (((1 : Int32) <<< (p1 &&& (31 : Int32))) ^^^ (-1 : Int32))), (), rfl, rfl, trivial⟩, hS.F ht⟩) hS.2.2 d_W_supertypes_12
set_option maxHeartbeats 1000000 in
set_option maxRecDepth 100000 in
theorem c_W_chain (l : Launch) (dC : Nat → ClassId) (dI : Nat → Nat → Nat) (ka : Nat → ClassId) (qa : Nat → Nat) (sz : Nat) (w : WS) (p1 : Int32) (hp1 : vp_in p1 13) : Met l y_W_chain w_W_chain ({ frames := 0, cells := 0, slots := 0, locals := 0 } : Room) (ro_P dC dI (wW ka qa w) (tW ka) sz [.ref (qa 0), .int p1]) (ro_Q sz (f_W_chain w p1)) 0 0 (fun z => sz ≤ z) := by
  refine Met.ofW (cc := b_W_chain) (maxL := 2) (ret := (some .int)) (by decide) rfl ?_
  intro p e s m args below meth c s₁ B hml hv
  obtain ⟨rfl, hsz, hP, hK, hN⟩ := hv
  have hx := B.exec
  have hb := B.bytes
  have hr := B.returns
  have hts := tl_of (atoms_spec (ws := w_W_chain) B.pre)
  have hown : s.vm.findClass R_W = some m.cls := findClass_of_methodNamed B.named
  have hlocks := B.notSynchronized
  subst hsz
  have hA : ∀ z : Nat, s.heap.size ≤ z → (fun z : Nat => s.heap.size ≤ z) z := fun _ h => h
  have hS : va_S (fun z : Nat => s.heap.size ≤ z) s.heap s.heap [] := va_S.rf
  have hl := lv_entry ([.ref (qa 0), .int p1]) (n := 2) (Nat.le_of_ble_eq_true rfl)
  rw [lg_entry_eq]
  generalize (lg_sl ([.ref (qa 0), .int p1]) ++ List.replicate (2 - (lg_sl ([.ref (qa 0), .int p1])).length) Slot.unset).toArray = ls at hl ⊢
  have hl : lv_has ls 2 [(0, .ref (qa 0)), (1, .int p1)] := hl
  refine lv_aload_n hx hb d_W_chain_0 rfl (lv_at hl 0 rfl) ?_
  refine va_get (D := (dC, dI)) (ci := 0) (v := .ref (qa 6)) (C := R_W) (T := F_W) (N := 10) hx hb hts i_W hown hK hP 0 rfl rfl 5 (by decide) (hts _ k_14) (fun _ h9 => h9) rfl d_W_chain_1 ?_
  refine lv_iload_n hx hb d_W_chain_4 rfl (lv_at hl 1 rfl) ?_
  have hi_1 : vp_in p1 13 := by first | with_reducible assumption | exact in_has hw (by with_reducible assumption) | exact in_cls hw (by with_reducible assumption) | exact in_ifc hw (by with_reducible assumption) | exact in_ext hw (by with_reducible assumption) | exact in_eq0 (by with_reducible assumption) | exact hfd (by with_reducible assumption) | exact in_rcv hw (by with_reducible assumption) (Or.inl (by with_reducible assumption)) | exact in_rcv hw (by with_reducible assumption) (Or.inr (by with_reducible assumption))
  refine va_iald (D := (dC, dI)) (f := (w.1 5)) hx hb hK hP 6 5 rfl rfl hi_1 d_W_chain_5 ?_
  refine lv_aload_n hx hb d_W_chain_6 rfl (lv_at hl 0 rfl) ?_
  refine va_get (D := (dC, dI)) (ci := 0) (v := .int (w.2 2)) (C := R_W) (T := F_W) (N := 10) hx hb hts i_W hown hK hP 0 rfl rfl 8 (by decide) (hts _ k_4) (fun _ h9 => h9) rfl d_W_chain_7 ?_
  refine lv_iconst (v := (-1 : Int32)) hx hb d_W_chain_10 (by decide +kernel) ?_
  refine lv_ixor hx hb d_W_chain_11 ?_
  refine lv_iand hx hb d_W_chain_12 ?_
  refine lv_iconst (v := (1 : Int32)) hx hb d_W_chain_13 (by decide +kernel) ?_
  refine lv_iload_n hx hb d_W_chain_14 rfl (lv_at hl 1 rfl) ?_
  refine lv_ishl hx hb d_W_chain_15 ?_
  refine lv_ior hx hb d_W_chain_16 ?_
  exact W.iret (v := ((((w.1 5) p1.toNatClampNeg) &&& ((w.2 2) ^^^ (-1 : Int32))) ||| ((1 : Int32) <<< (p1 &&& (31 : Int32))))) hx hb hr (fun t ht hW => ⟨⟨((((w.1 5) p1.toNatClampNeg) &&& ((w.2 2) ^^^ (-1 : Int32))) ||| ((1 : Int32) <<< (p1 &&& (31 : Int32)))), (), rfl, rfl, trivial⟩, hS.F ht⟩) hS.2.2 d_W_chain_17
set_option maxHeartbeats 1000000 in
set_option maxRecDepth 100000 in
theorem c_W_sameHost (l : Launch) (dC : Nat → ClassId) (dI : Nat → Nat → Nat) (ka : Nat → ClassId) (qa : Nat → Nat) (sz : Nat) (w : WS) (p1 p2 : Int32) (hp1 : vp_in p1 13) (hp2 : vp_in p2 13) : Met l y_W_sameHost w_W_sameHost ({ frames := 0, cells := 0, slots := 0, locals := 0 } : Room) (ro_P dC dI (wW ka qa w) (tW ka) sz [.ref (qa 0), .int p1, .int p2]) (ro_Q sz (f_W_sameHost w p1 p2)) 0 0 (fun z => sz ≤ z) := by
  refine Met.ofW (cc := b_W_sameHost) (maxL := 3) (ret := (some .boolean)) (by decide) rfl ?_
  intro p e s m args below meth c s₁ B hml hv
  obtain ⟨rfl, hsz, hP, hK, hN⟩ := hv
  have hx := B.exec
  have hb := B.bytes
  have hr := B.returns
  have hts := tl_of (atoms_spec (ws := w_W_sameHost) B.pre)
  have hown : s.vm.findClass R_W = some m.cls := findClass_of_methodNamed B.named
  have hlocks := B.notSynchronized
  subst hsz
  have hA : ∀ z : Nat, s.heap.size ≤ z → (fun z : Nat => s.heap.size ≤ z) z := fun _ h => h
  have hS : va_S (fun z : Nat => s.heap.size ≤ z) s.heap s.heap [] := va_S.rf
  have hl := lv_entry ([.ref (qa 0), .int p1, .int p2]) (n := 3) (Nat.le_of_ble_eq_true rfl)
  rw [lg_entry_eq]
  generalize (lg_sl ([.ref (qa 0), .int p1, .int p2]) ++ List.replicate (3 - (lg_sl ([.ref (qa 0), .int p1, .int p2])).length) Slot.unset).toArray = ls at hl ⊢
  have hl : lv_has ls 3 [(0, .ref (qa 0)), (1, .int p1), (2, .int p2)] := hl
  refine lv_aload_n hx hb d_W_sameHost_0 rfl (lv_at hl 0 rfl) ?_
  refine va_get (D := (dC, dI)) (ci := 0) (v := .ref (qa 3)) (C := R_W) (T := F_W) (N := 10) hx hb hts i_W hown hK hP 0 rfl rfl 2 (by decide) (hts _ k_13) (fun _ h9 => h9) rfl d_W_sameHost_1 ?_
  refine lv_iload_n hx hb d_W_sameHost_4 rfl (lv_at hl 1 rfl) ?_
  have hi_1 : vp_in p1 13 := by first | with_reducible assumption | exact in_has hw (by with_reducible assumption) | exact in_cls hw (by with_reducible assumption) | exact in_ifc hw (by with_reducible assumption) | exact in_ext hw (by with_reducible assumption) | exact in_eq0 (by with_reducible assumption) | exact hfd (by with_reducible assumption) | exact in_rcv hw (by with_reducible assumption) (Or.inl (by with_reducible assumption)) | exact in_rcv hw (by with_reducible assumption) (Or.inr (by with_reducible assumption))
  refine va_iald (D := (dC, dI)) (f := (w.1 2)) hx hb hK hP 3 2 rfl rfl hi_1 d_W_sameHost_5 ?_
  refine lv_aload_n hx hb d_W_sameHost_6 rfl (lv_at hl 0 rfl) ?_
  refine va_get (D := (dC, dI)) (ci := 0) (v := .ref (qa 3)) (C := R_W) (T := F_W) (N := 10) hx hb hts i_W hown hK hP 0 rfl rfl 2 (by decide) (hts _ k_13) (fun _ h9 => h9) rfl d_W_sameHost_7 ?_
  refine lv_iload_n hx hb d_W_sameHost_10 rfl (lv_at hl 2 rfl) ?_
  have hi_2 : vp_in p2 13 := by first | with_reducible assumption | exact in_has hw (by with_reducible assumption) | exact in_cls hw (by with_reducible assumption) | exact in_ifc hw (by with_reducible assumption) | exact in_ext hw (by with_reducible assumption) | exact in_eq0 (by with_reducible assumption) | exact hfd (by with_reducible assumption) | exact in_rcv hw (by with_reducible assumption) (Or.inl (by with_reducible assumption)) | exact in_rcv hw (by with_reducible assumption) (Or.inr (by with_reducible assumption))
  refine va_iald (D := (dC, dI)) (f := (w.1 2)) hx hb hK hP 3 2 rfl rfl hi_2 d_W_sameHost_11 ?_
  refine lv_icmp_ne (tgt := 19) hx hb d_W_sameHost_12 (by decide) (fun c_3 => ?_) (fun c_3 => ?_)
  · have c_3 : ¬ (((w.1 2) p1.toNatClampNeg) = ((w.1 2) p2.toNatClampNeg)) := c_3
    refine lv_iconst (v := (0 : Int32)) hx hb d_W_sameHost_19 (by decide +kernel) ?_
    exact W.zret (v := (0 : Int32)) hx hb hr (by decide +kernel) (fun t ht hW => ⟨⟨(0 : Int32), (), rfl, by unfold f_W_sameHost; rw [if_neg c_3], trivial⟩, hS.F ht⟩) hS.2.2 d_W_sameHost_20
  · have c_3 : ((w.1 2) p1.toNatClampNeg) = ((w.1 2) p2.toNatClampNeg) := c_3
    refine lv_iconst (v := (1 : Int32)) hx hb d_W_sameHost_15 (by decide +kernel) ?_
    refine lv_goto (tgt := 20) hx hb d_W_sameHost_16 (by decide) ?_
    exact W.zret (v := (1 : Int32)) hx hb hr (by decide +kernel) (fun t ht hW => ⟨⟨(1 : Int32), (), rfl, by unfold f_W_sameHost; rw [if_pos c_3], trivial⟩, hS.F ht⟩) hS.2.2 d_W_sameHost_20
set_option maxHeartbeats 1000000 in
set_option maxRecDepth 100000 in
theorem c_W_samePackage (l : Launch) (dC : Nat → ClassId) (dI : Nat → Nat → Nat) (ka : Nat → ClassId) (qa : Nat → Nat) (sz : Nat) (w : WS) (p1 p2 : Int32) (hp1 : vp_in p1 13) (hp2 : vp_in p2 13) : Met l y_W_samePackage w_W_samePackage ({ frames := 0, cells := 0, slots := 0, locals := 0 } : Room) (ro_P dC dI (wW ka qa w) (tW ka) sz [.ref (qa 0), .int p1, .int p2]) (ro_Q sz (f_W_samePackage w p1 p2)) 0 0 (fun z => sz ≤ z) := by
  refine Met.ofW (cc := b_W_samePackage) (maxL := 3) (ret := (some .boolean)) (by decide) rfl ?_
  intro p e s m args below meth c s₁ B hml hv
  obtain ⟨rfl, hsz, hP, hK, hN⟩ := hv
  have hx := B.exec
  have hb := B.bytes
  have hr := B.returns
  have hts := tl_of (atoms_spec (ws := w_W_samePackage) B.pre)
  have hown : s.vm.findClass R_W = some m.cls := findClass_of_methodNamed B.named
  have hlocks := B.notSynchronized
  subst hsz
  have hA : ∀ z : Nat, s.heap.size ≤ z → (fun z : Nat => s.heap.size ≤ z) z := fun _ h => h
  have hS : va_S (fun z : Nat => s.heap.size ≤ z) s.heap s.heap [] := va_S.rf
  have hl := lv_entry ([.ref (qa 0), .int p1, .int p2]) (n := 3) (Nat.le_of_ble_eq_true rfl)
  rw [lg_entry_eq]
  generalize (lg_sl ([.ref (qa 0), .int p1, .int p2]) ++ List.replicate (3 - (lg_sl ([.ref (qa 0), .int p1, .int p2])).length) Slot.unset).toArray = ls at hl ⊢
  have hl : lv_has ls 3 [(0, .ref (qa 0)), (1, .int p1), (2, .int p2)] := hl
  refine lv_aload_n hx hb d_W_samePackage_0 rfl (lv_at hl 0 rfl) ?_
  refine va_get (D := (dC, dI)) (ci := 0) (v := .ref (qa 2)) (C := R_W) (T := F_W) (N := 10) hx hb hts i_W hown hK hP 0 rfl rfl 1 (by decide) (hts _ k_12) (fun _ h9 => h9) rfl d_W_samePackage_1 ?_
  refine lv_iload_n hx hb d_W_samePackage_4 rfl (lv_at hl 1 rfl) ?_
  have hi_1 : vp_in p1 13 := by first | with_reducible assumption | exact in_has hw (by with_reducible assumption) | exact in_cls hw (by with_reducible assumption) | exact in_ifc hw (by with_reducible assumption) | exact in_ext hw (by with_reducible assumption) | exact in_eq0 (by with_reducible assumption) | exact hfd (by with_reducible assumption) | exact in_rcv hw (by with_reducible assumption) (Or.inl (by with_reducible assumption)) | exact in_rcv hw (by with_reducible assumption) (Or.inr (by with_reducible assumption))
  refine va_iald (D := (dC, dI)) (f := (w.1 1)) hx hb hK hP 2 1 rfl rfl hi_1 d_W_samePackage_5 ?_
  refine lv_aload_n hx hb d_W_samePackage_6 rfl (lv_at hl 0 rfl) ?_
  refine va_get (D := (dC, dI)) (ci := 0) (v := .ref (qa 2)) (C := R_W) (T := F_W) (N := 10) hx hb hts i_W hown hK hP 0 rfl rfl 1 (by decide) (hts _ k_12) (fun _ h9 => h9) rfl d_W_samePackage_7 ?_
  refine lv_iload_n hx hb d_W_samePackage_10 rfl (lv_at hl 2 rfl) ?_
  have hi_2 : vp_in p2 13 := by first | with_reducible assumption | exact in_has hw (by with_reducible assumption) | exact in_cls hw (by with_reducible assumption) | exact in_ifc hw (by with_reducible assumption) | exact in_ext hw (by with_reducible assumption) | exact in_eq0 (by with_reducible assumption) | exact hfd (by with_reducible assumption) | exact in_rcv hw (by with_reducible assumption) (Or.inl (by with_reducible assumption)) | exact in_rcv hw (by with_reducible assumption) (Or.inr (by with_reducible assumption))
  refine va_iald (D := (dC, dI)) (f := (w.1 1)) hx hb hK hP 2 1 rfl rfl hi_2 d_W_samePackage_11 ?_
  refine lv_icmp_ne (tgt := 19) hx hb d_W_samePackage_12 (by decide) (fun c_3 => ?_) (fun c_3 => ?_)
  · have c_3 : ¬ (((w.1 1) p1.toNatClampNeg) = ((w.1 1) p2.toNatClampNeg)) := c_3
    refine lv_iconst (v := (0 : Int32)) hx hb d_W_samePackage_19 (by decide +kernel) ?_
    exact W.zret (v := (0 : Int32)) hx hb hr (by decide +kernel) (fun t ht hW => ⟨⟨(0 : Int32), (), rfl, by unfold f_W_samePackage; rw [if_neg c_3], trivial⟩, hS.F ht⟩) hS.2.2 d_W_samePackage_20
  · have c_3 : ((w.1 1) p1.toNatClampNeg) = ((w.1 1) p2.toNatClampNeg) := c_3
    refine lv_iconst (v := (1 : Int32)) hx hb d_W_samePackage_15 (by decide +kernel) ?_
    refine lv_goto (tgt := 20) hx hb d_W_samePackage_16 (by decide) ?_
    exact W.zret (v := (1 : Int32)) hx hb hr (by decide +kernel) (fun t ht hW => ⟨⟨(1 : Int32), (), rfl, by unfold f_W_samePackage; rw [if_pos c_3], trivial⟩, hS.F ht⟩) hS.2.2 d_W_samePackage_20
set_option maxHeartbeats 1000000 in
set_option maxRecDepth 100000 in
theorem c_W_mayUseType (l : Launch) (dC : Nat → ClassId) (dI : Nat → Nat → Nat) (ka : Nat → ClassId) (qa : Nat → Nat) (sz : Nat) (w : WS) (p1 p2 : Int32) (hp1 : vp_in p1 13) (hp2 : vp_in p2 13) : Met l y_W_mayUseType w_W_mayUseType ({ frames := 1, cells := 0, slots := 0, locals := 22 } : Room) (ro_P dC dI (wW ka qa w) (tW ka) sz [.ref (qa 0), .int p1, .int p2]) (ro_Q sz (f_W_mayUseType w p1 p2)) 0 0 (fun z => sz ≤ z) := by
  refine Met.ofW (cc := b_W_mayUseType) (maxL := 3) (ret := (some .boolean)) (by decide) rfl ?_
  intro p e s m args below meth c s₁ B hml hv
  obtain ⟨rfl, hsz, hP, hK, hN⟩ := hv
  have hx := B.exec
  have hb := B.bytes
  have hr := B.returns
  have hts := tl_of (atoms_spec (ws := w_W_mayUseType) B.pre)
  have hown : s.vm.findClass R_W = some m.cls := findClass_of_methodNamed B.named
  have hlocks := B.notSynchronized
  subst hsz
  have hA : ∀ z : Nat, s.heap.size ≤ z → (fun z : Nat => s.heap.size ≤ z) z := fun _ h => h
  have hS : va_S (fun z : Nat => s.heap.size ≤ z) s.heap s.heap [] := va_S.rf
  have hl := lv_entry ([.ref (qa 0), .int p1, .int p2]) (n := 3) (Nat.le_of_ble_eq_true rfl)
  rw [lg_entry_eq]
  generalize (lg_sl ([.ref (qa 0), .int p1, .int p2]) ++ List.replicate (3 - (lg_sl ([.ref (qa 0), .int p1, .int p2])).length) Slot.unset).toArray = ls at hl ⊢
  have hl : lv_has ls 3 [(0, .ref (qa 0)), (1, .int p1), (2, .int p2)] := hl
  refine lv_aload_n hx hb d_W_mayUseType_0 rfl (lv_at hl 0 rfl) ?_
  refine va_get (D := (dC, dI)) (ci := 0) (v := .int (w.2 0)) (C := R_W) (T := F_W) (N := 10) hx hb hts i_W hown hK hP 0 rfl rfl 6 (by decide) (hts _ k_15) (fun _ h9 => h9) rfl d_W_mayUseType_1 ?_
  refine lv_iload_n hx hb d_W_mayUseType_4 rfl (lv_at hl 1 rfl) ?_
  refine va_calli (va_runSN (As := [.int (w.2 0), .int p1]) (rest := []) ⟨hx, hb, hml, hown, hts⟩ (c_O_holds l dC dI  s.heap.size   (w.2 0) p1) ⟨va_cnB 2 hts k_g2 rfl rfl rfl (hN _ k_5 rfl) (hts _ k_6) (by decide +kernel) ⟨Nat.le_of_ble_eq_true rfl, Nat.le_of_ble_eq_true rfl⟩, hts _ k_7, trivial⟩ ⟨fb_ro, fun U hU hW => ⟨rfl, by rw [hU], by rw [hU]; exact hP.sub (ws' := ([] : va_W)) [] rfl, va_K.moved hW.alike (hK.sub (tys' := []) [] rfl), NX.warm hW hN⟩⟩ rfl rfl hl.1 rfl (lv_room (Nat.le_of_ble_eq_true rfl)) d_W_mayUseType_5 ⟨Nat.zero_le _, Nat.zero_le _⟩) hS (fun z h1 h2 => absurd h1 (Nat.not_lt.mpr h2)) (fun z h => hA z (Nat.le_trans hS.1 h)) (fun r u t H1 locs ht hvm hpo hB hz1 hk1 hS => ?_)
  subst hpo
  have hP := kp_P hP hk1
  generalize H1 = H at hP hS ⊢
  refine lv_if_ne (tgt := 20) hx hb d_W_mayUseType_8 (by decide) (fun c_1 => ?_) (fun c_1 => ?_)
  · have c_1 : ¬ ((f_O_holds (w.2 0) p1) = (0 : Int32)) := c_1
    refine lv_iconst (v := (1 : Int32)) hx hb d_W_mayUseType_20 (by decide +kernel) ?_
    refine lv_goto (tgt := 25) hx hb d_W_mayUseType_21 (by decide) ?_
    exact W.zret (v := (1 : Int32)) hx hb hr (by decide +kernel) (fun t ht hW => ⟨⟨(1 : Int32), (), rfl, by unfold f_W_mayUseType; rw [if_neg c_1], trivial⟩, hS.F ht⟩) hS.2.2 d_W_mayUseType_25
  · have c_1 : (f_O_holds (w.2 0) p1) = (0 : Int32) := c_1
    refine lv_aload_n hx hb d_W_mayUseType_11 rfl (lv_at hl 0 rfl) ?_
    refine lv_iload_n hx hb d_W_mayUseType_12 rfl (lv_at hl 1 rfl) ?_
    refine lv_iload_n hx hb d_W_mayUseType_13 rfl (lv_at hl 2 rfl) ?_
    have hq_2 : vp_in p1 13 := by first | with_reducible assumption | exact in_has hw (by with_reducible assumption) | exact in_cls hw (by with_reducible assumption) | exact in_ifc hw (by with_reducible assumption) | exact in_ext hw (by with_reducible assumption) | exact in_eq0 (by with_reducible assumption) | exact hfd (by with_reducible assumption) | exact in_rcv hw (by with_reducible assumption) (Or.inl (by with_reducible assumption)) | exact in_rcv hw (by with_reducible assumption) (Or.inr (by with_reducible assumption))
    have hq_3 : vp_in p2 13 := by first | with_reducible assumption | exact in_has hw (by with_reducible assumption) | exact in_cls hw (by with_reducible assumption) | exact in_ifc hw (by with_reducible assumption) | exact in_ext hw (by with_reducible assumption) | exact in_eq0 (by with_reducible assumption) | exact hfd (by with_reducible assumption) | exact in_rcv hw (by with_reducible assumption) (Or.inl (by with_reducible assumption)) | exact in_rcv hw (by with_reducible assumption) (Or.inr (by with_reducible assumption))
    refine va_calli (va_runV (As := [.int p1, .int p2]) (rest := []) ⟨hx, hb, hml, hown, hts⟩ (c_W_samePackage l dC dI ka qa H.size w  p1 p2 hq_2 hq_3) (cwV 2 hts k_g4 rfl rfl rfl (by decide +kernel) ⟨Nat.le_of_ble_eq_true rfl, Nat.le_of_ble_eq_true rfl⟩) ⟨fb_ro, va_recv hK hP (ci := 0) (q0 := 0) rfl rfl, fun U hU hW => ⟨rfl, by rw [hU], by rw [hU]; exact hP.sub (ws' := (wW ka qa w)) [0, 1, 2, 3, 4, 5, 6] rfl, va_K.moved hW.alike (hK.sub (tys' := (tW ka)) [0, 1, 2, 3, 4, 5] rfl), NX.warm hW hN⟩⟩ rfl rfl hl.1 rfl (lv_room (Nat.le_of_ble_eq_true rfl)) d_W_mayUseType_14 ⟨Nat.zero_le _, Nat.zero_le _⟩) hS (fun z h1 h2 => absurd h1 (Nat.not_lt.mpr h2)) (fun z h => hA z (Nat.le_trans hS.1 h)) (fun r u t H1 locs ht hvm hpo hB hz1 hk1 hS => ?_)
    subst hpo
    have hP := kp_P hP hk1
    generalize H1 = H at hP hS ⊢
    refine lv_if_eq (tgt := 24) hx hb d_W_mayUseType_17 (by decide) (fun c_4 => ?_) (fun c_4 => ?_)
    · have c_4 : (f_W_samePackage w p1 p2) = (0 : Int32) := c_4
      refine lv_iconst (v := (0 : Int32)) hx hb d_W_mayUseType_24 (by decide +kernel) ?_
      exact W.zret (v := (0 : Int32)) hx hb hr (by decide +kernel) (fun t ht hW => ⟨⟨(0 : Int32), (), rfl, by unfold f_W_mayUseType; rw [if_pos c_1, if_pos c_4], trivial⟩, hS.F ht⟩) hS.2.2 d_W_mayUseType_25
    · have c_4 : ¬ ((f_W_samePackage w p1 p2) = (0 : Int32)) := c_4
      refine lv_iconst (v := (1 : Int32)) hx hb d_W_mayUseType_20 (by decide +kernel) ?_
      refine lv_goto (tgt := 25) hx hb d_W_mayUseType_21 (by decide) ?_
      exact W.zret (v := (1 : Int32)) hx hb hr (by decide +kernel) (fun t ht hW => ⟨⟨(1 : Int32), (), rfl, by unfold f_W_mayUseType; rw [if_pos c_1, if_neg c_4], trivial⟩, hS.F ht⟩) hS.2.2 d_W_mayUseType_25
set_option maxHeartbeats 1000000 in
set_option maxRecDepth 100000 in
theorem c_W_hasDirect (l : Launch) (dC : Nat → ClassId) (dI : Nat → Nat → Nat) (ka : Nat → ClassId) (qa : Nat → Nat) (sz : Nat) (w : WS) (p1 p2 : Int32) (hw : WF w) (hp1 : vp_in p1 13) : Met l y_W_hasDirect w_W_hasDirect ({ frames := 1, cells := 0, slots := 0, locals := 22 } : Room) (ro_P dC dI (wW ka qa w) (tW ka) sz [.ref (qa 0), .int p1, .int p2]) (ro_Q sz (f_W_hasDirect w p1 p2)) 0 0 (fun z => sz ≤ z) := by
  refine Met.ofW (cc := b_W_hasDirect) (maxL := 4) (ret := (some .boolean)) (by decide) rfl ?_
  intro p e s m args below meth c s₁ B hml hv
  obtain ⟨rfl, hsz, hP, hK, hN⟩ := hv
  have hx := B.exec
  have hb := B.bytes
  have hr := B.returns
  have hts := tl_of (atoms_spec (ws := w_W_hasDirect) B.pre)
  have hown : s.vm.findClass R_W = some m.cls := findClass_of_methodNamed B.named
  have hlocks := B.notSynchronized
  subst hsz
  have hA : ∀ z : Nat, s.heap.size ≤ z → (fun z : Nat => s.heap.size ≤ z) z := fun _ h => h
  have hS : va_S (fun z : Nat => s.heap.size ≤ z) s.heap s.heap [] := va_S.rf
  have hl := lv_entry ([.ref (qa 0), .int p1, .int p2]) (n := 4) (Nat.le_of_ble_eq_true rfl)
  rw [lg_entry_eq]
  generalize (lg_sl ([.ref (qa 0), .int p1, .int p2]) ++ List.replicate (4 - (lg_sl ([.ref (qa 0), .int p1, .int p2])).length) Slot.unset).toArray = ls at hl ⊢
  have hl : lv_has ls 4 [(0, .ref (qa 0)), (1, .int p1), (2, .int p2)] := hl
  refine lv_iconst (v := (0 : Int32)) hx hb d_W_hasDirect_0 (by decide +kernel) ?_
  refine lv_istore_n (lv' := [(3, .int (0 : Int32)), (0, .ref (qa 0)), (1, .int p1), (2, .int p2)]) hx hb d_W_hasDirect_1 rfl hl (by decide) rfl (fun ls hl => ?_)
  have LOOP : ∀ (n k : Nat) (x3 : Int32) (H : Heap) (locs : List Loc) (ls : Array Slot), x3 = nI k → 14 ≤ k + n → k ≤ 13 → lr_W_hasDirect w p1 p2 n x3 = (f_W_hasDirect w p1 p2) → va_P (dC, dI) classes (wW ka qa w) H → va_S (fun z : Nat => s.heap.size ≤ z) s.heap H locs → lv_has ls 4 [(3, .int x3), (0, .ref (qa 0)), (1, .int p1), (2, .int p2)] → W p l e (headSpec w_W_hasDirect ({ frames := 1, cells := 0, slots := 0, locals := 22 } : Room)).room s m ([.ref (qa 0), .int p1, .int p2] : List Value).toArray below meth c H locs 0 0 (MQ below (ro_Q s.heap.size (f_W_hasDirect w p1 p2)) ([.ref (qa 0), .int p1, .int p2] : List Value).toArray s 0 0 (fun z => s.heap.size ≤ z)) (F0 m 2 ls []) := by
    intro n
    induction n with
    | zero =>
      intro k x3 H locs ls et h1 h2
      exfalso; omega
    | succ n ih =>
      intro k x3 H locs ls et h1 h2 hF hP hS hl
      refine lv_iload_n hx hb d_W_hasDirect_2 rfl (lv_at hl 0 rfl) ?_
      refine lv_aload_n hx hb d_W_hasDirect_3 rfl (lv_at hl 1 rfl) ?_
      refine va_get (D := (dC, dI)) (ci := 0) (v := .ref (qa 4)) (C := R_W) (T := F_W) (N := 10) hx hb hts i_W hown hK hP 0 rfl rfl 3 (by decide) (hts _ k_9) (fun _ h9 => h9) rfl d_W_hasDirect_4 ?_
      refine lv_iload_n hx hb d_W_hasDirect_7 rfl (lv_at hl 2 rfl) ?_
      have hi_1 : vp_in p1 13 := by first | with_reducible assumption | exact in_has hw (by with_reducible assumption) | exact in_cls hw (by with_reducible assumption) | exact in_ifc hw (by with_reducible assumption) | exact in_ext hw (by with_reducible assumption) | exact in_eq0 (by with_reducible assumption) | exact hfd (by with_reducible assumption) | exact in_rcv hw (by with_reducible assumption) (Or.inl (by with_reducible assumption)) | exact in_rcv hw (by with_reducible assumption) (Or.inr (by with_reducible assumption))
      refine va_iald (D := (dC, dI)) (f := (w.1 3)) hx hb hK hP 4 3 rfl rfl hi_1 d_W_hasDirect_8 ?_
      refine lv_icmp_ge (tgt := 30) hx hb d_W_hasDirect_9 (by decide) (fun c_2 => ?_) (fun c_2 => ?_)
      · have c_2 : ((w.1 3) p1.toNatClampNeg) ≤ x3 := c_2
        refine lv_iconst (v := (0 : Int32)) hx hb d_W_hasDirect_30 (by decide +kernel) ?_
        exact W.zret (v := (0 : Int32)) hx hb hr (by decide +kernel) (fun t ht hW => ⟨⟨(0 : Int32), (), rfl, by rw [← hF, lr_W_hasDirect_s, if_pos c_2], trivial⟩, hS.F ht⟩) hS.2.2 d_W_hasDirect_31
      · have c_2 : ¬ (((w.1 3) p1.toNatClampNeg) ≤ x3) := c_2
        refine lv_aload_n hx hb d_W_hasDirect_12 rfl (lv_at hl 1 rfl) ?_
        refine lv_iload_n hx hb d_W_hasDirect_13 rfl (lv_at hl 2 rfl) ?_
        refine lv_iload_n hx hb d_W_hasDirect_14 rfl (lv_at hl 0 rfl) ?_
        have hq_3 : vp_in ((p1 * (4 : Int32)) + x3) 52 := by first | with_reducible assumption | exact in_dc (by with_reducible assumption) et (ltDc hw et h2 (by with_reducible assumption) (by with_reducible assumption))
        refine va_calli (va_runV (As := [.int p1, .int x3]) (rest := []) ⟨hx, hb, hml, hown, hts⟩ (c_W_directAt l dC dI ka qa H.size w  p1 x3 hq_3) (cwV 2 hts k_g5 rfl rfl rfl (by decide +kernel) ⟨Nat.le_of_ble_eq_true rfl, Nat.le_of_ble_eq_true rfl⟩) ⟨fb_ro, va_recv hK hP (ci := 0) (q0 := 0) rfl rfl, fun U hU hW => ⟨rfl, by rw [hU], by rw [hU]; exact hP.sub (ws' := (wW ka qa w)) [0, 1, 2, 3, 4, 5, 6] rfl, va_K.moved hW.alike (hK.sub (tys' := (tW ka)) [0, 1, 2, 3, 4, 5] rfl), NX.warm hW hN⟩⟩ rfl rfl hl.1 rfl (lv_room (Nat.le_of_ble_eq_true rfl)) d_W_hasDirect_15 ⟨Nat.zero_le _, Nat.zero_le _⟩) hS (fun z h1 h2 => absurd h1 (Nat.not_lt.mpr h2)) (fun z h => hA z (Nat.le_trans hS.1 h)) (fun r u t H1 locs ht hvm hpo hB hz1 hk1 hS => ?_)
        subst hpo
        have hP := kp_P hP hk1
        generalize H1 = H at hP hS ⊢
        refine lv_iload_n hx hb d_W_hasDirect_18 rfl (lv_at hl 3 rfl) ?_
        refine lv_icmp_ne (tgt := 24) hx hb d_W_hasDirect_19 (by decide) (fun c_4 => ?_) (fun c_4 => ?_)
        · have c_4 : ¬ ((f_W_directAt w p1 x3) = p2) := c_4
          refine lv_iinc (v := (x3 + (1 : Int32))) (lv' := [(3, .int (x3 + (1 : Int32))), (0, .ref (qa 0)), (1, .int p1), (2, .int p2)]) hx hb d_W_hasDirect_24 hl (k := 0) rfl (by rw [of_p1]) (by decide) rfl (fun ls hl => ?_)
          refine lv_goto (tgt := 2) hx hb d_W_hasDirect_27 (by decide) ?_
          exact ih (k + 1) (x3 + (1 : Int32)) _ _ _ (by rw [et]; exact nI_1 k) (by omega) (by first | exact Nat.succ_le_succ (le12 et h2 (by with_reducible assumption)) | exact Nat.succ_le_succ (lt12 et h2 (by with_reducible assumption)) | exact Nat.succ_le_succ (leCnt hw et h2 (by with_reducible assumption)) | exact Nat.succ_le_succ (Nat.le_trans (Nat.le_of_lt (ltDc hw et h2 (by with_reducible assumption) (by with_reducible assumption))) (by decide)) | exact Nat.succ_le_succ (lePar et h2 (by with_reducible assumption) (by with_reducible assumption)) | exact Nat.succ_le_succ (ltPar et h2 (by with_reducible assumption) (by with_reducible assumption))) (by rw [← hF, lr_W_hasDirect_s, if_neg c_2, if_neg c_4]) hP hS (lv_sub hl [0, 1, 2, 3] rfl)
        · have c_4 : (f_W_directAt w p1 x3) = p2 := c_4
          refine lv_iconst (v := (1 : Int32)) hx hb d_W_hasDirect_22 (by decide +kernel) ?_
          exact W.zret (v := (1 : Int32)) hx hb hr (by decide +kernel) (fun t ht hW => ⟨⟨(1 : Int32), (), rfl, by rw [← hF, lr_W_hasDirect_s, if_neg c_2, if_pos c_4], trivial⟩, hS.F ht⟩) hS.2.2 d_W_hasDirect_23
  exact LOOP 14 0 (0 : Int32) _ _ _ (rfl) (by omega) (by omega) (rfl) hP hS (lv_sub hl [0, 1, 2, 3] rfl)
set_option maxHeartbeats 1000000 in
set_option maxRecDepth 100000 in
theorem c_W_hostsAnother (l : Launch) (dC : Nat → ClassId) (dI : Nat → Nat → Nat) (ka : Nat → ClassId) (qa : Nat → Nat) (sz : Nat) (w : WS) (p1 : Int32) (hw : WF w) : Met l y_W_hostsAnother w_W_hostsAnother ({ frames := 0, cells := 0, slots := 0, locals := 0 } : Room) (ro_P dC dI (wW ka qa w) (tW ka) sz [.ref (qa 0), .int p1]) (ro_Q sz (f_W_hostsAnother w p1)) 0 0 (fun z => sz ≤ z) := by
  refine Met.ofW (cc := b_W_hostsAnother) (maxL := 3) (ret := (some .boolean)) (by decide) rfl ?_
  intro p e s m args below meth c s₁ B hml hv
  obtain ⟨rfl, hsz, hP, hK, hN⟩ := hv
  have hx := B.exec
  have hb := B.bytes
  have hr := B.returns
  have hts := tl_of (atoms_spec (ws := w_W_hostsAnother) B.pre)
  have hown : s.vm.findClass R_W = some m.cls := findClass_of_methodNamed B.named
  have hlocks := B.notSynchronized
  subst hsz
  have hA : ∀ z : Nat, s.heap.size ≤ z → (fun z : Nat => s.heap.size ≤ z) z := fun _ h => h
  have hS : va_S (fun z : Nat => s.heap.size ≤ z) s.heap s.heap [] := va_S.rf
  have hl := lv_entry ([.ref (qa 0), .int p1]) (n := 3) (Nat.le_of_ble_eq_true rfl)
  rw [lg_entry_eq]
  generalize (lg_sl ([.ref (qa 0), .int p1]) ++ List.replicate (3 - (lg_sl ([.ref (qa 0), .int p1])).length) Slot.unset).toArray = ls at hl ⊢
  have hl : lv_has ls 3 [(0, .ref (qa 0)), (1, .int p1)] := hl
  refine lv_iconst (v := (1 : Int32)) hx hb d_W_hostsAnother_0 (by decide +kernel) ?_
  refine lv_istore_n (lv' := [(2, .int (1 : Int32)), (0, .ref (qa 0)), (1, .int p1)]) hx hb d_W_hostsAnother_1 rfl hl (by decide) rfl (fun ls hl => ?_)
  have LOOP : ∀ (n k : Nat) (x2 : Int32) (H : Heap) (locs : List Loc) (ls : Array Slot), x2 = nI k → 14 ≤ k + n → k ≤ 13 → lr_W_hostsAnother w p1 n x2 = (f_W_hostsAnother w p1) → va_P (dC, dI) classes (wW ka qa w) H → va_S (fun z : Nat => s.heap.size ≤ z) s.heap H locs → lv_has ls 3 [(2, .int x2), (0, .ref (qa 0)), (1, .int p1)] → W p l e (headSpec w_W_hostsAnother ({ frames := 0, cells := 0, slots := 0, locals := 0 } : Room)).room s m ([.ref (qa 0), .int p1] : List Value).toArray below meth c H locs 0 0 (MQ below (ro_Q s.heap.size (f_W_hostsAnother w p1)) ([.ref (qa 0), .int p1] : List Value).toArray s 0 0 (fun z => s.heap.size ≤ z)) (F0 m 2 ls []) := by
    intro n
    induction n with
    | zero =>
      intro k x2 H locs ls et h1 h2
      exfalso; omega
    | succ n ih =>
      intro k x2 H locs ls et h1 h2 hF hP hS hl
      refine lv_iload_n hx hb d_W_hostsAnother_2 rfl (lv_at hl 0 rfl) ?_
      refine lv_aload_n hx hb d_W_hostsAnother_3 rfl (lv_at hl 1 rfl) ?_
      refine va_get (D := (dC, dI)) (ci := 0) (v := .int (w.2 3)) (C := R_W) (T := F_W) (N := 10) hx hb hts i_W hown hK hP 0 rfl rfl 9 (by decide) (hts _ k_3) (fun _ h9 => h9) rfl d_W_hostsAnother_4 ?_
      refine lv_icmp_gt (tgt := 33) hx hb d_W_hostsAnother_7 (by decide) (fun c_1 => ?_) (fun c_1 => ?_)
      · have c_1 : (w.2 3) < x2 := c_1
        refine lv_iconst (v := (0 : Int32)) hx hb d_W_hostsAnother_33 (by decide +kernel) ?_
        exact W.zret (v := (0 : Int32)) hx hb hr (by decide +kernel) (fun t ht hW => ⟨⟨(0 : Int32), (), rfl, by rw [← hF, lr_W_hostsAnother_s, if_pos c_1], trivial⟩, hS.F ht⟩) hS.2.2 d_W_hostsAnother_34
      · have c_1 : ¬ ((w.2 3) < x2) := c_1
        refine lv_iload_n hx hb d_W_hostsAnother_10 rfl (lv_at hl 0 rfl) ?_
        refine lv_iload_n hx hb d_W_hostsAnother_11 rfl (lv_at hl 2 rfl) ?_
        refine lv_icmp_eq (tgt := 27) hx hb d_W_hostsAnother_12 (by decide) (fun c_2 => ?_) (fun c_2 => ?_)
        · have c_2 : x2 = p1 := c_2
          refine lv_iinc (v := (x2 + (1 : Int32))) (lv' := [(2, .int (x2 + (1 : Int32))), (0, .ref (qa 0)), (1, .int p1)]) hx hb d_W_hostsAnother_27 hl (k := 0) rfl (by rw [of_p1]) (by decide) rfl (fun ls hl => ?_)
          refine lv_goto (tgt := 2) hx hb d_W_hostsAnother_30 (by decide) ?_
          exact ih (k + 1) (x2 + (1 : Int32)) _ _ _ (by rw [et]; exact nI_1 k) (by omega) (by first | exact Nat.succ_le_succ (le12 et h2 (by with_reducible assumption)) | exact Nat.succ_le_succ (lt12 et h2 (by with_reducible assumption)) | exact Nat.succ_le_succ (leCnt hw et h2 (by with_reducible assumption)) | exact Nat.succ_le_succ (Nat.le_trans (Nat.le_of_lt (ltDc hw et h2 (by with_reducible assumption) (by with_reducible assumption))) (by decide)) | exact Nat.succ_le_succ (lePar et h2 (by with_reducible assumption) (by with_reducible assumption)) | exact Nat.succ_le_succ (ltPar et h2 (by with_reducible assumption) (by with_reducible assumption))) (by rw [← hF, lr_W_hostsAnother_s, if_neg c_1, if_pos c_2]) hP hS (lv_sub hl [0, 1, 2] rfl)
        · have c_2 : ¬ (x2 = p1) := c_2
          refine lv_aload_n hx hb d_W_hostsAnother_15 rfl (lv_at hl 1 rfl) ?_
          refine va_get (D := (dC, dI)) (ci := 0) (v := .ref (qa 3)) (C := R_W) (T := F_W) (N := 10) hx hb hts i_W hown hK hP 0 rfl rfl 2 (by decide) (hts _ k_13) (fun _ h9 => h9) rfl d_W_hostsAnother_16 ?_
          refine lv_iload_n hx hb d_W_hostsAnother_19 rfl (lv_at hl 0 rfl) ?_
          have hi_3 : vp_in x2 13 := by first | with_reducible assumption | exact in_et et (le12 et h2 (by with_reducible assumption)) | exact in_et et (lt12 et h2 (by with_reducible assumption)) | exact in_et et (leCnt hw et h2 (by with_reducible assumption)) | exact in_et et (lePar et h2 (by with_reducible assumption) (by with_reducible assumption)) | exact in_et et (ltPar et h2 (by with_reducible assumption) (by with_reducible assumption)) | exact in_et et h2
          refine va_iald (D := (dC, dI)) (f := (w.1 2)) hx hb hK hP 3 2 rfl rfl hi_3 d_W_hostsAnother_20 ?_
          refine lv_iload_n hx hb d_W_hostsAnother_21 rfl (lv_at hl 2 rfl) ?_
          refine lv_icmp_ne (tgt := 27) hx hb d_W_hostsAnother_22 (by decide) (fun c_4 => ?_) (fun c_4 => ?_)
          · have c_4 : ¬ (((w.1 2) x2.toNatClampNeg) = p1) := c_4
            refine lv_iinc (v := (x2 + (1 : Int32))) (lv' := [(2, .int (x2 + (1 : Int32))), (0, .ref (qa 0)), (1, .int p1)]) hx hb d_W_hostsAnother_27 hl (k := 0) rfl (by rw [of_p1]) (by decide) rfl (fun ls hl => ?_)
            refine lv_goto (tgt := 2) hx hb d_W_hostsAnother_30 (by decide) ?_
            exact ih (k + 1) (x2 + (1 : Int32)) _ _ _ (by rw [et]; exact nI_1 k) (by omega) (by first | exact Nat.succ_le_succ (le12 et h2 (by with_reducible assumption)) | exact Nat.succ_le_succ (lt12 et h2 (by with_reducible assumption)) | exact Nat.succ_le_succ (leCnt hw et h2 (by with_reducible assumption)) | exact Nat.succ_le_succ (Nat.le_trans (Nat.le_of_lt (ltDc hw et h2 (by with_reducible assumption) (by with_reducible assumption))) (by decide)) | exact Nat.succ_le_succ (lePar et h2 (by with_reducible assumption) (by with_reducible assumption)) | exact Nat.succ_le_succ (ltPar et h2 (by with_reducible assumption) (by with_reducible assumption))) (by rw [← hF, lr_W_hostsAnother_s, if_neg c_1, if_neg c_2, if_neg c_4]) hP hS (lv_sub hl [0, 1, 2] rfl)
          · have c_4 : ((w.1 2) x2.toNatClampNeg) = p1 := c_4
            refine lv_iconst (v := (1 : Int32)) hx hb d_W_hostsAnother_25 (by decide +kernel) ?_
            exact W.zret (v := (1 : Int32)) hx hb hr (by decide +kernel) (fun t ht hW => ⟨⟨(1 : Int32), (), rfl, by rw [← hF, lr_W_hostsAnother_s, if_neg c_1, if_neg c_2, if_pos c_4], trivial⟩, hS.F ht⟩) hS.2.2 d_W_hostsAnother_26
  exact LOOP 14 1 (1 : Int32) _ _ _ (rfl) (by omega) (by omega) (rfl) hP hS (lv_sub hl [0, 1, 2] rfl)
set_option maxHeartbeats 1000000 in
set_option maxRecDepth 100000 in
theorem c_W_kindsOf (l : Launch) (dC : Nat → ClassId) (dI : Nat → Nat → Nat) (ka : Nat → ClassId) (qa : Nat → Nat) (sz : Nat) (w : WS) (p1 : Int32) (hw : WF w) (hp1 : vp_in p1 13) : Met l y_W_kindsOf w_W_kindsOf ({ frames := 1, cells := 0, slots := 0, locals := 21 } : Room) (ro_P dC dI (wW ka qa w) (tW ka) sz [.ref (qa 0), .int p1]) (ro_Q sz (f_W_kindsOf w p1)) 0 0 (fun z => sz ≤ z) := by
  refine Met.ofW (cc := b_W_kindsOf) (maxL := 4) (ret := (some .int)) (by decide) rfl ?_
  intro p e s m args below meth c s₁ B hml hv
  obtain ⟨rfl, hsz, hP, hK, hN⟩ := hv
  have hx := B.exec
  have hb := B.bytes
  have hr := B.returns
  have hts := tl_of (atoms_spec (ws := w_W_kindsOf) B.pre)
  have hown : s.vm.findClass R_W = some m.cls := findClass_of_methodNamed B.named
  have hlocks := B.notSynchronized
  subst hsz
  have hA : ∀ z : Nat, s.heap.size ≤ z → (fun z : Nat => s.heap.size ≤ z) z := fun _ h => h
  have hS : va_S (fun z : Nat => s.heap.size ≤ z) s.heap s.heap [] := va_S.rf
  have hl := lv_entry ([.ref (qa 0), .int p1]) (n := 4) (Nat.le_of_ble_eq_true rfl)
  rw [lg_entry_eq]
  generalize (lg_sl ([.ref (qa 0), .int p1]) ++ List.replicate (4 - (lg_sl ([.ref (qa 0), .int p1])).length) Slot.unset).toArray = ls at hl ⊢
  have hl : lv_has ls 4 [(0, .ref (qa 0)), (1, .int p1)] := hl
  refine lv_iconst (v := (0 : Int32)) hx hb d_W_kindsOf_0 (by decide +kernel) ?_
  refine lv_istore_n (lv' := [(2, .int (0 : Int32)), (0, .ref (qa 0)), (1, .int p1)]) hx hb d_W_kindsOf_1 rfl hl (by decide) rfl (fun ls hl => ?_)
  refine lv_iload_n hx hb d_W_kindsOf_2 rfl (lv_at hl 2 rfl) ?_
  refine lv_istore_n (lv' := [(3, .int p1), (2, .int (0 : Int32)), (0, .ref (qa 0)), (1, .int p1)]) hx hb d_W_kindsOf_3 rfl hl (by decide) rfl (fun ls hl => ?_)
  have LOOP : ∀ (n k : Nat) (x2 : Int32) (x3 : Int32) (H : Heap) (locs : List Loc) (ls : Array Slot), x3 = nI k → 14 ≤ k + n → k ≤ 13 → lr_W_kindsOf w p1 n x2 x3 = (f_W_kindsOf w p1) → va_P (dC, dI) classes (wW ka qa w) H → va_S (fun z : Nat => s.heap.size ≤ z) s.heap H locs → lv_has ls 4 [(2, .int x2), (3, .int x3), (0, .ref (qa 0)), (1, .int p1)] → W p l e (headSpec w_W_kindsOf ({ frames := 1, cells := 0, slots := 0, locals := 21 } : Room)).room s m ([.ref (qa 0), .int p1] : List Value).toArray below meth c H locs 0 0 (MQ below (ro_Q s.heap.size (f_W_kindsOf w p1)) ([.ref (qa 0), .int p1] : List Value).toArray s 0 0 (fun z => s.heap.size ≤ z)) (F0 m 4 ls []) := by
    intro n
    induction n with
    | zero =>
      intro k x2 x3 H locs ls et h1 h2
      exfalso; omega
    | succ n ih =>
      intro k x2 x3 H locs ls et h1 h2 hF hP hS hl
      refine lv_iload_n hx hb d_W_kindsOf_4 rfl (lv_at hl 1 rfl) ?_
      refine lv_aload_n hx hb d_W_kindsOf_5 rfl (lv_at hl 2 rfl) ?_
      refine va_get (D := (dC, dI)) (ci := 0) (v := .int (w.2 3)) (C := R_W) (T := F_W) (N := 10) hx hb hts i_W hown hK hP 0 rfl rfl 9 (by decide) (hts _ k_3) (fun _ h9 => h9) rfl d_W_kindsOf_6 ?_
      refine lv_icmp_gt (tgt := 37) hx hb d_W_kindsOf_9 (by decide) (fun c_1 => ?_) (fun c_1 => ?_)
      · have c_1 : (w.2 3) < x3 := c_1
        refine lv_iload_n hx hb d_W_kindsOf_37 rfl (lv_at hl 0 rfl) ?_
        exact W.iret (v := x2) hx hb hr (fun t ht hW => ⟨⟨x2, (), rfl, by rw [← hF, lr_W_kindsOf_s, if_pos c_1], trivial⟩, hS.F ht⟩) hS.2.2 d_W_kindsOf_38
      · have c_1 : ¬ ((w.2 3) < x3) := c_1
        refine lv_aload_n hx hb d_W_kindsOf_12 rfl (lv_at hl 2 rfl) ?_
        refine va_get (D := (dC, dI)) (ci := 0) (v := .ref (qa 6)) (C := R_W) (T := F_W) (N := 10) hx hb hts i_W hown hK hP 0 rfl rfl 5 (by decide) (hts _ k_14) (fun _ h9 => h9) rfl d_W_kindsOf_13 ?_
        refine lv_iload_n hx hb d_W_kindsOf_16 rfl (lv_at hl 1 rfl) ?_
        have hi_2 : vp_in x3 13 := by first | with_reducible assumption | exact in_et et (le12 et h2 (by with_reducible assumption)) | exact in_et et (lt12 et h2 (by with_reducible assumption)) | exact in_et et (leCnt hw et h2 (by with_reducible assumption)) | exact in_et et (lePar et h2 (by with_reducible assumption) (by with_reducible assumption)) | exact in_et et (ltPar et h2 (by with_reducible assumption) (by with_reducible assumption)) | exact in_et et h2
        refine va_iald (D := (dC, dI)) (f := (w.1 5)) hx hb hK hP 6 5 rfl rfl hi_2 d_W_kindsOf_17 ?_
        refine lv_iload_n hx hb d_W_kindsOf_18 rfl (lv_at hl 3 rfl) ?_
        refine va_calli (va_runSN (As := [.int ((w.1 5) x3.toNatClampNeg), .int p1]) (rest := []) ⟨hx, hb, hml, hown, hts⟩ (c_O_holds l dC dI  H.size   ((w.1 5) x3.toNatClampNeg) p1) ⟨va_cnB 2 hts k_g2 rfl rfl rfl (hN _ k_5 rfl) (hts _ k_6) (by decide +kernel) ⟨Nat.le_of_ble_eq_true rfl, Nat.le_of_ble_eq_true rfl⟩, hts _ k_7, trivial⟩ ⟨fb_ro, fun U hU hW => ⟨rfl, by rw [hU], by rw [hU]; exact hP.sub (ws' := ([] : va_W)) [] rfl, va_K.moved hW.alike (hK.sub (tys' := []) [] rfl), NX.warm hW hN⟩⟩ rfl rfl hl.1 rfl (lv_room (Nat.le_of_ble_eq_true rfl)) d_W_kindsOf_19 ⟨Nat.zero_le _, Nat.zero_le _⟩) hS (fun z h1 h2 => absurd h1 (Nat.not_lt.mpr h2)) (fun z h => hA z (Nat.le_trans hS.1 h)) (fun r u t H1 locs ht hvm hpo hB hz1 hk1 hS => ?_)
        subst hpo
        have hP := kp_P hP hk1
        generalize H1 = H at hP hS ⊢
        refine lv_if_eq (tgt := 31) hx hb d_W_kindsOf_22 (by decide) (fun c_3 => ?_) (fun c_3 => ?_)
        · have c_3 : (f_O_holds ((w.1 5) x3.toNatClampNeg) p1) = (0 : Int32) := c_3
          refine lv_iinc (v := (x3 + (1 : Int32))) (lv' := [(3, .int (x3 + (1 : Int32))), (2, .int x2), (0, .ref (qa 0)), (1, .int p1)]) hx hb d_W_kindsOf_31 hl (k := 1) rfl (by rw [of_p1]) (by decide) rfl (fun ls hl => ?_)
          refine lv_goto (tgt := 4) hx hb d_W_kindsOf_34 (by decide) ?_
          exact ih (k + 1) x2 (x3 + (1 : Int32)) _ _ _ (by rw [et]; exact nI_1 k) (by omega) (by first | exact Nat.succ_le_succ (le12 et h2 (by with_reducible assumption)) | exact Nat.succ_le_succ (lt12 et h2 (by with_reducible assumption)) | exact Nat.succ_le_succ (leCnt hw et h2 (by with_reducible assumption)) | exact Nat.succ_le_succ (Nat.le_trans (Nat.le_of_lt (ltDc hw et h2 (by with_reducible assumption) (by with_reducible assumption))) (by decide)) | exact Nat.succ_le_succ (lePar et h2 (by with_reducible assumption) (by with_reducible assumption)) | exact Nat.succ_le_succ (ltPar et h2 (by with_reducible assumption) (by with_reducible assumption))) (by rw [← hF, lr_W_kindsOf_s, if_neg c_1, if_pos c_3]) hP hS (lv_sub hl [1, 0, 2, 3] rfl)
        · have c_3 : ¬ ((f_O_holds ((w.1 5) x3.toNatClampNeg) p1) = (0 : Int32)) := c_3
          refine lv_iload_n hx hb d_W_kindsOf_25 rfl (lv_at hl 0 rfl) ?_
          refine lv_iconst (v := (1 : Int32)) hx hb d_W_kindsOf_26 (by decide +kernel) ?_
          refine lv_iload_n hx hb d_W_kindsOf_27 rfl (lv_at hl 1 rfl) ?_
          refine lv_ishl hx hb d_W_kindsOf_28 ?_
          refine lv_ior hx hb d_W_kindsOf_29 ?_
          refine lv_istore_n (lv' := [(2, .int (x2 ||| ((1 : Int32) <<< (x3 &&& (31 : Int32))))), (3, .int x3), (0, .ref (qa 0)), (1, .int p1)]) hx hb d_W_kindsOf_30 rfl hl (by decide) rfl (fun ls hl => ?_)
          refine lv_iinc (v := (x3 + (1 : Int32))) (lv' := [(3, .int (x3 + (1 : Int32))), (2, .int (x2 ||| ((1 : Int32) <<< (x3 &&& (31 : Int32))))), (0, .ref (qa 0)), (1, .int p1)]) hx hb d_W_kindsOf_31 hl (k := 1) rfl (by rw [of_p1]) (by decide) rfl (fun ls hl => ?_)
          refine lv_goto (tgt := 4) hx hb d_W_kindsOf_34 (by decide) ?_
          exact ih (k + 1) (x2 ||| ((1 : Int32) <<< (x3 &&& (31 : Int32)))) (x3 + (1 : Int32)) _ _ _ (by rw [et]; exact nI_1 k) (by omega) (by first | exact Nat.succ_le_succ (le12 et h2 (by with_reducible assumption)) | exact Nat.succ_le_succ (lt12 et h2 (by with_reducible assumption)) | exact Nat.succ_le_succ (leCnt hw et h2 (by with_reducible assumption)) | exact Nat.succ_le_succ (Nat.le_trans (Nat.le_of_lt (ltDc hw et h2 (by with_reducible assumption) (by with_reducible assumption))) (by decide)) | exact Nat.succ_le_succ (lePar et h2 (by with_reducible assumption) (by with_reducible assumption)) | exact Nat.succ_le_succ (ltPar et h2 (by with_reducible assumption) (by with_reducible assumption))) (by rw [← hF, lr_W_kindsOf_s, if_neg c_1, if_neg c_3]) hP hS (lv_sub hl [1, 0, 2, 3] rfl)
  exact LOOP 14 p1.toNatClampNeg (0 : Int32) p1 _ _ _ (in_k hp1) (by omega) (Nat.le_of_lt (in_lt hp1)) (rfl) hP hS (lv_sub hl [1, 0, 2, 3] rfl)
set_option maxHeartbeats 1000000 in
set_option maxRecDepth 100000 in
theorem c_W_nextToSearch (l : Launch) (dC : Nat → ClassId) (dI : Nat → Nat → Nat) (ka : Nat → ClassId) (qa : Nat → Nat) (sz : Nat) (w : WS) (p1 p2 : Int32) (hw : WF w) (hp1 : vp_in p1 13) : Met l y_W_nextToSearch w_W_nextToSearch ({ frames := 1, cells := 0, slots := 0, locals := 22 } : Room) (ro_P dC dI (wW ka qa w) (tW ka) sz [.ref (qa 0), .int p1, .int p2]) (ro_Q sz (f_W_nextToSearch w p1 p2)) 0 0 (fun z => sz ≤ z) := by
  refine Met.ofW (cc := b_W_nextToSearch) (maxL := 5) (ret := (some .int)) (by decide) rfl ?_
  intro p e s m args below meth c s₁ B hml hv
  obtain ⟨rfl, hsz, hP, hK, hN⟩ := hv
  have hx := B.exec
  have hb := B.bytes
  have hr := B.returns
  have hts := tl_of (atoms_spec (ws := w_W_nextToSearch) B.pre)
  have hown : s.vm.findClass R_W = some m.cls := findClass_of_methodNamed B.named
  have hlocks := B.notSynchronized
  subst hsz
  have hA : ∀ z : Nat, s.heap.size ≤ z → (fun z : Nat => s.heap.size ≤ z) z := fun _ h => h
  have hS : va_S (fun z : Nat => s.heap.size ≤ z) s.heap s.heap [] := va_S.rf
  have hl := lv_entry ([.ref (qa 0), .int p1, .int p2]) (n := 5) (Nat.le_of_ble_eq_true rfl)
  rw [lg_entry_eq]
  generalize (lg_sl ([.ref (qa 0), .int p1, .int p2]) ++ List.replicate (5 - (lg_sl ([.ref (qa 0), .int p1, .int p2])).length) Slot.unset).toArray = ls at hl ⊢
  have hl : lv_has ls 5 [(0, .ref (qa 0)), (1, .int p1), (2, .int p2)] := hl
  refine lv_iconst (v := (0 : Int32)) hx hb d_W_nextToSearch_0 (by decide +kernel) ?_
  refine lv_istore_n (lv' := [(3, .int (0 : Int32)), (0, .ref (qa 0)), (1, .int p1), (2, .int p2)]) hx hb d_W_nextToSearch_1 rfl hl (by decide) rfl (fun ls hl => ?_)
  have LOOP : ∀ (n k : Nat) (x3 : Int32) (H : Heap) (locs : List Loc) (ls : Array Slot), x3 = nI k → 14 ≤ k + n → k ≤ 13 → lr_W_nextToSearch w p1 p2 n x3 = (f_W_nextToSearch w p1 p2) → va_P (dC, dI) classes (wW ka qa w) H → va_S (fun z : Nat => s.heap.size ≤ z) s.heap H locs → lv_has ls 5 [(3, .int x3), (0, .ref (qa 0)), (1, .int p1), (2, .int p2)] → W p l e (headSpec w_W_nextToSearch ({ frames := 1, cells := 0, slots := 0, locals := 22 } : Room)).room s m ([.ref (qa 0), .int p1, .int p2] : List Value).toArray below meth c H locs 0 0 (MQ below (ro_Q s.heap.size (f_W_nextToSearch w p1 p2)) ([.ref (qa 0), .int p1, .int p2] : List Value).toArray s 0 0 (fun z => s.heap.size ≤ z)) (F0 m 2 ls []) := by
    intro n
    induction n with
    | zero =>
      intro k x3 H locs ls et h1 h2
      exfalso; omega
    | succ n ih =>
      intro k x3 H locs ls et h1 h2 hF hP hS hl
      refine lv_iload_n hx hb d_W_nextToSearch_2 rfl (lv_at hl 0 rfl) ?_
      refine lv_aload_n hx hb d_W_nextToSearch_3 rfl (lv_at hl 1 rfl) ?_
      refine va_get (D := (dC, dI)) (ci := 0) (v := .ref (qa 4)) (C := R_W) (T := F_W) (N := 10) hx hb hts i_W hown hK hP 0 rfl rfl 3 (by decide) (hts _ k_9) (fun _ h9 => h9) rfl d_W_nextToSearch_4 ?_
      refine lv_iload_n hx hb d_W_nextToSearch_7 rfl (lv_at hl 2 rfl) ?_
      have hi_1 : vp_in p1 13 := by first | with_reducible assumption | exact in_has hw (by with_reducible assumption) | exact in_cls hw (by with_reducible assumption) | exact in_ifc hw (by with_reducible assumption) | exact in_ext hw (by with_reducible assumption) | exact in_eq0 (by with_reducible assumption) | exact hfd (by with_reducible assumption) | exact in_rcv hw (by with_reducible assumption) (Or.inl (by with_reducible assumption)) | exact in_rcv hw (by with_reducible assumption) (Or.inr (by with_reducible assumption))
      refine va_iald (D := (dC, dI)) (f := (w.1 3)) hx hb hK hP 4 3 rfl rfl hi_1 d_W_nextToSearch_8 ?_
      refine lv_icmp_ge (tgt := 41) hx hb d_W_nextToSearch_9 (by decide) (fun c_2 => ?_) (fun c_2 => ?_)
      · have c_2 : ((w.1 3) p1.toNatClampNeg) ≤ x3 := c_2
        refine lv_aload_n hx hb d_W_nextToSearch_41 rfl (lv_at hl 1 rfl) ?_
        refine va_get (D := (dC, dI)) (ci := 0) (v := .ref (qa 1)) (C := R_W) (T := F_W) (N := 10) hx hb hts i_W hown hK hP 0 rfl rfl 0 (by decide) (hts _ k_11) (fun _ h9 => h9) rfl d_W_nextToSearch_42 ?_
        refine lv_iload_n hx hb d_W_nextToSearch_45 rfl (lv_at hl 2 rfl) ?_
        have hi_3 : vp_in p1 13 := by assumption
        refine va_iald (D := (dC, dI)) (f := (w.1 0)) hx hb hK hP 1 0 rfl rfl hi_3 d_W_nextToSearch_46 ?_
        exact W.iret (v := ((w.1 0) p1.toNatClampNeg)) hx hb hr (fun t ht hW => ⟨⟨((w.1 0) p1.toNatClampNeg), (), rfl, by rw [← hF, lr_W_nextToSearch_s, if_pos c_2], trivial⟩, hS.F ht⟩) hS.2.2 d_W_nextToSearch_47
      · have c_2 : ¬ (((w.1 3) p1.toNatClampNeg) ≤ x3) := c_2
        refine lv_aload_n hx hb d_W_nextToSearch_12 rfl (lv_at hl 1 rfl) ?_
        refine lv_iload_n hx hb d_W_nextToSearch_13 rfl (lv_at hl 2 rfl) ?_
        refine lv_iload_n hx hb d_W_nextToSearch_14 rfl (lv_at hl 0 rfl) ?_
        have hq_4 : vp_in ((p1 * (4 : Int32)) + x3) 52 := by first | with_reducible assumption | exact in_dc (by with_reducible assumption) et (ltDc hw et h2 (by with_reducible assumption) (by with_reducible assumption))
        refine va_calli (va_runV (As := [.int p1, .int x3]) (rest := []) ⟨hx, hb, hml, hown, hts⟩ (c_W_directAt l dC dI ka qa H.size w  p1 x3 hq_4) (cwV 2 hts k_g5 rfl rfl rfl (by decide +kernel) ⟨Nat.le_of_ble_eq_true rfl, Nat.le_of_ble_eq_true rfl⟩) ⟨fb_ro, va_recv hK hP (ci := 0) (q0 := 0) rfl rfl, fun U hU hW => ⟨rfl, by rw [hU], by rw [hU]; exact hP.sub (ws' := (wW ka qa w)) [0, 1, 2, 3, 4, 5, 6] rfl, va_K.moved hW.alike (hK.sub (tys' := (tW ka)) [0, 1, 2, 3, 4, 5] rfl), NX.warm hW hN⟩⟩ rfl rfl hl.1 rfl (lv_room (Nat.le_of_ble_eq_true rfl)) d_W_nextToSearch_15 ⟨Nat.zero_le _, Nat.zero_le _⟩) hS (fun z h1 h2 => absurd h1 (Nat.not_lt.mpr h2)) (fun z h => hA z (Nat.le_trans hS.1 h)) (fun r u t H1 locs ht hvm hpo hB hz1 hk1 hS => ?_)
        subst hpo
        have hP := kp_P hP hk1
        generalize H1 = H at hP hS ⊢
        refine lv_istore (lv' := [(4, .int (f_W_directAt w p1 x3)), (3, .int x3), (0, .ref (qa 0)), (1, .int p1), (2, .int p2)]) hx hb d_W_nextToSearch_18 hl (by decide) rfl (fun ls hl => ?_)
        refine lv_aload_n hx hb d_W_nextToSearch_20 rfl (lv_at hl 2 rfl) ?_
        refine va_get (D := (dC, dI)) (ci := 0) (v := .ref (qa 6)) (C := R_W) (T := F_W) (N := 10) hx hb hts i_W hown hK hP 0 rfl rfl 5 (by decide) (hts _ k_14) (fun _ h9 => h9) rfl d_W_nextToSearch_21 ?_
        refine lv_iload hx hb d_W_nextToSearch_24 (lv_at hl 0 rfl) ?_
        have hi_5 : vp_in (f_W_directAt w p1 x3) 13 := by exact wf_dir hw (by assumption)
        refine va_iald (D := (dC, dI)) (f := (w.1 5)) hx hb hK hP 6 5 rfl rfl hi_5 d_W_nextToSearch_26 ?_
        refine lv_iload_n hx hb d_W_nextToSearch_27 rfl (lv_at hl 4 rfl) ?_
        refine lv_iand hx hb d_W_nextToSearch_28 ?_
        refine lv_if_eq (tgt := 35) hx hb d_W_nextToSearch_29 (by decide) (fun c_6 => ?_) (fun c_6 => ?_)
        · have c_6 : (((w.1 5) (f_W_directAt w p1 x3).toNatClampNeg) &&& p2) = (0 : Int32) := c_6
          refine lv_iinc (v := (x3 + (1 : Int32))) (lv' := [(3, .int (x3 + (1 : Int32))), (4, .int (f_W_directAt w p1 x3)), (0, .ref (qa 0)), (1, .int p1), (2, .int p2)]) hx hb d_W_nextToSearch_35 hl (k := 1) rfl (by rw [of_p1]) (by decide) rfl (fun ls hl => ?_)
          refine lv_goto (tgt := 2) hx hb d_W_nextToSearch_38 (by decide) ?_
          exact ih (k + 1) (x3 + (1 : Int32)) _ _ _ (by rw [et]; exact nI_1 k) (by omega) (by first | exact Nat.succ_le_succ (le12 et h2 (by with_reducible assumption)) | exact Nat.succ_le_succ (lt12 et h2 (by with_reducible assumption)) | exact Nat.succ_le_succ (leCnt hw et h2 (by with_reducible assumption)) | exact Nat.succ_le_succ (Nat.le_trans (Nat.le_of_lt (ltDc hw et h2 (by with_reducible assumption) (by with_reducible assumption))) (by decide)) | exact Nat.succ_le_succ (lePar et h2 (by with_reducible assumption) (by with_reducible assumption)) | exact Nat.succ_le_succ (ltPar et h2 (by with_reducible assumption) (by with_reducible assumption))) (by rw [← hF, lr_W_nextToSearch_s, if_neg c_2, if_pos c_6]) hP hS (lv_sub hl [0, 2, 3, 4] rfl)
        · have c_6 : ¬ ((((w.1 5) (f_W_directAt w p1 x3).toNatClampNeg) &&& p2) = (0 : Int32)) := c_6
          refine lv_iload hx hb d_W_nextToSearch_32 (lv_at hl 0 rfl) ?_
          exact W.iret (v := (f_W_directAt w p1 x3)) hx hb hr (fun t ht hW => ⟨⟨(f_W_directAt w p1 x3), (), rfl, by rw [← hF, lr_W_nextToSearch_s, if_neg c_2, if_neg c_6], trivial⟩, hS.F ht⟩) hS.2.2 d_W_nextToSearch_34
  exact LOOP 14 0 (0 : Int32) _ _ _ (rfl) (by omega) (by omega) (rfl) hP hS (lv_sub hl [0, 1, 2, 3] rfl)
set_option maxHeartbeats 1000000 in
set_option maxRecDepth 100000 in
theorem c_W_search (l : Launch) (dC : Nat → ClassId) (dI : Nat → Nat → Nat) (ka : Nat → ClassId) (qa : Nat → Nat) (sz : Nat) (w : WS) (p1 p2 : Int32) (hw : WF w) (hp1 : vp_in p1 13) : Met l y_W_search w_W_search ({ frames := 2, cells := 0, slots := 0, locals := 46 } : Room) (ro_P dC dI (wW ka qa w) (tW ka) sz [.ref (qa 0), .int p1, .int p2]) (ro_Q sz (f_W_search w p1 p2)) 0 0 (fun z => sz ≤ z) := by
  refine Met.ofW (cc := b_W_search) (maxL := 5) (ret := (some .int)) (by decide) rfl ?_
  intro p e s m args below meth c s₁ B hml hv
  obtain ⟨rfl, hsz, hP, hK, hN⟩ := hv
  have hx := B.exec
  have hb := B.bytes
  have hr := B.returns
  have hts := tl_of (atoms_spec (ws := w_W_search) B.pre)
  have hown : s.vm.findClass R_W = some m.cls := findClass_of_methodNamed B.named
  have hlocks := B.notSynchronized
  subst hsz
  have hA : ∀ z : Nat, s.heap.size ≤ z → (fun z : Nat => s.heap.size ≤ z) z := fun _ h => h
  have hS : va_S (fun z : Nat => s.heap.size ≤ z) s.heap s.heap [] := va_S.rf
  have hl := lv_entry ([.ref (qa 0), .int p1, .int p2]) (n := 5) (Nat.le_of_ble_eq_true rfl)
  rw [lg_entry_eq]
  generalize (lg_sl ([.ref (qa 0), .int p1, .int p2]) ++ List.replicate (5 - (lg_sl ([.ref (qa 0), .int p1, .int p2])).length) Slot.unset).toArray = ls at hl ⊢
  have hl : lv_has ls 5 [(0, .ref (qa 0)), (1, .int p1), (2, .int p2)] := hl
  refine lv_iload_n hx hb d_W_search_0 rfl (lv_at hl 1 rfl) ?_
  refine lv_istore_n (lv' := [(3, .int p1), (0, .ref (qa 0)), (1, .int p1), (2, .int p2)]) hx hb d_W_search_1 rfl hl (by decide) rfl (fun ls hl => ?_)
  refine lv_iconst (v := (0 : Int32)) hx hb d_W_search_2 (by decide +kernel) ?_
  refine lv_istore (lv' := [(4, .int (0 : Int32)), (3, .int p1), (0, .ref (qa 0)), (1, .int p1), (2, .int p2)]) hx hb d_W_search_3 hl (by decide) rfl (fun ls hl => ?_)
  have LOOP : ∀ (n k : Nat) (x3 : Int32) (x4 : Int32) (H : Heap) (locs : List Loc) (ls : Array Slot), x4 = nI k → 14 ≤ k + n → k ≤ 13 → vp_in x3 13 → lr_W_search w p1 p2 n x3 x4 = (f_W_search w p1 p2) → va_P (dC, dI) classes (wW ka qa w) H → va_S (fun z : Nat => s.heap.size ≤ z) s.heap H locs → lv_has ls 5 [(3, .int x3), (4, .int x4), (0, .ref (qa 0)), (1, .int p1), (2, .int p2)] → W p l e (headSpec w_W_search ({ frames := 2, cells := 0, slots := 0, locals := 46 } : Room)).room s m ([.ref (qa 0), .int p1, .int p2] : List Value).toArray below meth c H locs 0 0 (MQ below (ro_Q s.heap.size (f_W_search w p1 p2)) ([.ref (qa 0), .int p1, .int p2] : List Value).toArray s 0 0 (fun z => s.heap.size ≤ z)) (F0 m 5 ls []) := by
    intro n
    induction n with
    | zero =>
      intro k x3 x4 H locs ls et h1 h2 ha
      exfalso; omega
    | succ n ih =>
      intro k x3 x4 H locs ls et h1 h2 ha hF hP hS hl
      refine lv_iload hx hb d_W_search_5 (lv_at hl 1 rfl) ?_
      refine lv_bipush (v := (12 : Int32)) hx hb d_W_search_7 (by decide +kernel) ?_
      refine lv_icmp_ge (tgt := 46) hx hb d_W_search_9 (by decide) (fun c_1 => ?_) (fun c_1 => ?_)
      · have c_1 : (12 : Int32) ≤ x4 := c_1
        refine lv_iconst (v := (0 : Int32)) hx hb d_W_search_46 (by decide +kernel) ?_
        exact W.iret (v := (0 : Int32)) hx hb hr (fun t ht hW => ⟨⟨(0 : Int32), (), rfl, by rw [← hF, lr_W_search_s, if_pos c_1], trivial⟩, hS.F ht⟩) hS.2.2 d_W_search_47
      · have c_1 : ¬ ((12 : Int32) ≤ x4) := c_1
        refine lv_aload_n hx hb d_W_search_12 rfl (lv_at hl 2 rfl) ?_
        refine va_get (D := (dC, dI)) (ci := 0) (v := .ref (qa 6)) (C := R_W) (T := F_W) (N := 10) hx hb hts i_W hown hK hP 0 rfl rfl 5 (by decide) (hts _ k_14) (fun _ h9 => h9) rfl d_W_search_13 ?_
        refine lv_iload_n hx hb d_W_search_16 rfl (lv_at hl 0 rfl) ?_
        have hi_2 : vp_in x3 13 := by exact ha
        refine va_iald (D := (dC, dI)) (f := (w.1 5)) hx hb hK hP 6 5 rfl rfl hi_2 d_W_search_17 ?_
        refine lv_iload_n hx hb d_W_search_18 rfl (lv_at hl 4 rfl) ?_
        refine lv_iand hx hb d_W_search_19 ?_
        refine lv_if_eq (tgt := 46) hx hb d_W_search_20 (by decide) (fun c_3 => ?_) (fun c_3 => ?_)
        · have c_3 : (((w.1 5) x3.toNatClampNeg) &&& p2) = (0 : Int32) := c_3
          refine lv_iconst (v := (0 : Int32)) hx hb d_W_search_46 (by decide +kernel) ?_
          exact W.iret (v := (0 : Int32)) hx hb hr (fun t ht hW => ⟨⟨(0 : Int32), (), rfl, by rw [← hF, lr_W_search_s, if_neg c_1, if_pos c_3], trivial⟩, hS.F ht⟩) hS.2.2 d_W_search_47
        · have c_3 : ¬ ((((w.1 5) x3.toNatClampNeg) &&& p2) = (0 : Int32)) := c_3
          refine lv_iload_n hx hb d_W_search_23 rfl (lv_at hl 4 rfl) ?_
          refine lv_iload_n hx hb d_W_search_24 rfl (lv_at hl 0 rfl) ?_
          refine va_calli (va_runSN (As := [.int p2, .int x3]) (rest := []) ⟨hx, hb, hml, hown, hts⟩ (c_O_holds l dC dI  H.size   p2 x3) ⟨va_cnB 2 hts k_g2 rfl rfl rfl (hN _ k_5 rfl) (hts _ k_6) (by decide +kernel) ⟨Nat.le_of_ble_eq_true rfl, Nat.le_of_ble_eq_true rfl⟩, hts _ k_7, trivial⟩ ⟨fb_ro, fun U hU hW => ⟨rfl, by rw [hU], by rw [hU]; exact hP.sub (ws' := ([] : va_W)) [] rfl, va_K.moved hW.alike (hK.sub (tys' := []) [] rfl), NX.warm hW hN⟩⟩ rfl rfl hl.1 rfl (lv_room (Nat.le_of_ble_eq_true rfl)) d_W_search_25 ⟨Nat.zero_le _, Nat.zero_le _⟩) hS (fun z h1 h2 => absurd h1 (Nat.not_lt.mpr h2)) (fun z h => hA z (Nat.le_trans hS.1 h)) (fun r u t H1 locs ht hvm hpo hB hz1 hk1 hS => ?_)
          subst hpo
          have hP := kp_P hP hk1
          generalize H1 = H at hP hS ⊢
          refine lv_if_eq (tgt := 33) hx hb d_W_search_28 (by decide) (fun c_4 => ?_) (fun c_4 => ?_)
          · have c_4 : (f_O_holds p2 x3) = (0 : Int32) := c_4
            refine lv_aload_n hx hb d_W_search_33 rfl (lv_at hl 2 rfl) ?_
            refine lv_iload_n hx hb d_W_search_34 rfl (lv_at hl 0 rfl) ?_
            refine lv_iload_n hx hb d_W_search_35 rfl (lv_at hl 4 rfl) ?_
            have hq_5 : WF w := by first | with_reducible assumption | exact hw
            have hq_6 : vp_in x3 13 := by exact ha
            refine va_calli (va_runV (As := [.int x3, .int p2]) (rest := []) ⟨hx, hb, hml, hown, hts⟩ (c_W_nextToSearch l dC dI ka qa H.size w  x3 p2 hq_5 hq_6) (cwV 2 hts k_g6 rfl rfl rfl (by decide +kernel) ⟨Nat.le_of_ble_eq_true rfl, Nat.le_of_ble_eq_true rfl⟩) ⟨fb_ro, va_recv hK hP (ci := 0) (q0 := 0) rfl rfl, fun U hU hW => ⟨rfl, by rw [hU], by rw [hU]; exact hP.sub (ws' := (wW ka qa w)) [0, 1, 2, 3, 4, 5, 6] rfl, va_K.moved hW.alike (hK.sub (tys' := (tW ka)) [0, 1, 2, 3, 4, 5] rfl), NX.warm hW hN⟩⟩ rfl rfl hl.1 rfl (lv_room (Nat.le_of_ble_eq_true rfl)) d_W_search_36 ⟨Nat.zero_le _, Nat.zero_le _⟩) hS (fun z h1 h2 => absurd h1 (Nat.not_lt.mpr h2)) (fun z h => hA z (Nat.le_trans hS.1 h)) (fun r u t H1 locs ht hvm hpo hB hz1 hk1 hS => ?_)
            subst hpo
            have hP := kp_P hP hk1
            generalize H1 = H at hP hS ⊢
            refine lv_istore_n (lv' := [(3, .int (f_W_nextToSearch w x3 p2)), (4, .int x4), (0, .ref (qa 0)), (1, .int p1), (2, .int p2)]) hx hb d_W_search_39 rfl hl (by decide) rfl (fun ls hl => ?_)
            refine lv_iinc (v := (x4 + (1 : Int32))) (lv' := [(4, .int (x4 + (1 : Int32))), (3, .int (f_W_nextToSearch w x3 p2)), (0, .ref (qa 0)), (1, .int p1), (2, .int p2)]) hx hb d_W_search_40 hl (k := 1) rfl (by rw [of_p1]) (by decide) rfl (fun ls hl => ?_)
            refine lv_goto (tgt := 5) hx hb d_W_search_43 (by decide) ?_
            exact ih (k + 1) (f_W_nextToSearch w x3 p2) (x4 + (1 : Int32)) _ _ _ (by rw [et]; exact nI_1 k) (by omega) (by first | exact Nat.succ_le_succ (le12 et h2 (by with_reducible assumption)) | exact Nat.succ_le_succ (lt12 et h2 (by with_reducible assumption)) | exact Nat.succ_le_succ (leCnt hw et h2 (by with_reducible assumption)) | exact Nat.succ_le_succ (Nat.le_trans (Nat.le_of_lt (ltDc hw et h2 (by with_reducible assumption) (by with_reducible assumption))) (by decide)) | exact Nat.succ_le_succ (lePar et h2 (by with_reducible assumption) (by with_reducible assumption)) | exact Nat.succ_le_succ (ltPar et h2 (by with_reducible assumption) (by with_reducible assumption))) (in_next hw ha) (by rw [← hF, lr_W_search_s, if_neg c_1, if_neg c_3, if_pos c_4]) hP hS (lv_sub hl [1, 0, 2, 3, 4] rfl)
          · have c_4 : ¬ ((f_O_holds p2 x3) = (0 : Int32)) := c_4
            refine lv_iload_n hx hb d_W_search_31 rfl (lv_at hl 0 rfl) ?_
            exact W.iret (v := x3) hx hb hr (fun t ht hW => ⟨⟨x3, (), rfl, by rw [← hF, lr_W_search_s, if_neg c_1, if_neg c_3, if_neg c_4], trivial⟩, hS.F ht⟩) hS.2.2 d_W_search_32
  exact LOOP 14 0 p1 (0 : Int32) _ _ _ (rfl) (by omega) (by omega) (hp1) (rfl) hP hS (lv_sub hl [1, 0, 2, 3, 4] rfl)
