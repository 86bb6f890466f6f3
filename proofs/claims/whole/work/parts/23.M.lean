set_option maxHeartbeats 1000000 in
set_option maxRecDepth 100000 in
theorem c_M_owners (l : Launch) (dC : Nat → ClassId) (dI : Nat → Nat → Nat) (ka : Nat → ClassId) (qa : Nat → Nat) (sz : Nat) (mm : MS) (p1 : Int32) (hp1 : vp_in p1 4) : Met l y_M_owners w_M_owners ({ frames := 0, cells := 0, slots := 0, locals := 0 } : Room) (ro_P dC dI (wM ka qa mm) (tM ka) sz [.ref (qa 0), .int p1]) (ro_Q sz (f_M_owners mm p1)) 0 0 (fun z => sz ≤ z) := by
  refine Met.ofW (cc := b_M_owners) (maxL := 2) (ret := (some .int)) (by decide) rfl ?_
  intro p e s m args below meth c s₁ B hml hv
  obtain ⟨rfl, hsz, hP, hK, hN⟩ := hv
  have hx := B.exec
  have hb := B.bytes
  have hr := B.returns
  have hts := tl_of (atoms_spec (ws := w_M_owners) B.pre)
  have hown : s.vm.findClass R_M = some m.cls := findClass_of_methodNamed B.named
  have hlocks := B.notSynchronized
  subst hsz
  have hA : ∀ z : Nat, s.heap.size ≤ z → (fun z : Nat => s.heap.size ≤ z) z := fun _ h => h
  have hS : va_S (fun z : Nat => s.heap.size ≤ z) s.heap s.heap [] := va_S.rf
  have hl := lv_entry ([.ref (qa 0), .int p1]) (n := 2) (Nat.le_of_ble_eq_true rfl)
  rw [lg_entry_eq]
  generalize (lg_sl ([.ref (qa 0), .int p1]) ++ List.replicate (2 - (lg_sl ([.ref (qa 0), .int p1])).length) Slot.unset).toArray = ls at hl ⊢
  have hl : lv_has ls 2 [(0, .ref (qa 0)), (1, .int p1)] := hl
  refine lv_aload_n hx hb d_M_owners_0 rfl (lv_at hl 0 rfl) ?_
  refine va_get (D := (dC, dI)) (ci := 1) (v := .ref (qa 1)) (C := R_M) (T := F_M) (N := 5) hx hb hts i_M hown hK hP 0 rfl rfl 0 (by decide) (hts _ k_16) (fun _ h9 => h9) rfl d_M_owners_1 ?_
  refine lv_iload_n hx hb d_M_owners_4 rfl (lv_at hl 1 rfl) ?_
  have hi_1 : vp_in p1 4 := by first | with_reducible assumption | exact in_name (by with_reducible assumption) | exact in4_4 (by with_reducible assumption) | exact in4_5 (by with_reducible assumption) | exact in4_6 (by with_reducible assumption) | exact in4_7 (by with_reducible assumption)
  refine va_iald (D := (dC, dI)) (f := (mm 0)) hx hb hK hP 1 0 rfl rfl hi_1 d_M_owners_5 ?_
  exact W.iret (v := ((mm 0) p1.toNatClampNeg)) hx hb hr (fun t ht hW => ⟨⟨((mm 0) p1.toNatClampNeg), (), rfl, rfl, trivial⟩, hS.F ht⟩) hS.2.2 d_M_owners_6
set_option maxHeartbeats 1000000 in
set_option maxRecDepth 100000 in
theorem c_M_abstracts (l : Launch) (dC : Nat → ClassId) (dI : Nat → Nat → Nat) (ka : Nat → ClassId) (qa : Nat → Nat) (sz : Nat) (mm : MS) (p1 : Int32) (hp1 : vp_in p1 4) : Met l y_M_abstracts w_M_abstracts ({ frames := 0, cells := 0, slots := 0, locals := 0 } : Room) (ro_P dC dI (wM ka qa mm) (tM ka) sz [.ref (qa 0), .int p1]) (ro_Q sz (f_M_abstracts mm p1)) 0 0 (fun z => sz ≤ z) := by
  refine Met.ofW (cc := b_M_abstracts) (maxL := 2) (ret := (some .int)) (by decide) rfl ?_
  intro p e s m args below meth c s₁ B hml hv
  obtain ⟨rfl, hsz, hP, hK, hN⟩ := hv
  have hx := B.exec
  have hb := B.bytes
  have hr := B.returns
  have hts := tl_of (atoms_spec (ws := w_M_abstracts) B.pre)
  have hown : s.vm.findClass R_M = some m.cls := findClass_of_methodNamed B.named
  have hlocks := B.notSynchronized
  subst hsz
  have hA : ∀ z : Nat, s.heap.size ≤ z → (fun z : Nat => s.heap.size ≤ z) z := fun _ h => h
  have hS : va_S (fun z : Nat => s.heap.size ≤ z) s.heap s.heap [] := va_S.rf
  have hl := lv_entry ([.ref (qa 0), .int p1]) (n := 2) (Nat.le_of_ble_eq_true rfl)
  rw [lg_entry_eq]
  generalize (lg_sl ([.ref (qa 0), .int p1]) ++ List.replicate (2 - (lg_sl ([.ref (qa 0), .int p1])).length) Slot.unset).toArray = ls at hl ⊢
  have hl : lv_has ls 2 [(0, .ref (qa 0)), (1, .int p1)] := hl
  refine lv_aload_n hx hb d_M_abstracts_0 rfl (lv_at hl 0 rfl) ?_
  refine va_get (D := (dC, dI)) (ci := 1) (v := .ref (qa 3)) (C := R_M) (T := F_M) (N := 5) hx hb hts i_M hown hK hP 0 rfl rfl 2 (by decide) (hts _ k_17) (fun _ h9 => h9) rfl d_M_abstracts_1 ?_
  refine lv_iload_n hx hb d_M_abstracts_4 rfl (lv_at hl 1 rfl) ?_
  have hi_1 : vp_in p1 4 := by first | with_reducible assumption | exact in_name (by with_reducible assumption) | exact in4_4 (by with_reducible assumption) | exact in4_5 (by with_reducible assumption) | exact in4_6 (by with_reducible assumption) | exact in4_7 (by with_reducible assumption)
  refine va_iald (D := (dC, dI)) (f := (mm 2)) hx hb hK hP 3 2 rfl rfl hi_1 d_M_abstracts_5 ?_
  exact W.iret (v := ((mm 2) p1.toNatClampNeg)) hx hb hr (fun t ht hW => ⟨⟨((mm 2) p1.toNatClampNeg), (), rfl, rfl, trivial⟩, hS.F ht⟩) hS.2.2 d_M_abstracts_6
set_option maxHeartbeats 1000000 in
set_option maxRecDepth 100000 in
theorem c_M_instances (l : Launch) (dC : Nat → ClassId) (dI : Nat → Nat → Nat) (ka : Nat → ClassId) (qa : Nat → Nat) (sz : Nat) (mm : MS) (p1 : Int32) (hp1 : vp_in p1 4) : Met l y_M_instances w_M_instances ({ frames := 0, cells := 0, slots := 0, locals := 0 } : Room) (ro_P dC dI (wM ka qa mm) (tM ka) sz [.ref (qa 0), .int p1]) (ro_Q sz (f_M_instances mm p1)) 0 0 (fun z => sz ≤ z) := by
  refine Met.ofW (cc := b_M_instances) (maxL := 2) (ret := (some .int)) (by decide) rfl ?_
  intro p e s m args below meth c s₁ B hml hv
  obtain ⟨rfl, hsz, hP, hK, hN⟩ := hv
  have hx := B.exec
  have hb := B.bytes
  have hr := B.returns
  have hts := tl_of (atoms_spec (ws := w_M_instances) B.pre)
  have hown : s.vm.findClass R_M = some m.cls := findClass_of_methodNamed B.named
  have hlocks := B.notSynchronized
  subst hsz
  have hA : ∀ z : Nat, s.heap.size ≤ z → (fun z : Nat => s.heap.size ≤ z) z := fun _ h => h
  have hS : va_S (fun z : Nat => s.heap.size ≤ z) s.heap s.heap [] := va_S.rf
  have hl := lv_entry ([.ref (qa 0), .int p1]) (n := 2) (Nat.le_of_ble_eq_true rfl)
  rw [lg_entry_eq]
  generalize (lg_sl ([.ref (qa 0), .int p1]) ++ List.replicate (2 - (lg_sl ([.ref (qa 0), .int p1])).length) Slot.unset).toArray = ls at hl ⊢
  have hl : lv_has ls 2 [(0, .ref (qa 0)), (1, .int p1)] := hl
  refine lv_aload_n hx hb d_M_instances_0 rfl (lv_at hl 0 rfl) ?_
  refine va_get (D := (dC, dI)) (ci := 1) (v := .ref (qa 1)) (C := R_M) (T := F_M) (N := 5) hx hb hts i_M hown hK hP 0 rfl rfl 0 (by decide) (hts _ k_16) (fun _ h9 => h9) rfl d_M_instances_1 ?_
  refine lv_iload_n hx hb d_M_instances_4 rfl (lv_at hl 1 rfl) ?_
  have hi_1 : vp_in p1 4 := by first | with_reducible assumption | exact in_name (by with_reducible assumption) | exact in4_4 (by with_reducible assumption) | exact in4_5 (by with_reducible assumption) | exact in4_6 (by with_reducible assumption) | exact in4_7 (by with_reducible assumption)
  refine va_iald (D := (dC, dI)) (f := (mm 0)) hx hb hK hP 1 0 rfl rfl hi_1 d_M_instances_5 ?_
  refine lv_aload_n hx hb d_M_instances_6 rfl (lv_at hl 0 rfl) ?_
  refine va_get (D := (dC, dI)) (ci := 1) (v := .ref (qa 2)) (C := R_M) (T := F_M) (N := 5) hx hb hts i_M hown hK hP 0 rfl rfl 1 (by decide) (hts _ k_18) (fun _ h9 => h9) rfl d_M_instances_7 ?_
  refine lv_iload_n hx hb d_M_instances_10 rfl (lv_at hl 1 rfl) ?_
  have hi_2 : vp_in p1 4 := by first | with_reducible assumption | exact in_name (by with_reducible assumption) | exact in4_4 (by with_reducible assumption) | exact in4_5 (by with_reducible assumption) | exact in4_6 (by with_reducible assumption) | exact in4_7 (by with_reducible assumption)
  refine va_iald (D := (dC, dI)) (f := (mm 1)) hx hb hK hP 2 1 rfl rfl hi_2 d_M_instances_11 ?_
  refine lv_iconst (v := (-1 : Int32)) hx hb d_M_instances_12 (by decide +kernel) ?_
  refine lv_ixor hx hb d_M_instances_13 ?_
  refine lv_iand hx hb d_M_instances_14 ?_
  exact W.iret (v := (((mm 0) p1.toNatClampNeg) &&& (((mm 1) p1.toNatClampNeg) ^^^ (-1 : Int32)))) hx hb hr (fun t ht hW => ⟨⟨(((mm 0) p1.toNatClampNeg) &&& (((mm 1) p1.toNatClampNeg) ^^^ (-1 : Int32))), (), rfl, rfl, trivial⟩, hS.F ht⟩) hS.2.2 d_M_instances_15
set_option maxHeartbeats 1000000 in
set_option maxRecDepth 100000 in
theorem c_M_inheritable (l : Launch) (dC : Nat → ClassId) (dI : Nat → Nat → Nat) (ka : Nat → ClassId) (qa : Nat → Nat) (sz : Nat) (mm : MS) (p1 : Int32) (hp1 : vp_in p1 4) : Met l y_M_inheritable w_M_inheritable ({ frames := 0, cells := 0, slots := 0, locals := 0 } : Room) (ro_P dC dI (wM ka qa mm) (tM ka) sz [.ref (qa 0), .int p1]) (ro_Q sz (f_M_inheritable mm p1)) 0 0 (fun z => sz ≤ z) := by
  refine Met.ofW (cc := b_M_inheritable) (maxL := 2) (ret := (some .int)) (by decide) rfl ?_
  intro p e s m args below meth c s₁ B hml hv
  obtain ⟨rfl, hsz, hP, hK, hN⟩ := hv
  have hx := B.exec
  have hb := B.bytes
  have hr := B.returns
  have hts := tl_of (atoms_spec (ws := w_M_inheritable) B.pre)
  have hown : s.vm.findClass R_M = some m.cls := findClass_of_methodNamed B.named
  have hlocks := B.notSynchronized
  subst hsz
  have hA : ∀ z : Nat, s.heap.size ≤ z → (fun z : Nat => s.heap.size ≤ z) z := fun _ h => h
  have hS : va_S (fun z : Nat => s.heap.size ≤ z) s.heap s.heap [] := va_S.rf
  have hl := lv_entry ([.ref (qa 0), .int p1]) (n := 2) (Nat.le_of_ble_eq_true rfl)
  rw [lg_entry_eq]
  generalize (lg_sl ([.ref (qa 0), .int p1]) ++ List.replicate (2 - (lg_sl ([.ref (qa 0), .int p1])).length) Slot.unset).toArray = ls at hl ⊢
  have hl : lv_has ls 2 [(0, .ref (qa 0)), (1, .int p1)] := hl
  refine lv_aload_n hx hb d_M_inheritable_0 rfl (lv_at hl 0 rfl) ?_
  refine va_get (D := (dC, dI)) (ci := 1) (v := .ref (qa 1)) (C := R_M) (T := F_M) (N := 5) hx hb hts i_M hown hK hP 0 rfl rfl 0 (by decide) (hts _ k_16) (fun _ h9 => h9) rfl d_M_inheritable_1 ?_
  refine lv_iload_n hx hb d_M_inheritable_4 rfl (lv_at hl 1 rfl) ?_
  have hi_1 : vp_in p1 4 := by first | with_reducible assumption | exact in_name (by with_reducible assumption) | exact in4_4 (by with_reducible assumption) | exact in4_5 (by with_reducible assumption) | exact in4_6 (by with_reducible assumption) | exact in4_7 (by with_reducible assumption)
  refine va_iald (D := (dC, dI)) (f := (mm 0)) hx hb hK hP 1 0 rfl rfl hi_1 d_M_inheritable_5 ?_
  refine lv_aload_n hx hb d_M_inheritable_6 rfl (lv_at hl 0 rfl) ?_
  refine va_get (D := (dC, dI)) (ci := 1) (v := .ref (qa 2)) (C := R_M) (T := F_M) (N := 5) hx hb hts i_M hown hK hP 0 rfl rfl 1 (by decide) (hts _ k_18) (fun _ h9 => h9) rfl d_M_inheritable_7 ?_
  refine lv_iload_n hx hb d_M_inheritable_10 rfl (lv_at hl 1 rfl) ?_
  have hi_2 : vp_in p1 4 := by first | with_reducible assumption | exact in_name (by with_reducible assumption) | exact in4_4 (by with_reducible assumption) | exact in4_5 (by with_reducible assumption) | exact in4_6 (by with_reducible assumption) | exact in4_7 (by with_reducible assumption)
  refine va_iald (D := (dC, dI)) (f := (mm 1)) hx hb hK hP 2 1 rfl rfl hi_2 d_M_inheritable_11 ?_
  refine lv_iconst (v := (-1 : Int32)) hx hb d_M_inheritable_12 (by decide +kernel) ?_
  refine lv_ixor hx hb d_M_inheritable_13 ?_
  refine lv_iand hx hb d_M_inheritable_14 ?_
  refine lv_aload_n hx hb d_M_inheritable_15 rfl (lv_at hl 0 rfl) ?_
  refine va_get (D := (dC, dI)) (ci := 1) (v := .ref (qa 4)) (C := R_M) (T := F_M) (N := 5) hx hb hts i_M hown hK hP 0 rfl rfl 3 (by decide) (hts _ k_19) (fun _ h9 => h9) rfl d_M_inheritable_16 ?_
  refine lv_iload_n hx hb d_M_inheritable_19 rfl (lv_at hl 1 rfl) ?_
  have hi_3 : vp_in p1 4 := by first | with_reducible assumption | exact in_name (by with_reducible assumption) | exact in4_4 (by with_reducible assumption) | exact in4_5 (by with_reducible assumption) | exact in4_6 (by with_reducible assumption) | exact in4_7 (by with_reducible assumption)
  refine va_iald (D := (dC, dI)) (f := (mm 3)) hx hb hK hP 4 3 rfl rfl hi_3 d_M_inheritable_20 ?_
  refine lv_iconst (v := (-1 : Int32)) hx hb d_M_inheritable_21 (by decide +kernel) ?_
  refine lv_ixor hx hb d_M_inheritable_22 ?_
  refine lv_iand hx hb d_M_inheritable_23 ?_
  exact W.iret (v := ((((mm 0) p1.toNatClampNeg) &&& (((mm 1) p1.toNatClampNeg) ^^^ (-1 : Int32))) &&& (((mm 3) p1.toNatClampNeg) ^^^ (-1 : Int32)))) hx hb hr (fun t ht hW => ⟨⟨((((mm 0) p1.toNatClampNeg) &&& (((mm 1) p1.toNatClampNeg) ^^^ (-1 : Int32))) &&& (((mm 3) p1.toNatClampNeg) ^^^ (-1 : Int32))), (), rfl, rfl, trivial⟩, hS.F ht⟩) hS.2.2 d_M_inheritable_24
set_option maxHeartbeats 1000000 in
set_option maxRecDepth 100000 in
theorem c_M_has (l : Launch) (dC : Nat → ClassId) (dI : Nat → Nat → Nat) (ka : Nat → ClassId) (qa : Nat → Nat) (sz : Nat) (mm : MS) (p1 p2 : Int32) (hp2 : vp_in p2 4) : Met l y_M_has w_M_has ({ frames := 1, cells := 0, slots := 0, locals := 21 } : Room) (ro_P dC dI (wM ka qa mm) (tM ka) sz [.ref (qa 0), .int p1, .int p2]) (ro_Q sz (f_M_has mm p1 p2)) 0 0 (fun z => sz ≤ z) := by
  refine Met.ofW (cc := b_M_has) (maxL := 3) (ret := (some .boolean)) (by decide) rfl ?_
  intro p e s m args below meth c s₁ B hml hv
  obtain ⟨rfl, hsz, hP, hK, hN⟩ := hv
  have hx := B.exec
  have hb := B.bytes
  have hr := B.returns
  have hts := tl_of (atoms_spec (ws := w_M_has) B.pre)
  have hown : s.vm.findClass R_M = some m.cls := findClass_of_methodNamed B.named
  have hlocks := B.notSynchronized
  subst hsz
  have hA : ∀ z : Nat, s.heap.size ≤ z → (fun z : Nat => s.heap.size ≤ z) z := fun _ h => h
  have hS : va_S (fun z : Nat => s.heap.size ≤ z) s.heap s.heap [] := va_S.rf
  have hl := lv_entry ([.ref (qa 0), .int p1, .int p2]) (n := 3) (Nat.le_of_ble_eq_true rfl)
  rw [lg_entry_eq]
  generalize (lg_sl ([.ref (qa 0), .int p1, .int p2]) ++ List.replicate (3 - (lg_sl ([.ref (qa 0), .int p1, .int p2])).length) Slot.unset).toArray = ls at hl ⊢
  have hl : lv_has ls 3 [(0, .ref (qa 0)), (1, .int p1), (2, .int p2)] := hl
  refine lv_aload_n hx hb d_M_has_0 rfl (lv_at hl 0 rfl) ?_
  refine va_get (D := (dC, dI)) (ci := 1) (v := .ref (qa 1)) (C := R_M) (T := F_M) (N := 5) hx hb hts i_M hown hK hP 0 rfl rfl 0 (by decide) (hts _ k_16) (fun _ h9 => h9) rfl d_M_has_1 ?_
  refine lv_iload_n hx hb d_M_has_4 rfl (lv_at hl 2 rfl) ?_
  have hi_1 : vp_in p2 4 := by first | with_reducible assumption | exact in_name (by with_reducible assumption) | exact in4_4 (by with_reducible assumption) | exact in4_5 (by with_reducible assumption) | exact in4_6 (by with_reducible assumption) | exact in4_7 (by with_reducible assumption)
  refine va_iald (D := (dC, dI)) (f := (mm 0)) hx hb hK hP 1 0 rfl rfl hi_1 d_M_has_5 ?_
  refine lv_iload_n hx hb d_M_has_6 rfl (lv_at hl 1 rfl) ?_
  refine va_calli (va_runSN (As := [.int ((mm 0) p2.toNatClampNeg), .int p1]) (rest := []) ⟨hx, hb, hml, hown, hts⟩ (c_O_holds l dC dI  s.heap.size   ((mm 0) p2.toNatClampNeg) p1) ⟨va_cnB 2 hts k_g2 rfl rfl rfl (hN _ k_20 rfl) (hts _ k_6) (by decide +kernel) ⟨Nat.le_of_ble_eq_true rfl, Nat.le_of_ble_eq_true rfl⟩, hts _ k_7, trivial⟩ ⟨fb_ro, fun U hU hW => ⟨rfl, by rw [hU], by rw [hU]; exact hP.sub (ws' := ([] : va_W)) [] rfl, va_K.moved hW.alike (hK.sub (tys' := []) [] rfl), NX.warm hW hN⟩⟩ rfl rfl hl.1 rfl (lv_room (Nat.le_of_ble_eq_true rfl)) d_M_has_7 ⟨Nat.zero_le _, Nat.zero_le _⟩) hS (fun z h1 h2 => absurd h1 (Nat.not_lt.mpr h2)) (fun z h => hA z (Nat.le_trans hS.1 h)) (fun r u t H1 locs ht hvm hpo hB hz1 hk1 hS => ?_)
  subst hpo
  have hP := kp_P hP hk1
  generalize H1 = H at hP hS ⊢
  exact W.zret (v := (f_O_holds ((mm 0) p2.toNatClampNeg) p1)) hx hb hr (z_O_holds) (fun t ht hW => ⟨⟨(f_O_holds ((mm 0) p2.toNatClampNeg) p1), (), rfl, rfl, trivial⟩, hS.F ht⟩) hS.2.2 d_M_has_10
set_option maxHeartbeats 1000000 in
set_option maxRecDepth 100000 in
theorem c_M_isStatic (l : Launch) (dC : Nat → ClassId) (dI : Nat → Nat → Nat) (ka : Nat → ClassId) (qa : Nat → Nat) (sz : Nat) (mm : MS) (p1 p2 : Int32) (hp2 : vp_in p2 4) : Met l y_M_isStatic w_M_isStatic ({ frames := 1, cells := 0, slots := 0, locals := 21 } : Room) (ro_P dC dI (wM ka qa mm) (tM ka) sz [.ref (qa 0), .int p1, .int p2]) (ro_Q sz (f_M_isStatic mm p1 p2)) 0 0 (fun z => sz ≤ z) := by
  refine Met.ofW (cc := b_M_isStatic) (maxL := 3) (ret := (some .boolean)) (by decide) rfl ?_
  intro p e s m args below meth c s₁ B hml hv
  obtain ⟨rfl, hsz, hP, hK, hN⟩ := hv
  have hx := B.exec
  have hb := B.bytes
  have hr := B.returns
  have hts := tl_of (atoms_spec (ws := w_M_isStatic) B.pre)
  have hown : s.vm.findClass R_M = some m.cls := findClass_of_methodNamed B.named
  have hlocks := B.notSynchronized
  subst hsz
  have hA : ∀ z : Nat, s.heap.size ≤ z → (fun z : Nat => s.heap.size ≤ z) z := fun _ h => h
  have hS : va_S (fun z : Nat => s.heap.size ≤ z) s.heap s.heap [] := va_S.rf
  have hl := lv_entry ([.ref (qa 0), .int p1, .int p2]) (n := 3) (Nat.le_of_ble_eq_true rfl)
  rw [lg_entry_eq]
  generalize (lg_sl ([.ref (qa 0), .int p1, .int p2]) ++ List.replicate (3 - (lg_sl ([.ref (qa 0), .int p1, .int p2])).length) Slot.unset).toArray = ls at hl ⊢
  have hl : lv_has ls 3 [(0, .ref (qa 0)), (1, .int p1), (2, .int p2)] := hl
  refine lv_aload_n hx hb d_M_isStatic_0 rfl (lv_at hl 0 rfl) ?_
  refine va_get (D := (dC, dI)) (ci := 1) (v := .ref (qa 2)) (C := R_M) (T := F_M) (N := 5) hx hb hts i_M hown hK hP 0 rfl rfl 1 (by decide) (hts _ k_18) (fun _ h9 => h9) rfl d_M_isStatic_1 ?_
  refine lv_iload_n hx hb d_M_isStatic_4 rfl (lv_at hl 2 rfl) ?_
  have hi_1 : vp_in p2 4 := by first | with_reducible assumption | exact in_name (by with_reducible assumption) | exact in4_4 (by with_reducible assumption) | exact in4_5 (by with_reducible assumption) | exact in4_6 (by with_reducible assumption) | exact in4_7 (by with_reducible assumption)
  refine va_iald (D := (dC, dI)) (f := (mm 1)) hx hb hK hP 2 1 rfl rfl hi_1 d_M_isStatic_5 ?_
  refine lv_iload_n hx hb d_M_isStatic_6 rfl (lv_at hl 1 rfl) ?_
  refine va_calli (va_runSN (As := [.int ((mm 1) p2.toNatClampNeg), .int p1]) (rest := []) ⟨hx, hb, hml, hown, hts⟩ (c_O_holds l dC dI  s.heap.size   ((mm 1) p2.toNatClampNeg) p1) ⟨va_cnB 2 hts k_g2 rfl rfl rfl (hN _ k_20 rfl) (hts _ k_6) (by decide +kernel) ⟨Nat.le_of_ble_eq_true rfl, Nat.le_of_ble_eq_true rfl⟩, hts _ k_7, trivial⟩ ⟨fb_ro, fun U hU hW => ⟨rfl, by rw [hU], by rw [hU]; exact hP.sub (ws' := ([] : va_W)) [] rfl, va_K.moved hW.alike (hK.sub (tys' := []) [] rfl), NX.warm hW hN⟩⟩ rfl rfl hl.1 rfl (lv_room (Nat.le_of_ble_eq_true rfl)) d_M_isStatic_7 ⟨Nat.zero_le _, Nat.zero_le _⟩) hS (fun z h1 h2 => absurd h1 (Nat.not_lt.mpr h2)) (fun z h => hA z (Nat.le_trans hS.1 h)) (fun r u t H1 locs ht hvm hpo hB hz1 hk1 hS => ?_)
  subst hpo
  have hP := kp_P hP hk1
  generalize H1 = H at hP hS ⊢
  exact W.zret (v := (f_O_holds ((mm 1) p2.toNatClampNeg) p1)) hx hb hr (z_O_holds) (fun t ht hW => ⟨⟨(f_O_holds ((mm 1) p2.toNatClampNeg) p1), (), rfl, rfl, trivial⟩, hS.F ht⟩) hS.2.2 d_M_isStatic_10
set_option maxHeartbeats 1000000 in
set_option maxRecDepth 100000 in
theorem c_M_accessOf (l : Launch) (dC : Nat → ClassId) (dI : Nat → Nat → Nat) (ka : Nat → ClassId) (qa : Nat → Nat) (sz : Nat) (mm : MS) (p1 p2 : Int32) (hp : vp_in ((p1 * (4 : Int32)) + p2) 52) : Met l y_M_accessOf w_M_accessOf ({ frames := 0, cells := 0, slots := 0, locals := 0 } : Room) (ro_P dC dI (wM ka qa mm) (tM ka) sz [.ref (qa 0), .int p1, .int p2]) (ro_Q sz (f_M_accessOf mm p1 p2)) 0 0 (fun z => sz ≤ z) := by
  refine Met.ofW (cc := b_M_accessOf) (maxL := 3) (ret := (some .int)) (by decide) rfl ?_
  intro p e s m args below meth c s₁ B hml hv
  obtain ⟨rfl, hsz, hP, hK, hN⟩ := hv
  have hx := B.exec
  have hb := B.bytes
  have hr := B.returns
  have hts := tl_of (atoms_spec (ws := w_M_accessOf) B.pre)
  have hown : s.vm.findClass R_M = some m.cls := findClass_of_methodNamed B.named
  have hlocks := B.notSynchronized
  subst hsz
  have hA : ∀ z : Nat, s.heap.size ≤ z → (fun z : Nat => s.heap.size ≤ z) z := fun _ h => h
  have hS : va_S (fun z : Nat => s.heap.size ≤ z) s.heap s.heap [] := va_S.rf
  have hl := lv_entry ([.ref (qa 0), .int p1, .int p2]) (n := 3) (Nat.le_of_ble_eq_true rfl)
  rw [lg_entry_eq]
  generalize (lg_sl ([.ref (qa 0), .int p1, .int p2]) ++ List.replicate (3 - (lg_sl ([.ref (qa 0), .int p1, .int p2])).length) Slot.unset).toArray = ls at hl ⊢
  have hl : lv_has ls 3 [(0, .ref (qa 0)), (1, .int p1), (2, .int p2)] := hl
  refine lv_aload_n hx hb d_M_accessOf_0 rfl (lv_at hl 0 rfl) ?_
  refine va_get (D := (dC, dI)) (ci := 1) (v := .ref (qa 5)) (C := R_M) (T := F_M) (N := 5) hx hb hts i_M hown hK hP 0 rfl rfl 4 (by decide) (hts _ k_21) (fun _ h9 => h9) rfl d_M_accessOf_1 ?_
  refine lv_iload_n hx hb d_M_accessOf_4 rfl (lv_at hl 1 rfl) ?_
  refine lv_iconst (v := (4 : Int32)) hx hb d_M_accessOf_5 (by decide +kernel) ?_
  refine lv_imul hx hb d_M_accessOf_6 ?_
  refine lv_iload_n hx hb d_M_accessOf_7 rfl (lv_at hl 2 rfl) ?_
  refine lv_iadd hx hb d_M_accessOf_8 ?_
  have hi_1 : vp_in ((p1 * (4 : Int32)) + p2) 52 := by first | with_reducible assumption | exact in_52 (by first | with_reducible assumption | exact in_has hw (by with_reducible assumption) | exact in_cls hw (by with_reducible assumption) | exact in_ifc hw (by with_reducible assumption) | exact in_ext hw (by with_reducible assumption) | exact in_eq0 (by with_reducible assumption) | exact hfd (by with_reducible assumption) | exact in_rcv hw (by with_reducible assumption) (Or.inl (by with_reducible assumption)) | exact in_rcv hw (by with_reducible assumption) (Or.inr (by with_reducible assumption))) (by first | with_reducible assumption | exact in_name (by with_reducible assumption) | exact in4_4 (by with_reducible assumption) | exact in4_5 (by with_reducible assumption) | exact in4_6 (by with_reducible assumption) | exact in4_7 (by with_reducible assumption))
  refine va_iald (D := (dC, dI)) (f := (mm 4)) hx hb hK hP 5 4 rfl rfl hi_1 d_M_accessOf_9 ?_
  exact W.iret (v := ((mm 4) ((p1 * (4 : Int32)) + p2).toNatClampNeg)) hx hb hr (fun t ht hW => ⟨⟨((mm 4) ((p1 * (4 : Int32)) + p2).toNatClampNeg), (), rfl, rfl, trivial⟩, hS.F ht⟩) hS.2.2 d_M_accessOf_10
set_option maxHeartbeats 1000000 in
set_option maxRecDepth 100000 in
theorem c_M_drop (l : Launch) (dC : Nat → ClassId) (dI : Nat → Nat → Nat) (ka : Nat → ClassId) (qa : Nat → Nat) (sz : Nat) (mm : MS) (p1 p2 : Int32) (hp2 : vp_in p2 4) : Met l y_M_drop w_M_drop ({ frames := 0, cells := 0, slots := 0, locals := 0 } : Room) (mu_P dC dI (wM ka qa mm) (tM ka) sz [.ref (qa 0), .int p1, .int p2]) (mu_Qv (fun (S9 : MS) => (wM ka qa S9)) dC dI (s_M_drop mm p1 p2) (va_A (wM ka qa mm) sz)) 0 0 (va_A (wM ka qa mm) sz) := by
  refine Met.ofW (cc := b_M_drop) (maxL := 4) (ret := none) (by decide) rfl ?_
  intro p e s m args below meth c s₁ B hml hv
  obtain ⟨rfl, hsz, hP, hK, hN, hD0⟩ := hv
  have hx := B.exec
  have hb := B.bytes
  have hr := B.returns
  have hts := tl_of (atoms_spec (ws := w_M_drop) B.pre)
  have hown : s.vm.findClass R_M = some m.cls := findClass_of_methodNamed B.named
  have hlocks := B.notSynchronized
  subst hsz
  have hD := hD0.self (sz := s.heap.size)
  generalize hAe : va_A (wM ka qa mm) s.heap.size = A at hD ⊢
  have hA : ∀ q : Nat, s.heap.size ≤ q → A q := fun q h => by rw [← hAe]; exact Or.inr h
  have hS : va_S A s.heap s.heap [] := va_S.rf
  have hl := lv_entry ([.ref (qa 0), .int p1, .int p2]) (n := 4) (Nat.le_of_ble_eq_true rfl)
  rw [lg_entry_eq]
  generalize (lg_sl ([.ref (qa 0), .int p1, .int p2]) ++ List.replicate (4 - (lg_sl ([.ref (qa 0), .int p1, .int p2])).length) Slot.unset).toArray = ls at hl ⊢
  have hl : lv_has ls 4 [(0, .ref (qa 0)), (1, .int p1), (2, .int p2)] := hl
  refine lv_iconst (v := (1 : Int32)) hx hb d_M_drop_0 (by decide +kernel) ?_
  refine lv_iload_n hx hb d_M_drop_1 rfl (lv_at hl 1 rfl) ?_
  refine lv_ishl hx hb d_M_drop_2 ?_
  refine lv_iconst (v := (-1 : Int32)) hx hb d_M_drop_3 (by decide +kernel) ?_
  refine lv_ixor hx hb d_M_drop_4 ?_
  refine lv_istore_n (lv' := [(3, .int (((1 : Int32) <<< (p1 &&& (31 : Int32))) ^^^ (-1 : Int32))), (0, .ref (qa 0)), (1, .int p1), (2, .int p2)]) hx hb d_M_drop_5 rfl hl (by decide) rfl (fun ls hl => ?_)
  refine lv_aload_n hx hb d_M_drop_6 rfl (lv_at hl 1 rfl) ?_
  refine va_get (D := (dC, dI)) (ci := 1) (v := .ref (qa 1)) (C := R_M) (T := F_M) (N := 5) hx hb hts i_M hown hK hP 0 rfl rfl 0 (by decide) (hts _ k_16) (fun _ h9 => h9) rfl d_M_drop_7 ?_
  refine lv_iload_n hx hb d_M_drop_10 rfl (lv_at hl 3 rfl) ?_
  refine lv_dup2_11 hx hb d_M_drop_11 rfl rfl ?_
  have hi_1 : vp_in p2 4 := by first | with_reducible assumption | exact in_name (by with_reducible assumption) | exact in4_4 (by with_reducible assumption) | exact in4_5 (by with_reducible assumption) | exact in4_6 (by with_reducible assumption) | exact in4_7 (by with_reducible assumption)
  refine va_iald (D := (dC, dI)) (f := (mm 0)) hx hb hK hP 1 0 rfl rfl hi_1 d_M_drop_12 ?_
  refine lv_iload_n hx hb d_M_drop_13 rfl (lv_at hl 0 rfl) ?_
  refine lv_iand hx hb d_M_drop_14 ?_
  have hi_2 : vp_in p2 4 := by first | with_reducible assumption | exact in_name (by with_reducible assumption) | exact in4_4 (by with_reducible assumption) | exact in4_5 (by with_reducible assumption) | exact in4_6 (by with_reducible assumption) | exact in4_7 (by with_reducible assumption)
  refine va_iast (D := (dC, dI)) (f := (mm 0)) hx hb hK hP hD hS 1 0 rfl rfl hi_2 d_M_drop_15 (fun H locs hP hD hS => ?_)
  have hP : va_P (dC, dI) classes ([(qa 0, .inr (1, [.ref (qa 1), .ref (qa 2), .ref (qa 3), .ref (qa 4), .ref (qa 5)])), (qa 1, .inl (ka 0, 4, .inl (upd (mm 0) p2.toNatClampNeg (((mm 0) p2.toNatClampNeg) &&& (((1 : Int32) <<< (p1 &&& (31 : Int32))) ^^^ (-1 : Int32)))))), (qa 2, .inl (ka 1, 4, .inl (mm 1))), (qa 3, .inl (ka 2, 4, .inl (mm 2))), (qa 4, .inl (ka 3, 4, .inl (mm 3))), (qa 5, .inl (ka 4, 52, .inl (mm 4)))] : va_W) H := hP
  have hD : va_D A ([(qa 0, .inr (1, [.ref (qa 1), .ref (qa 2), .ref (qa 3), .ref (qa 4), .ref (qa 5)])), (qa 1, .inl (ka 0, 4, .inl (upd (mm 0) p2.toNatClampNeg (((mm 0) p2.toNatClampNeg) &&& (((1 : Int32) <<< (p1 &&& (31 : Int32))) ^^^ (-1 : Int32)))))), (qa 2, .inl (ka 1, 4, .inl (mm 1))), (qa 3, .inl (ka 2, 4, .inl (mm 2))), (qa 4, .inl (ka 3, 4, .inl (mm 3))), (qa 5, .inl (ka 4, 52, .inl (mm 4)))] : va_W) := hD
  refine lv_aload_n hx hb d_M_drop_16 rfl (lv_at hl 1 rfl) ?_
  refine va_get (D := (dC, dI)) (ci := 1) (v := .ref (qa 2)) (C := R_M) (T := F_M) (N := 5) hx hb hts i_M hown hK hP 0 rfl rfl 1 (by decide) (hts _ k_18) (fun _ h9 => h9) rfl d_M_drop_17 ?_
  refine lv_iload_n hx hb d_M_drop_20 rfl (lv_at hl 3 rfl) ?_
  refine lv_dup2_11 hx hb d_M_drop_21 rfl rfl ?_
  have hi_3 : vp_in p2 4 := by first | with_reducible assumption | exact in_name (by with_reducible assumption) | exact in4_4 (by with_reducible assumption) | exact in4_5 (by with_reducible assumption) | exact in4_6 (by with_reducible assumption) | exact in4_7 (by with_reducible assumption)
  refine va_iald (D := (dC, dI)) (f := (mm 1)) hx hb hK hP 2 1 rfl rfl hi_3 d_M_drop_22 ?_
  refine lv_iload_n hx hb d_M_drop_23 rfl (lv_at hl 0 rfl) ?_
  refine lv_iand hx hb d_M_drop_24 ?_
  have hi_4 : vp_in p2 4 := by first | with_reducible assumption | exact in_name (by with_reducible assumption) | exact in4_4 (by with_reducible assumption) | exact in4_5 (by with_reducible assumption) | exact in4_6 (by with_reducible assumption) | exact in4_7 (by with_reducible assumption)
  refine va_iast (D := (dC, dI)) (f := (mm 1)) hx hb hK hP hD hS 2 1 rfl rfl hi_4 d_M_drop_25 (fun H locs hP hD hS => ?_)
  have hP : va_P (dC, dI) classes ([(qa 0, .inr (1, [.ref (qa 1), .ref (qa 2), .ref (qa 3), .ref (qa 4), .ref (qa 5)])), (qa 1, .inl (ka 0, 4, .inl (upd (mm 0) p2.toNatClampNeg (((mm 0) p2.toNatClampNeg) &&& (((1 : Int32) <<< (p1 &&& (31 : Int32))) ^^^ (-1 : Int32)))))), (qa 2, .inl (ka 1, 4, .inl (upd (mm 1) p2.toNatClampNeg (((mm 1) p2.toNatClampNeg) &&& (((1 : Int32) <<< (p1 &&& (31 : Int32))) ^^^ (-1 : Int32)))))), (qa 3, .inl (ka 2, 4, .inl (mm 2))), (qa 4, .inl (ka 3, 4, .inl (mm 3))), (qa 5, .inl (ka 4, 52, .inl (mm 4)))] : va_W) H := hP
  have hD : va_D A ([(qa 0, .inr (1, [.ref (qa 1), .ref (qa 2), .ref (qa 3), .ref (qa 4), .ref (qa 5)])), (qa 1, .inl (ka 0, 4, .inl (upd (mm 0) p2.toNatClampNeg (((mm 0) p2.toNatClampNeg) &&& (((1 : Int32) <<< (p1 &&& (31 : Int32))) ^^^ (-1 : Int32)))))), (qa 2, .inl (ka 1, 4, .inl (upd (mm 1) p2.toNatClampNeg (((mm 1) p2.toNatClampNeg) &&& (((1 : Int32) <<< (p1 &&& (31 : Int32))) ^^^ (-1 : Int32)))))), (qa 3, .inl (ka 2, 4, .inl (mm 2))), (qa 4, .inl (ka 3, 4, .inl (mm 3))), (qa 5, .inl (ka 4, 52, .inl (mm 4)))] : va_W) := hD
  refine lv_aload_n hx hb d_M_drop_26 rfl (lv_at hl 1 rfl) ?_
  refine va_get (D := (dC, dI)) (ci := 1) (v := .ref (qa 3)) (C := R_M) (T := F_M) (N := 5) hx hb hts i_M hown hK hP 0 rfl rfl 2 (by decide) (hts _ k_17) (fun _ h9 => h9) rfl d_M_drop_27 ?_
  refine lv_iload_n hx hb d_M_drop_30 rfl (lv_at hl 3 rfl) ?_
  refine lv_dup2_11 hx hb d_M_drop_31 rfl rfl ?_
  have hi_5 : vp_in p2 4 := by first | with_reducible assumption | exact in_name (by with_reducible assumption) | exact in4_4 (by with_reducible assumption) | exact in4_5 (by with_reducible assumption) | exact in4_6 (by with_reducible assumption) | exact in4_7 (by with_reducible assumption)
  refine va_iald (D := (dC, dI)) (f := (mm 2)) hx hb hK hP 3 2 rfl rfl hi_5 d_M_drop_32 ?_
  refine lv_iload_n hx hb d_M_drop_33 rfl (lv_at hl 0 rfl) ?_
  refine lv_iand hx hb d_M_drop_34 ?_
  have hi_6 : vp_in p2 4 := by first | with_reducible assumption | exact in_name (by with_reducible assumption) | exact in4_4 (by with_reducible assumption) | exact in4_5 (by with_reducible assumption) | exact in4_6 (by with_reducible assumption) | exact in4_7 (by with_reducible assumption)
  refine va_iast (D := (dC, dI)) (f := (mm 2)) hx hb hK hP hD hS 3 2 rfl rfl hi_6 d_M_drop_35 (fun H locs hP hD hS => ?_)
  have hP : va_P (dC, dI) classes ([(qa 0, .inr (1, [.ref (qa 1), .ref (qa 2), .ref (qa 3), .ref (qa 4), .ref (qa 5)])), (qa 1, .inl (ka 0, 4, .inl (upd (mm 0) p2.toNatClampNeg (((mm 0) p2.toNatClampNeg) &&& (((1 : Int32) <<< (p1 &&& (31 : Int32))) ^^^ (-1 : Int32)))))), (qa 2, .inl (ka 1, 4, .inl (upd (mm 1) p2.toNatClampNeg (((mm 1) p2.toNatClampNeg) &&& (((1 : Int32) <<< (p1 &&& (31 : Int32))) ^^^ (-1 : Int32)))))), (qa 3, .inl (ka 2, 4, .inl (upd (mm 2) p2.toNatClampNeg (((mm 2) p2.toNatClampNeg) &&& (((1 : Int32) <<< (p1 &&& (31 : Int32))) ^^^ (-1 : Int32)))))), (qa 4, .inl (ka 3, 4, .inl (mm 3))), (qa 5, .inl (ka 4, 52, .inl (mm 4)))] : va_W) H := hP
  have hD : va_D A ([(qa 0, .inr (1, [.ref (qa 1), .ref (qa 2), .ref (qa 3), .ref (qa 4), .ref (qa 5)])), (qa 1, .inl (ka 0, 4, .inl (upd (mm 0) p2.toNatClampNeg (((mm 0) p2.toNatClampNeg) &&& (((1 : Int32) <<< (p1 &&& (31 : Int32))) ^^^ (-1 : Int32)))))), (qa 2, .inl (ka 1, 4, .inl (upd (mm 1) p2.toNatClampNeg (((mm 1) p2.toNatClampNeg) &&& (((1 : Int32) <<< (p1 &&& (31 : Int32))) ^^^ (-1 : Int32)))))), (qa 3, .inl (ka 2, 4, .inl (upd (mm 2) p2.toNatClampNeg (((mm 2) p2.toNatClampNeg) &&& (((1 : Int32) <<< (p1 &&& (31 : Int32))) ^^^ (-1 : Int32)))))), (qa 4, .inl (ka 3, 4, .inl (mm 3))), (qa 5, .inl (ka 4, 52, .inl (mm 4)))] : va_W) := hD
  refine lv_aload_n hx hb d_M_drop_36 rfl (lv_at hl 1 rfl) ?_
  refine va_get (D := (dC, dI)) (ci := 1) (v := .ref (qa 4)) (C := R_M) (T := F_M) (N := 5) hx hb hts i_M hown hK hP 0 rfl rfl 3 (by decide) (hts _ k_19) (fun _ h9 => h9) rfl d_M_drop_37 ?_
  refine lv_iload_n hx hb d_M_drop_40 rfl (lv_at hl 3 rfl) ?_
  refine lv_dup2_11 hx hb d_M_drop_41 rfl rfl ?_
  have hi_7 : vp_in p2 4 := by first | with_reducible assumption | exact in_name (by with_reducible assumption) | exact in4_4 (by with_reducible assumption) | exact in4_5 (by with_reducible assumption) | exact in4_6 (by with_reducible assumption) | exact in4_7 (by with_reducible assumption)
  refine va_iald (D := (dC, dI)) (f := (mm 3)) hx hb hK hP 4 3 rfl rfl hi_7 d_M_drop_42 ?_
  refine lv_iload_n hx hb d_M_drop_43 rfl (lv_at hl 0 rfl) ?_
  refine lv_iand hx hb d_M_drop_44 ?_
  have hi_8 : vp_in p2 4 := by first | with_reducible assumption | exact in_name (by with_reducible assumption) | exact in4_4 (by with_reducible assumption) | exact in4_5 (by with_reducible assumption) | exact in4_6 (by with_reducible assumption) | exact in4_7 (by with_reducible assumption)
  refine va_iast (D := (dC, dI)) (f := (mm 3)) hx hb hK hP hD hS 4 3 rfl rfl hi_8 d_M_drop_45 (fun H locs hP hD hS => ?_)
  have hP : va_P (dC, dI) classes ([(qa 0, .inr (1, [.ref (qa 1), .ref (qa 2), .ref (qa 3), .ref (qa 4), .ref (qa 5)])), (qa 1, .inl (ka 0, 4, .inl (upd (mm 0) p2.toNatClampNeg (((mm 0) p2.toNatClampNeg) &&& (((1 : Int32) <<< (p1 &&& (31 : Int32))) ^^^ (-1 : Int32)))))), (qa 2, .inl (ka 1, 4, .inl (upd (mm 1) p2.toNatClampNeg (((mm 1) p2.toNatClampNeg) &&& (((1 : Int32) <<< (p1 &&& (31 : Int32))) ^^^ (-1 : Int32)))))), (qa 3, .inl (ka 2, 4, .inl (upd (mm 2) p2.toNatClampNeg (((mm 2) p2.toNatClampNeg) &&& (((1 : Int32) <<< (p1 &&& (31 : Int32))) ^^^ (-1 : Int32)))))), (qa 4, .inl (ka 3, 4, .inl (upd (mm 3) p2.toNatClampNeg (((mm 3) p2.toNatClampNeg) &&& (((1 : Int32) <<< (p1 &&& (31 : Int32))) ^^^ (-1 : Int32)))))), (qa 5, .inl (ka 4, 52, .inl (mm 4)))] : va_W) H := hP
  have hD : va_D A ([(qa 0, .inr (1, [.ref (qa 1), .ref (qa 2), .ref (qa 3), .ref (qa 4), .ref (qa 5)])), (qa 1, .inl (ka 0, 4, .inl (upd (mm 0) p2.toNatClampNeg (((mm 0) p2.toNatClampNeg) &&& (((1 : Int32) <<< (p1 &&& (31 : Int32))) ^^^ (-1 : Int32)))))), (qa 2, .inl (ka 1, 4, .inl (upd (mm 1) p2.toNatClampNeg (((mm 1) p2.toNatClampNeg) &&& (((1 : Int32) <<< (p1 &&& (31 : Int32))) ^^^ (-1 : Int32)))))), (qa 3, .inl (ka 2, 4, .inl (upd (mm 2) p2.toNatClampNeg (((mm 2) p2.toNatClampNeg) &&& (((1 : Int32) <<< (p1 &&& (31 : Int32))) ^^^ (-1 : Int32)))))), (qa 4, .inl (ka 3, 4, .inl (upd (mm 3) p2.toNatClampNeg (((mm 3) p2.toNatClampNeg) &&& (((1 : Int32) <<< (p1 &&& (31 : Int32))) ^^^ (-1 : Int32)))))), (qa 5, .inl (ka 4, 52, .inl (mm 4)))] : va_W) := hD
  have hP := wM_mk hP
  have hD := wM_mkD hD
  have hP9 : va_P (dC, dI) classes (wM ka qa (mk5 (upd (mm 0) p2.toNatClampNeg (((mm 0) p2.toNatClampNeg) &&& (((1 : Int32) <<< (p1 &&& (31 : Int32))) ^^^ (-1 : Int32)))) (upd (mm 1) p2.toNatClampNeg (((mm 1) p2.toNatClampNeg) &&& (((1 : Int32) <<< (p1 &&& (31 : Int32))) ^^^ (-1 : Int32)))) (upd (mm 2) p2.toNatClampNeg (((mm 2) p2.toNatClampNeg) &&& (((1 : Int32) <<< (p1 &&& (31 : Int32))) ^^^ (-1 : Int32)))) (upd (mm 3) p2.toNatClampNeg (((mm 3) p2.toNatClampNeg) &&& (((1 : Int32) <<< (p1 &&& (31 : Int32))) ^^^ (-1 : Int32)))) (mm 4))) H := hP
  exact W.vret hx hb hr (fun t ht hW => ⟨⟨(mk5 (upd (mm 0) p2.toNatClampNeg (((mm 0) p2.toNatClampNeg) &&& (((1 : Int32) <<< (p1 &&& (31 : Int32))) ^^^ (-1 : Int32)))) (upd (mm 1) p2.toNatClampNeg (((mm 1) p2.toNatClampNeg) &&& (((1 : Int32) <<< (p1 &&& (31 : Int32))) ^^^ (-1 : Int32)))) (upd (mm 2) p2.toNatClampNeg (((mm 2) p2.toNatClampNeg) &&& (((1 : Int32) <<< (p1 &&& (31 : Int32))) ^^^ (-1 : Int32)))) (upd (mm 3) p2.toNatClampNeg (((mm 3) p2.toNatClampNeg) &&& (((1 : Int32) <<< (p1 &&& (31 : Int32))) ^^^ (-1 : Int32)))) (mm 4)), rfl, (rfl), hp_at ht hP9⟩, hS.F ht⟩) hS.2.2 d_M_drop_46
set_option maxHeartbeats 1000000 in
set_option maxRecDepth 100000 in
theorem c_M_put (l : Launch) (dC : Nat → ClassId) (dI : Nat → Nat → Nat) (ka : Nat → ClassId) (qa : Nat → Nat) (sz : Nat) (mm : MS) (p1 p2 p3 p4 : Int32) (hp1 : vp_in p1 13) (hp2 : vp_in p2 4) : Met l y_M_put w_M_put ({ frames := 1, cells := 0, slots := 0, locals := 23 } : Room) (mu_P dC dI (wM ka qa mm) (tM ka) sz [.ref (qa 0), .int p1, .int p2, .int p3, .int p4]) (mu_Qv (fun (S9 : MS) => (wM ka qa S9)) dC dI (s_M_put mm p1 p2 p3 p4) (va_A (wM ka qa mm) sz)) 0 0 (va_A (wM ka qa mm) sz) := by
  refine Met.ofW (cc := b_M_put) (maxL := 6) (ret := none) (by decide) rfl ?_
  intro p e s m args below meth c s₁ B hml hv
  obtain ⟨rfl, hsz, hP, hK, hN, hD0⟩ := hv
  have hx := B.exec
  have hb := B.bytes
  have hr := B.returns
  have hts := tl_of (atoms_spec (ws := w_M_put) B.pre)
  have hown : s.vm.findClass R_M = some m.cls := findClass_of_methodNamed B.named
  have hlocks := B.notSynchronized
  subst hsz
  have hD := hD0.self (sz := s.heap.size)
  generalize hAe : va_A (wM ka qa mm) s.heap.size = A at hD ⊢
  have hA : ∀ q : Nat, s.heap.size ≤ q → A q := fun q h => by rw [← hAe]; exact Or.inr h
  have hS : va_S A s.heap s.heap [] := va_S.rf
  have hl := lv_entry ([.ref (qa 0), .int p1, .int p2, .int p3, .int p4]) (n := 6) (Nat.le_of_ble_eq_true rfl)
  rw [lg_entry_eq]
  generalize (lg_sl ([.ref (qa 0), .int p1, .int p2, .int p3, .int p4]) ++ List.replicate (6 - (lg_sl ([.ref (qa 0), .int p1, .int p2, .int p3, .int p4])).length) Slot.unset).toArray = ls at hl ⊢
  have hl : lv_has ls 6 [(0, .ref (qa 0)), (1, .int p1), (2, .int p2), (3, .int p3), (4, .int p4)] := hl
  refine lv_aload_n hx hb d_M_put_0 rfl (lv_at hl 0 rfl) ?_
  refine lv_iload_n hx hb d_M_put_1 rfl (lv_at hl 1 rfl) ?_
  refine lv_iload_n hx hb d_M_put_2 rfl (lv_at hl 2 rfl) ?_
  have hq_1 : vp_in p2 4 := by first | with_reducible assumption | exact in_name (by with_reducible assumption) | exact in4_4 (by with_reducible assumption) | exact in4_5 (by with_reducible assumption) | exact in4_6 (by with_reducible assumption) | exact in4_7 (by with_reducible assumption)
  have hPc := hP.sub (ws' := (wM ka qa mm)) [0, 1, 2, 3, 4, 5] rfl
  have hDc := hD.sub (ws' := (wM ka qa mm)) [0, 1, 2, 3, 4, 5] (by decide) rfl
  have hFc := va_free (wc := (wM ka qa mm)) hD hS hA [0, 1, 2, 3, 4, 5] rfl
  refine va_callv (va_runV (As := [.int p1, .int p2]) (rest := []) ⟨hx, hb, hml, hown, hts⟩ (c_M_drop l dC dI ka qa s.heap.size mm  p1 p2 hq_1) (cwV 2 hts k_g8 rfl rfl rfl (by decide +kernel) ⟨Nat.le_of_ble_eq_true rfl, Nat.le_of_ble_eq_true rfl⟩) ⟨fb_mu, va_recv hK hP (ci := 1) (q0 := 0) rfl rfl, fun U hU hW => ⟨rfl, by rw [hU], by rw [hU]; exact hPc, va_K.moved hW.alike (hK.sub (tys' := (tM ka)) [0, 1, 2, 3, 4] rfl), NX.warm hW hN, hDc.weaken (fun _ _ _ _ => trivial)⟩⟩ rfl rfl hl.1 rfl (lv_room (Nat.le_of_ble_eq_true rfl)) d_M_put_3 ⟨Nat.zero_le _, Nat.zero_le _⟩) hS (fun q _ h => hFc q h) hFc (fun u t H1 locs ht hvm hpo hB hz1 hk1 hS => ?_)
  subst hpo
  have hB : va_P (dC, dI) classes (wM ka qa (s_M_drop mm p1 p2)) H1 := hp_to ht hB
  obtain ⟨hP, hD⟩ := va_join (wr := ([] : va_W)) (w1 := (wM ka qa (s_M_drop mm p1 p2))) hP hD [0, 1, 2, 3, 4, 5] [] rfl rfl (by decide) (by decide) hk1 hFc hB (ad_D hDc.self rfl)
  have hP := hP.sub (ws' := (wM ka qa (s_M_drop mm p1 p2))) [0, 1, 2, 3, 4, 5] rfl
  have hD := hD.sub (ws' := (wM ka qa (s_M_drop mm p1 p2))) [0, 1, 2, 3, 4, 5] (by decide) rfl
  generalize hS_2 : (s_M_drop mm p1 p2) = S_2 at hP hD
  generalize H1 = H at hP hS ⊢
  refine lv_iconst (v := (1 : Int32)) hx hb d_M_put_6 (by decide +kernel) ?_
  refine lv_iload_n hx hb d_M_put_7 rfl (lv_at hl 1 rfl) ?_
  refine lv_ishl hx hb d_M_put_8 ?_
  refine lv_istore (lv' := [(5, .int ((1 : Int32) <<< (p1 &&& (31 : Int32)))), (0, .ref (qa 0)), (1, .int p1), (2, .int p2), (3, .int p3), (4, .int p4)]) hx hb d_M_put_9 hl (by decide) rfl (fun ls hl => ?_)
  refine lv_aload_n hx hb d_M_put_11 rfl (lv_at hl 1 rfl) ?_
  refine va_get (D := (dC, dI)) (ci := 1) (v := .ref (qa 1)) (C := R_M) (T := F_M) (N := 5) hx hb hts i_M hown hK hP 0 rfl rfl 0 (by decide) (hts _ k_16) (fun _ h9 => h9) rfl d_M_put_12 ?_
  refine lv_iload_n hx hb d_M_put_15 rfl (lv_at hl 3 rfl) ?_
  refine lv_dup2_11 hx hb d_M_put_16 rfl rfl ?_
  have hi_3 : vp_in p2 4 := by first | with_reducible assumption | exact in_name (by with_reducible assumption) | exact in4_4 (by with_reducible assumption) | exact in4_5 (by with_reducible assumption) | exact in4_6 (by with_reducible assumption) | exact in4_7 (by with_reducible assumption)
  refine va_iald (D := (dC, dI)) (f := (S_2 0)) hx hb hK hP 1 0 rfl rfl hi_3 d_M_put_17 ?_
  refine lv_iload hx hb d_M_put_18 (lv_at hl 0 rfl) ?_
  refine lv_ior hx hb d_M_put_20 ?_
  have hi_4 : vp_in p2 4 := by first | with_reducible assumption | exact in_name (by with_reducible assumption) | exact in4_4 (by with_reducible assumption) | exact in4_5 (by with_reducible assumption) | exact in4_6 (by with_reducible assumption) | exact in4_7 (by with_reducible assumption)
  refine va_iast (D := (dC, dI)) (f := (S_2 0)) hx hb hK hP hD hS 1 0 rfl rfl hi_4 d_M_put_21 (fun H locs hP hD hS => ?_)
  have hP : va_P (dC, dI) classes ([(qa 0, .inr (1, [.ref (qa 1), .ref (qa 2), .ref (qa 3), .ref (qa 4), .ref (qa 5)])), (qa 1, .inl (ka 0, 4, .inl (upd (S_2 0) p2.toNatClampNeg (((S_2 0) p2.toNatClampNeg) ||| ((1 : Int32) <<< (p1 &&& (31 : Int32))))))), (qa 2, .inl (ka 1, 4, .inl (S_2 1))), (qa 3, .inl (ka 2, 4, .inl (S_2 2))), (qa 4, .inl (ka 3, 4, .inl (S_2 3))), (qa 5, .inl (ka 4, 52, .inl (S_2 4)))] : va_W) H := hP
  have hD : va_D A ([(qa 0, .inr (1, [.ref (qa 1), .ref (qa 2), .ref (qa 3), .ref (qa 4), .ref (qa 5)])), (qa 1, .inl (ka 0, 4, .inl (upd (S_2 0) p2.toNatClampNeg (((S_2 0) p2.toNatClampNeg) ||| ((1 : Int32) <<< (p1 &&& (31 : Int32))))))), (qa 2, .inl (ka 1, 4, .inl (S_2 1))), (qa 3, .inl (ka 2, 4, .inl (S_2 2))), (qa 4, .inl (ka 3, 4, .inl (S_2 3))), (qa 5, .inl (ka 4, 52, .inl (S_2 4)))] : va_W) := hD
  refine lv_iload hx hb d_M_put_22 (lv_at hl 5 rfl) ?_
  refine lv_iconst (v := (1 : Int32)) hx hb d_M_put_24 (by decide +kernel) ?_
  refine lv_icmp_ne (tgt := 39) hx hb d_M_put_25 (by decide) (fun c_5 => ?_) (fun c_5 => ?_)
  · have c_5 : ¬ (p4 = (1 : Int32)) := c_5
    refine lv_iload hx hb d_M_put_39 (lv_at hl 5 rfl) ?_
    refine lv_iconst (v := (2 : Int32)) hx hb d_M_put_41 (by decide +kernel) ?_
    refine lv_icmp_ne (tgt := 56) hx hb d_M_put_42 (by decide) (fun c_6 => ?_) (fun c_6 => ?_)
    · have c_6 : ¬ (p4 = (2 : Int32)) := c_6
      refine lv_iload_n hx hb d_M_put_56 rfl (lv_at hl 4 rfl) ?_
      refine lv_if_ne (tgt := 71) hx hb d_M_put_57 (by decide) (fun c_7 => ?_) (fun c_7 => ?_)
      · have c_7 : ¬ (p3 = (0 : Int32)) := c_7
        refine lv_aload_n hx hb d_M_put_71 rfl (lv_at hl 1 rfl) ?_
        refine va_get (D := (dC, dI)) (ci := 1) (v := .ref (qa 5)) (C := R_M) (T := F_M) (N := 5) hx hb hts i_M hown hK hP 0 rfl rfl 4 (by decide) (hts _ k_21) (fun _ h9 => h9) rfl d_M_put_72 ?_
        refine lv_iload_n hx hb d_M_put_75 rfl (lv_at hl 2 rfl) ?_
        refine lv_iconst (v := (4 : Int32)) hx hb d_M_put_76 (by decide +kernel) ?_
        refine lv_imul hx hb d_M_put_77 ?_
        refine lv_iload_n hx hb d_M_put_78 rfl (lv_at hl 3 rfl) ?_
        refine lv_iadd hx hb d_M_put_79 ?_
        refine lv_iload_n hx hb d_M_put_80 rfl (lv_at hl 4 rfl) ?_
        have hi_8 : vp_in ((p1 * (4 : Int32)) + p2) 52 := by first | with_reducible assumption | exact in_52 (by first | with_reducible assumption | exact in_has hw (by with_reducible assumption) | exact in_cls hw (by with_reducible assumption) | exact in_ifc hw (by with_reducible assumption) | exact in_ext hw (by with_reducible assumption) | exact in_eq0 (by with_reducible assumption) | exact hfd (by with_reducible assumption) | exact in_rcv hw (by with_reducible assumption) (Or.inl (by with_reducible assumption)) | exact in_rcv hw (by with_reducible assumption) (Or.inr (by with_reducible assumption))) (by first | with_reducible assumption | exact in_name (by with_reducible assumption) | exact in4_4 (by with_reducible assumption) | exact in4_5 (by with_reducible assumption) | exact in4_6 (by with_reducible assumption) | exact in4_7 (by with_reducible assumption))
        refine va_iast (D := (dC, dI)) (f := (S_2 4)) hx hb hK hP hD hS 5 4 rfl rfl hi_8 d_M_put_81 (fun H locs hP hD hS => ?_)
        have hP : va_P (dC, dI) classes ([(qa 0, .inr (1, [.ref (qa 1), .ref (qa 2), .ref (qa 3), .ref (qa 4), .ref (qa 5)])), (qa 1, .inl (ka 0, 4, .inl (upd (S_2 0) p2.toNatClampNeg (((S_2 0) p2.toNatClampNeg) ||| ((1 : Int32) <<< (p1 &&& (31 : Int32))))))), (qa 2, .inl (ka 1, 4, .inl (S_2 1))), (qa 3, .inl (ka 2, 4, .inl (S_2 2))), (qa 4, .inl (ka 3, 4, .inl (S_2 3))), (qa 5, .inl (ka 4, 52, .inl (upd (S_2 4) ((p1 * (4 : Int32)) + p2).toNatClampNeg p3)))] : va_W) H := hP
        have hD : va_D A ([(qa 0, .inr (1, [.ref (qa 1), .ref (qa 2), .ref (qa 3), .ref (qa 4), .ref (qa 5)])), (qa 1, .inl (ka 0, 4, .inl (upd (S_2 0) p2.toNatClampNeg (((S_2 0) p2.toNatClampNeg) ||| ((1 : Int32) <<< (p1 &&& (31 : Int32))))))), (qa 2, .inl (ka 1, 4, .inl (S_2 1))), (qa 3, .inl (ka 2, 4, .inl (S_2 2))), (qa 4, .inl (ka 3, 4, .inl (S_2 3))), (qa 5, .inl (ka 4, 52, .inl (upd (S_2 4) ((p1 * (4 : Int32)) + p2).toNatClampNeg p3)))] : va_W) := hD
        have hP := wM_mk hP
        have hD := wM_mkD hD
        have hP9 : va_P (dC, dI) classes (wM ka qa (mk5 (upd (S_2 0) p2.toNatClampNeg (((S_2 0) p2.toNatClampNeg) ||| ((1 : Int32) <<< (p1 &&& (31 : Int32))))) (S_2 1) (S_2 2) (S_2 3) (upd (S_2 4) ((p1 * (4 : Int32)) + p2).toNatClampNeg p3))) H := hP
        exact W.vret hx hb hr (fun t ht hW => ⟨⟨(mk5 (upd (S_2 0) p2.toNatClampNeg (((S_2 0) p2.toNatClampNeg) ||| ((1 : Int32) <<< (p1 &&& (31 : Int32))))) (S_2 1) (S_2 2) (S_2 3) (upd (S_2 4) ((p1 * (4 : Int32)) + p2).toNatClampNeg p3)), rfl, (by subst hS_2; unfold s_M_put; rw [if_neg c_5, if_neg c_6, if_neg c_7]), hp_at ht hP9⟩, hS.F ht⟩) hS.2.2 d_M_put_82
      · have c_7 : p3 = (0 : Int32) := c_7
        refine lv_aload_n hx hb d_M_put_60 rfl (lv_at hl 1 rfl) ?_
        refine va_get (D := (dC, dI)) (ci := 1) (v := .ref (qa 4)) (C := R_M) (T := F_M) (N := 5) hx hb hts i_M hown hK hP 0 rfl rfl 3 (by decide) (hts _ k_19) (fun _ h9 => h9) rfl d_M_put_61 ?_
        refine lv_iload_n hx hb d_M_put_64 rfl (lv_at hl 3 rfl) ?_
        refine lv_dup2_11 hx hb d_M_put_65 rfl rfl ?_
        have hi_9 : vp_in p2 4 := by first | with_reducible assumption | exact in_name (by with_reducible assumption) | exact in4_4 (by with_reducible assumption) | exact in4_5 (by with_reducible assumption) | exact in4_6 (by with_reducible assumption) | exact in4_7 (by with_reducible assumption)
        refine va_iald (D := (dC, dI)) (f := (S_2 3)) hx hb hK hP 4 3 rfl rfl hi_9 d_M_put_66 ?_
        refine lv_iload hx hb d_M_put_67 (lv_at hl 0 rfl) ?_
        refine lv_ior hx hb d_M_put_69 ?_
        have hi_10 : vp_in p2 4 := by first | with_reducible assumption | exact in_name (by with_reducible assumption) | exact in4_4 (by with_reducible assumption) | exact in4_5 (by with_reducible assumption) | exact in4_6 (by with_reducible assumption) | exact in4_7 (by with_reducible assumption)
        refine va_iast (D := (dC, dI)) (f := (S_2 3)) hx hb hK hP hD hS 4 3 rfl rfl hi_10 d_M_put_70 (fun H locs hP hD hS => ?_)
        have hP : va_P (dC, dI) classes ([(qa 0, .inr (1, [.ref (qa 1), .ref (qa 2), .ref (qa 3), .ref (qa 4), .ref (qa 5)])), (qa 1, .inl (ka 0, 4, .inl (upd (S_2 0) p2.toNatClampNeg (((S_2 0) p2.toNatClampNeg) ||| ((1 : Int32) <<< (p1 &&& (31 : Int32))))))), (qa 2, .inl (ka 1, 4, .inl (S_2 1))), (qa 3, .inl (ka 2, 4, .inl (S_2 2))), (qa 4, .inl (ka 3, 4, .inl (upd (S_2 3) p2.toNatClampNeg (((S_2 3) p2.toNatClampNeg) ||| ((1 : Int32) <<< (p1 &&& (31 : Int32))))))), (qa 5, .inl (ka 4, 52, .inl (S_2 4)))] : va_W) H := hP
        have hD : va_D A ([(qa 0, .inr (1, [.ref (qa 1), .ref (qa 2), .ref (qa 3), .ref (qa 4), .ref (qa 5)])), (qa 1, .inl (ka 0, 4, .inl (upd (S_2 0) p2.toNatClampNeg (((S_2 0) p2.toNatClampNeg) ||| ((1 : Int32) <<< (p1 &&& (31 : Int32))))))), (qa 2, .inl (ka 1, 4, .inl (S_2 1))), (qa 3, .inl (ka 2, 4, .inl (S_2 2))), (qa 4, .inl (ka 3, 4, .inl (upd (S_2 3) p2.toNatClampNeg (((S_2 3) p2.toNatClampNeg) ||| ((1 : Int32) <<< (p1 &&& (31 : Int32))))))), (qa 5, .inl (ka 4, 52, .inl (S_2 4)))] : va_W) := hD
        refine lv_aload_n hx hb d_M_put_71 rfl (lv_at hl 1 rfl) ?_
        refine va_get (D := (dC, dI)) (ci := 1) (v := .ref (qa 5)) (C := R_M) (T := F_M) (N := 5) hx hb hts i_M hown hK hP 0 rfl rfl 4 (by decide) (hts _ k_21) (fun _ h9 => h9) rfl d_M_put_72 ?_
        refine lv_iload_n hx hb d_M_put_75 rfl (lv_at hl 2 rfl) ?_
        refine lv_iconst (v := (4 : Int32)) hx hb d_M_put_76 (by decide +kernel) ?_
        refine lv_imul hx hb d_M_put_77 ?_
        refine lv_iload_n hx hb d_M_put_78 rfl (lv_at hl 3 rfl) ?_
        refine lv_iadd hx hb d_M_put_79 ?_
        refine lv_iload_n hx hb d_M_put_80 rfl (lv_at hl 4 rfl) ?_
        have hi_11 : vp_in ((p1 * (4 : Int32)) + p2) 52 := by first | with_reducible assumption | exact in_52 (by first | with_reducible assumption | exact in_has hw (by with_reducible assumption) | exact in_cls hw (by with_reducible assumption) | exact in_ifc hw (by with_reducible assumption) | exact in_ext hw (by with_reducible assumption) | exact in_eq0 (by with_reducible assumption) | exact hfd (by with_reducible assumption) | exact in_rcv hw (by with_reducible assumption) (Or.inl (by with_reducible assumption)) | exact in_rcv hw (by with_reducible assumption) (Or.inr (by with_reducible assumption))) (by first | with_reducible assumption | exact in_name (by with_reducible assumption) | exact in4_4 (by with_reducible assumption) | exact in4_5 (by with_reducible assumption) | exact in4_6 (by with_reducible assumption) | exact in4_7 (by with_reducible assumption))
        refine va_iast (D := (dC, dI)) (f := (S_2 4)) hx hb hK hP hD hS 5 4 rfl rfl hi_11 d_M_put_81 (fun H locs hP hD hS => ?_)
        have hP : va_P (dC, dI) classes ([(qa 0, .inr (1, [.ref (qa 1), .ref (qa 2), .ref (qa 3), .ref (qa 4), .ref (qa 5)])), (qa 1, .inl (ka 0, 4, .inl (upd (S_2 0) p2.toNatClampNeg (((S_2 0) p2.toNatClampNeg) ||| ((1 : Int32) <<< (p1 &&& (31 : Int32))))))), (qa 2, .inl (ka 1, 4, .inl (S_2 1))), (qa 3, .inl (ka 2, 4, .inl (S_2 2))), (qa 4, .inl (ka 3, 4, .inl (upd (S_2 3) p2.toNatClampNeg (((S_2 3) p2.toNatClampNeg) ||| ((1 : Int32) <<< (p1 &&& (31 : Int32))))))), (qa 5, .inl (ka 4, 52, .inl (upd (S_2 4) ((p1 * (4 : Int32)) + p2).toNatClampNeg p3)))] : va_W) H := hP
        have hD : va_D A ([(qa 0, .inr (1, [.ref (qa 1), .ref (qa 2), .ref (qa 3), .ref (qa 4), .ref (qa 5)])), (qa 1, .inl (ka 0, 4, .inl (upd (S_2 0) p2.toNatClampNeg (((S_2 0) p2.toNatClampNeg) ||| ((1 : Int32) <<< (p1 &&& (31 : Int32))))))), (qa 2, .inl (ka 1, 4, .inl (S_2 1))), (qa 3, .inl (ka 2, 4, .inl (S_2 2))), (qa 4, .inl (ka 3, 4, .inl (upd (S_2 3) p2.toNatClampNeg (((S_2 3) p2.toNatClampNeg) ||| ((1 : Int32) <<< (p1 &&& (31 : Int32))))))), (qa 5, .inl (ka 4, 52, .inl (upd (S_2 4) ((p1 * (4 : Int32)) + p2).toNatClampNeg p3)))] : va_W) := hD
        have hP := wM_mk hP
        have hD := wM_mkD hD
        have hP9 : va_P (dC, dI) classes (wM ka qa (mk5 (upd (S_2 0) p2.toNatClampNeg (((S_2 0) p2.toNatClampNeg) ||| ((1 : Int32) <<< (p1 &&& (31 : Int32))))) (S_2 1) (S_2 2) (upd (S_2 3) p2.toNatClampNeg (((S_2 3) p2.toNatClampNeg) ||| ((1 : Int32) <<< (p1 &&& (31 : Int32))))) (upd (S_2 4) ((p1 * (4 : Int32)) + p2).toNatClampNeg p3))) H := hP
        exact W.vret hx hb hr (fun t ht hW => ⟨⟨(mk5 (upd (S_2 0) p2.toNatClampNeg (((S_2 0) p2.toNatClampNeg) ||| ((1 : Int32) <<< (p1 &&& (31 : Int32))))) (S_2 1) (S_2 2) (upd (S_2 3) p2.toNatClampNeg (((S_2 3) p2.toNatClampNeg) ||| ((1 : Int32) <<< (p1 &&& (31 : Int32))))) (upd (S_2 4) ((p1 * (4 : Int32)) + p2).toNatClampNeg p3)), rfl, (by subst hS_2; unfold s_M_put; rw [if_neg c_5, if_neg c_6, if_pos c_7]), hp_at ht hP9⟩, hS.F ht⟩) hS.2.2 d_M_put_82
    · have c_6 : p4 = (2 : Int32) := c_6
      refine lv_aload_n hx hb d_M_put_45 rfl (lv_at hl 1 rfl) ?_
      refine va_get (D := (dC, dI)) (ci := 1) (v := .ref (qa 3)) (C := R_M) (T := F_M) (N := 5) hx hb hts i_M hown hK hP 0 rfl rfl 2 (by decide) (hts _ k_17) (fun _ h9 => h9) rfl d_M_put_46 ?_
      refine lv_iload_n hx hb d_M_put_49 rfl (lv_at hl 3 rfl) ?_
      refine lv_dup2_11 hx hb d_M_put_50 rfl rfl ?_
      have hi_12 : vp_in p2 4 := by first | with_reducible assumption | exact in_name (by with_reducible assumption) | exact in4_4 (by with_reducible assumption) | exact in4_5 (by with_reducible assumption) | exact in4_6 (by with_reducible assumption) | exact in4_7 (by with_reducible assumption)
      refine va_iald (D := (dC, dI)) (f := (S_2 2)) hx hb hK hP 3 2 rfl rfl hi_12 d_M_put_51 ?_
      refine lv_iload hx hb d_M_put_52 (lv_at hl 0 rfl) ?_
      refine lv_ior hx hb d_M_put_54 ?_
      have hi_13 : vp_in p2 4 := by first | with_reducible assumption | exact in_name (by with_reducible assumption) | exact in4_4 (by with_reducible assumption) | exact in4_5 (by with_reducible assumption) | exact in4_6 (by with_reducible assumption) | exact in4_7 (by with_reducible assumption)
      refine va_iast (D := (dC, dI)) (f := (S_2 2)) hx hb hK hP hD hS 3 2 rfl rfl hi_13 d_M_put_55 (fun H locs hP hD hS => ?_)
      have hP : va_P (dC, dI) classes ([(qa 0, .inr (1, [.ref (qa 1), .ref (qa 2), .ref (qa 3), .ref (qa 4), .ref (qa 5)])), (qa 1, .inl (ka 0, 4, .inl (upd (S_2 0) p2.toNatClampNeg (((S_2 0) p2.toNatClampNeg) ||| ((1 : Int32) <<< (p1 &&& (31 : Int32))))))), (qa 2, .inl (ka 1, 4, .inl (S_2 1))), (qa 3, .inl (ka 2, 4, .inl (upd (S_2 2) p2.toNatClampNeg (((S_2 2) p2.toNatClampNeg) ||| ((1 : Int32) <<< (p1 &&& (31 : Int32))))))), (qa 4, .inl (ka 3, 4, .inl (S_2 3))), (qa 5, .inl (ka 4, 52, .inl (S_2 4)))] : va_W) H := hP
      have hD : va_D A ([(qa 0, .inr (1, [.ref (qa 1), .ref (qa 2), .ref (qa 3), .ref (qa 4), .ref (qa 5)])), (qa 1, .inl (ka 0, 4, .inl (upd (S_2 0) p2.toNatClampNeg (((S_2 0) p2.toNatClampNeg) ||| ((1 : Int32) <<< (p1 &&& (31 : Int32))))))), (qa 2, .inl (ka 1, 4, .inl (S_2 1))), (qa 3, .inl (ka 2, 4, .inl (upd (S_2 2) p2.toNatClampNeg (((S_2 2) p2.toNatClampNeg) ||| ((1 : Int32) <<< (p1 &&& (31 : Int32))))))), (qa 4, .inl (ka 3, 4, .inl (S_2 3))), (qa 5, .inl (ka 4, 52, .inl (S_2 4)))] : va_W) := hD
      refine lv_iload_n hx hb d_M_put_56 rfl (lv_at hl 4 rfl) ?_
      refine lv_if_ne (tgt := 71) hx hb d_M_put_57 (by decide) (fun c_14 => ?_) (fun c_14 => ?_)
      · have c_14 : ¬ (p3 = (0 : Int32)) := c_14
        refine lv_aload_n hx hb d_M_put_71 rfl (lv_at hl 1 rfl) ?_
        refine va_get (D := (dC, dI)) (ci := 1) (v := .ref (qa 5)) (C := R_M) (T := F_M) (N := 5) hx hb hts i_M hown hK hP 0 rfl rfl 4 (by decide) (hts _ k_21) (fun _ h9 => h9) rfl d_M_put_72 ?_
        refine lv_iload_n hx hb d_M_put_75 rfl (lv_at hl 2 rfl) ?_
        refine lv_iconst (v := (4 : Int32)) hx hb d_M_put_76 (by decide +kernel) ?_
        refine lv_imul hx hb d_M_put_77 ?_
        refine lv_iload_n hx hb d_M_put_78 rfl (lv_at hl 3 rfl) ?_
        refine lv_iadd hx hb d_M_put_79 ?_
        refine lv_iload_n hx hb d_M_put_80 rfl (lv_at hl 4 rfl) ?_
        have hi_15 : vp_in ((p1 * (4 : Int32)) + p2) 52 := by first | with_reducible assumption | exact in_52 (by first | with_reducible assumption | exact in_has hw (by with_reducible assumption) | exact in_cls hw (by with_reducible assumption) | exact in_ifc hw (by with_reducible assumption) | exact in_ext hw (by with_reducible assumption) | exact in_eq0 (by with_reducible assumption) | exact hfd (by with_reducible assumption) | exact in_rcv hw (by with_reducible assumption) (Or.inl (by with_reducible assumption)) | exact in_rcv hw (by with_reducible assumption) (Or.inr (by with_reducible assumption))) (by first | with_reducible assumption | exact in_name (by with_reducible assumption) | exact in4_4 (by with_reducible assumption) | exact in4_5 (by with_reducible assumption) | exact in4_6 (by with_reducible assumption) | exact in4_7 (by with_reducible assumption))
        refine va_iast (D := (dC, dI)) (f := (S_2 4)) hx hb hK hP hD hS 5 4 rfl rfl hi_15 d_M_put_81 (fun H locs hP hD hS => ?_)
        have hP : va_P (dC, dI) classes ([(qa 0, .inr (1, [.ref (qa 1), .ref (qa 2), .ref (qa 3), .ref (qa 4), .ref (qa 5)])), (qa 1, .inl (ka 0, 4, .inl (upd (S_2 0) p2.toNatClampNeg (((S_2 0) p2.toNatClampNeg) ||| ((1 : Int32) <<< (p1 &&& (31 : Int32))))))), (qa 2, .inl (ka 1, 4, .inl (S_2 1))), (qa 3, .inl (ka 2, 4, .inl (upd (S_2 2) p2.toNatClampNeg (((S_2 2) p2.toNatClampNeg) ||| ((1 : Int32) <<< (p1 &&& (31 : Int32))))))), (qa 4, .inl (ka 3, 4, .inl (S_2 3))), (qa 5, .inl (ka 4, 52, .inl (upd (S_2 4) ((p1 * (4 : Int32)) + p2).toNatClampNeg p3)))] : va_W) H := hP
        have hD : va_D A ([(qa 0, .inr (1, [.ref (qa 1), .ref (qa 2), .ref (qa 3), .ref (qa 4), .ref (qa 5)])), (qa 1, .inl (ka 0, 4, .inl (upd (S_2 0) p2.toNatClampNeg (((S_2 0) p2.toNatClampNeg) ||| ((1 : Int32) <<< (p1 &&& (31 : Int32))))))), (qa 2, .inl (ka 1, 4, .inl (S_2 1))), (qa 3, .inl (ka 2, 4, .inl (upd (S_2 2) p2.toNatClampNeg (((S_2 2) p2.toNatClampNeg) ||| ((1 : Int32) <<< (p1 &&& (31 : Int32))))))), (qa 4, .inl (ka 3, 4, .inl (S_2 3))), (qa 5, .inl (ka 4, 52, .inl (upd (S_2 4) ((p1 * (4 : Int32)) + p2).toNatClampNeg p3)))] : va_W) := hD
        have hP := wM_mk hP
        have hD := wM_mkD hD
        have hP9 : va_P (dC, dI) classes (wM ka qa (mk5 (upd (S_2 0) p2.toNatClampNeg (((S_2 0) p2.toNatClampNeg) ||| ((1 : Int32) <<< (p1 &&& (31 : Int32))))) (S_2 1) (upd (S_2 2) p2.toNatClampNeg (((S_2 2) p2.toNatClampNeg) ||| ((1 : Int32) <<< (p1 &&& (31 : Int32))))) (S_2 3) (upd (S_2 4) ((p1 * (4 : Int32)) + p2).toNatClampNeg p3))) H := hP
        exact W.vret hx hb hr (fun t ht hW => ⟨⟨(mk5 (upd (S_2 0) p2.toNatClampNeg (((S_2 0) p2.toNatClampNeg) ||| ((1 : Int32) <<< (p1 &&& (31 : Int32))))) (S_2 1) (upd (S_2 2) p2.toNatClampNeg (((S_2 2) p2.toNatClampNeg) ||| ((1 : Int32) <<< (p1 &&& (31 : Int32))))) (S_2 3) (upd (S_2 4) ((p1 * (4 : Int32)) + p2).toNatClampNeg p3)), rfl, (by subst hS_2; unfold s_M_put; rw [if_neg c_5, if_pos c_6, if_neg c_14]), hp_at ht hP9⟩, hS.F ht⟩) hS.2.2 d_M_put_82
      · have c_14 : p3 = (0 : Int32) := c_14
        refine lv_aload_n hx hb d_M_put_60 rfl (lv_at hl 1 rfl) ?_
        refine va_get (D := (dC, dI)) (ci := 1) (v := .ref (qa 4)) (C := R_M) (T := F_M) (N := 5) hx hb hts i_M hown hK hP 0 rfl rfl 3 (by decide) (hts _ k_19) (fun _ h9 => h9) rfl d_M_put_61 ?_
        refine lv_iload_n hx hb d_M_put_64 rfl (lv_at hl 3 rfl) ?_
        refine lv_dup2_11 hx hb d_M_put_65 rfl rfl ?_
        have hi_16 : vp_in p2 4 := by first | with_reducible assumption | exact in_name (by with_reducible assumption) | exact in4_4 (by with_reducible assumption) | exact in4_5 (by with_reducible assumption) | exact in4_6 (by with_reducible assumption) | exact in4_7 (by with_reducible assumption)
        refine va_iald (D := (dC, dI)) (f := (S_2 3)) hx hb hK hP 4 3 rfl rfl hi_16 d_M_put_66 ?_
        refine lv_iload hx hb d_M_put_67 (lv_at hl 0 rfl) ?_
        refine lv_ior hx hb d_M_put_69 ?_
        have hi_17 : vp_in p2 4 := by first | with_reducible assumption | exact in_name (by with_reducible assumption) | exact in4_4 (by with_reducible assumption) | exact in4_5 (by with_reducible assumption) | exact in4_6 (by with_reducible assumption) | exact in4_7 (by with_reducible assumption)
        refine va_iast (D := (dC, dI)) (f := (S_2 3)) hx hb hK hP hD hS 4 3 rfl rfl hi_17 d_M_put_70 (fun H locs hP hD hS => ?_)
        have hP : va_P (dC, dI) classes ([(qa 0, .inr (1, [.ref (qa 1), .ref (qa 2), .ref (qa 3), .ref (qa 4), .ref (qa 5)])), (qa 1, .inl (ka 0, 4, .inl (upd (S_2 0) p2.toNatClampNeg (((S_2 0) p2.toNatClampNeg) ||| ((1 : Int32) <<< (p1 &&& (31 : Int32))))))), (qa 2, .inl (ka 1, 4, .inl (S_2 1))), (qa 3, .inl (ka 2, 4, .inl (upd (S_2 2) p2.toNatClampNeg (((S_2 2) p2.toNatClampNeg) ||| ((1 : Int32) <<< (p1 &&& (31 : Int32))))))), (qa 4, .inl (ka 3, 4, .inl (upd (S_2 3) p2.toNatClampNeg (((S_2 3) p2.toNatClampNeg) ||| ((1 : Int32) <<< (p1 &&& (31 : Int32))))))), (qa 5, .inl (ka 4, 52, .inl (S_2 4)))] : va_W) H := hP
        have hD : va_D A ([(qa 0, .inr (1, [.ref (qa 1), .ref (qa 2), .ref (qa 3), .ref (qa 4), .ref (qa 5)])), (qa 1, .inl (ka 0, 4, .inl (upd (S_2 0) p2.toNatClampNeg (((S_2 0) p2.toNatClampNeg) ||| ((1 : Int32) <<< (p1 &&& (31 : Int32))))))), (qa 2, .inl (ka 1, 4, .inl (S_2 1))), (qa 3, .inl (ka 2, 4, .inl (upd (S_2 2) p2.toNatClampNeg (((S_2 2) p2.toNatClampNeg) ||| ((1 : Int32) <<< (p1 &&& (31 : Int32))))))), (qa 4, .inl (ka 3, 4, .inl (upd (S_2 3) p2.toNatClampNeg (((S_2 3) p2.toNatClampNeg) ||| ((1 : Int32) <<< (p1 &&& (31 : Int32))))))), (qa 5, .inl (ka 4, 52, .inl (S_2 4)))] : va_W) := hD
        refine lv_aload_n hx hb d_M_put_71 rfl (lv_at hl 1 rfl) ?_
        refine va_get (D := (dC, dI)) (ci := 1) (v := .ref (qa 5)) (C := R_M) (T := F_M) (N := 5) hx hb hts i_M hown hK hP 0 rfl rfl 4 (by decide) (hts _ k_21) (fun _ h9 => h9) rfl d_M_put_72 ?_
        refine lv_iload_n hx hb d_M_put_75 rfl (lv_at hl 2 rfl) ?_
        refine lv_iconst (v := (4 : Int32)) hx hb d_M_put_76 (by decide +kernel) ?_
        refine lv_imul hx hb d_M_put_77 ?_
        refine lv_iload_n hx hb d_M_put_78 rfl (lv_at hl 3 rfl) ?_
        refine lv_iadd hx hb d_M_put_79 ?_
        refine lv_iload_n hx hb d_M_put_80 rfl (lv_at hl 4 rfl) ?_
        have hi_18 : vp_in ((p1 * (4 : Int32)) + p2) 52 := by first | with_reducible assumption | exact in_52 (by first | with_reducible assumption | exact in_has hw (by with_reducible assumption) | exact in_cls hw (by with_reducible assumption) | exact in_ifc hw (by with_reducible assumption) | exact in_ext hw (by with_reducible assumption) | exact in_eq0 (by with_reducible assumption) | exact hfd (by with_reducible assumption) | exact in_rcv hw (by with_reducible assumption) (Or.inl (by with_reducible assumption)) | exact in_rcv hw (by with_reducible assumption) (Or.inr (by with_reducible assumption))) (by first | with_reducible assumption | exact in_name (by with_reducible assumption) | exact in4_4 (by with_reducible assumption) | exact in4_5 (by with_reducible assumption) | exact in4_6 (by with_reducible assumption) | exact in4_7 (by with_reducible assumption))
        refine va_iast (D := (dC, dI)) (f := (S_2 4)) hx hb hK hP hD hS 5 4 rfl rfl hi_18 d_M_put_81 (fun H locs hP hD hS => ?_)
        have hP : va_P (dC, dI) classes ([(qa 0, .inr (1, [.ref (qa 1), .ref (qa 2), .ref (qa 3), .ref (qa 4), .ref (qa 5)])), (qa 1, .inl (ka 0, 4, .inl (upd (S_2 0) p2.toNatClampNeg (((S_2 0) p2.toNatClampNeg) ||| ((1 : Int32) <<< (p1 &&& (31 : Int32))))))), (qa 2, .inl (ka 1, 4, .inl (S_2 1))), (qa 3, .inl (ka 2, 4, .inl (upd (S_2 2) p2.toNatClampNeg (((S_2 2) p2.toNatClampNeg) ||| ((1 : Int32) <<< (p1 &&& (31 : Int32))))))), (qa 4, .inl (ka 3, 4, .inl (upd (S_2 3) p2.toNatClampNeg (((S_2 3) p2.toNatClampNeg) ||| ((1 : Int32) <<< (p1 &&& (31 : Int32))))))), (qa 5, .inl (ka 4, 52, .inl (upd (S_2 4) ((p1 * (4 : Int32)) + p2).toNatClampNeg p3)))] : va_W) H := hP
        have hD : va_D A ([(qa 0, .inr (1, [.ref (qa 1), .ref (qa 2), .ref (qa 3), .ref (qa 4), .ref (qa 5)])), (qa 1, .inl (ka 0, 4, .inl (upd (S_2 0) p2.toNatClampNeg (((S_2 0) p2.toNatClampNeg) ||| ((1 : Int32) <<< (p1 &&& (31 : Int32))))))), (qa 2, .inl (ka 1, 4, .inl (S_2 1))), (qa 3, .inl (ka 2, 4, .inl (upd (S_2 2) p2.toNatClampNeg (((S_2 2) p2.toNatClampNeg) ||| ((1 : Int32) <<< (p1 &&& (31 : Int32))))))), (qa 4, .inl (ka 3, 4, .inl (upd (S_2 3) p2.toNatClampNeg (((S_2 3) p2.toNatClampNeg) ||| ((1 : Int32) <<< (p1 &&& (31 : Int32))))))), (qa 5, .inl (ka 4, 52, .inl (upd (S_2 4) ((p1 * (4 : Int32)) + p2).toNatClampNeg p3)))] : va_W) := hD
        have hP := wM_mk hP
        have hD := wM_mkD hD
        have hP9 : va_P (dC, dI) classes (wM ka qa (mk5 (upd (S_2 0) p2.toNatClampNeg (((S_2 0) p2.toNatClampNeg) ||| ((1 : Int32) <<< (p1 &&& (31 : Int32))))) (S_2 1) (upd (S_2 2) p2.toNatClampNeg (((S_2 2) p2.toNatClampNeg) ||| ((1 : Int32) <<< (p1 &&& (31 : Int32))))) (upd (S_2 3) p2.toNatClampNeg (((S_2 3) p2.toNatClampNeg) ||| ((1 : Int32) <<< (p1 &&& (31 : Int32))))) (upd (S_2 4) ((p1 * (4 : Int32)) + p2).toNatClampNeg p3))) H := hP
        exact W.vret hx hb hr (fun t ht hW => ⟨⟨(mk5 (upd (S_2 0) p2.toNatClampNeg (((S_2 0) p2.toNatClampNeg) ||| ((1 : Int32) <<< (p1 &&& (31 : Int32))))) (S_2 1) (upd (S_2 2) p2.toNatClampNeg (((S_2 2) p2.toNatClampNeg) ||| ((1 : Int32) <<< (p1 &&& (31 : Int32))))) (upd (S_2 3) p2.toNatClampNeg (((S_2 3) p2.toNatClampNeg) ||| ((1 : Int32) <<< (p1 &&& (31 : Int32))))) (upd (S_2 4) ((p1 * (4 : Int32)) + p2).toNatClampNeg p3)), rfl, (by subst hS_2; unfold s_M_put; rw [if_neg c_5, if_pos c_6, if_pos c_14]), hp_at ht hP9⟩, hS.F ht⟩) hS.2.2 d_M_put_82
  · have c_5 : p4 = (1 : Int32) := c_5
    refine lv_aload_n hx hb d_M_put_28 rfl (lv_at hl 1 rfl) ?_
    refine va_get (D := (dC, dI)) (ci := 1) (v := .ref (qa 2)) (C := R_M) (T := F_M) (N := 5) hx hb hts i_M hown hK hP 0 rfl rfl 1 (by decide) (hts _ k_18) (fun _ h9 => h9) rfl d_M_put_29 ?_
    refine lv_iload_n hx hb d_M_put_32 rfl (lv_at hl 3 rfl) ?_
    refine lv_dup2_11 hx hb d_M_put_33 rfl rfl ?_
    have hi_19 : vp_in p2 4 := by first | with_reducible assumption | exact in_name (by with_reducible assumption) | exact in4_4 (by with_reducible assumption) | exact in4_5 (by with_reducible assumption) | exact in4_6 (by with_reducible assumption) | exact in4_7 (by with_reducible assumption)
    refine va_iald (D := (dC, dI)) (f := (S_2 1)) hx hb hK hP 2 1 rfl rfl hi_19 d_M_put_34 ?_
    refine lv_iload hx hb d_M_put_35 (lv_at hl 0 rfl) ?_
    refine lv_ior hx hb d_M_put_37 ?_
    have hi_20 : vp_in p2 4 := by first | with_reducible assumption | exact in_name (by with_reducible assumption) | exact in4_4 (by with_reducible assumption) | exact in4_5 (by with_reducible assumption) | exact in4_6 (by with_reducible assumption) | exact in4_7 (by with_reducible assumption)
    refine va_iast (D := (dC, dI)) (f := (S_2 1)) hx hb hK hP hD hS 2 1 rfl rfl hi_20 d_M_put_38 (fun H locs hP hD hS => ?_)
    have hP : va_P (dC, dI) classes ([(qa 0, .inr (1, [.ref (qa 1), .ref (qa 2), .ref (qa 3), .ref (qa 4), .ref (qa 5)])), (qa 1, .inl (ka 0, 4, .inl (upd (S_2 0) p2.toNatClampNeg (((S_2 0) p2.toNatClampNeg) ||| ((1 : Int32) <<< (p1 &&& (31 : Int32))))))), (qa 2, .inl (ka 1, 4, .inl (upd (S_2 1) p2.toNatClampNeg (((S_2 1) p2.toNatClampNeg) ||| ((1 : Int32) <<< (p1 &&& (31 : Int32))))))), (qa 3, .inl (ka 2, 4, .inl (S_2 2))), (qa 4, .inl (ka 3, 4, .inl (S_2 3))), (qa 5, .inl (ka 4, 52, .inl (S_2 4)))] : va_W) H := hP
    have hD : va_D A ([(qa 0, .inr (1, [.ref (qa 1), .ref (qa 2), .ref (qa 3), .ref (qa 4), .ref (qa 5)])), (qa 1, .inl (ka 0, 4, .inl (upd (S_2 0) p2.toNatClampNeg (((S_2 0) p2.toNatClampNeg) ||| ((1 : Int32) <<< (p1 &&& (31 : Int32))))))), (qa 2, .inl (ka 1, 4, .inl (upd (S_2 1) p2.toNatClampNeg (((S_2 1) p2.toNatClampNeg) ||| ((1 : Int32) <<< (p1 &&& (31 : Int32))))))), (qa 3, .inl (ka 2, 4, .inl (S_2 2))), (qa 4, .inl (ka 3, 4, .inl (S_2 3))), (qa 5, .inl (ka 4, 52, .inl (S_2 4)))] : va_W) := hD
    refine lv_iload hx hb d_M_put_39 (lv_at hl 5 rfl) ?_
    refine lv_iconst (v := (2 : Int32)) hx hb d_M_put_41 (by decide +kernel) ?_
    refine lv_icmp_ne (tgt := 56) hx hb d_M_put_42 (by decide) (fun c_21 => ?_) (fun c_21 => ?_)
    · have c_21 : ¬ (p4 = (2 : Int32)) := c_21
      refine lv_iload_n hx hb d_M_put_56 rfl (lv_at hl 4 rfl) ?_
      refine lv_if_ne (tgt := 71) hx hb d_M_put_57 (by decide) (fun c_22 => ?_) (fun c_22 => ?_)
      · have c_22 : ¬ (p3 = (0 : Int32)) := c_22
        refine lv_aload_n hx hb d_M_put_71 rfl (lv_at hl 1 rfl) ?_
        refine va_get (D := (dC, dI)) (ci := 1) (v := .ref (qa 5)) (C := R_M) (T := F_M) (N := 5) hx hb hts i_M hown hK hP 0 rfl rfl 4 (by decide) (hts _ k_21) (fun _ h9 => h9) rfl d_M_put_72 ?_
        refine lv_iload_n hx hb d_M_put_75 rfl (lv_at hl 2 rfl) ?_
        refine lv_iconst (v := (4 : Int32)) hx hb d_M_put_76 (by decide +kernel) ?_
        refine lv_imul hx hb d_M_put_77 ?_
        refine lv_iload_n hx hb d_M_put_78 rfl (lv_at hl 3 rfl) ?_
        refine lv_iadd hx hb d_M_put_79 ?_
        refine lv_iload_n hx hb d_M_put_80 rfl (lv_at hl 4 rfl) ?_
        have hi_23 : vp_in ((p1 * (4 : Int32)) + p2) 52 := by first | with_reducible assumption | exact in_52 (by first | with_reducible assumption | exact in_has hw (by with_reducible assumption) | exact in_cls hw (by with_reducible assumption) | exact in_ifc hw (by with_reducible assumption) | exact in_ext hw (by with_reducible assumption) | exact in_eq0 (by with_reducible assumption) | exact hfd (by with_reducible assumption) | exact in_rcv hw (by with_reducible assumption) (Or.inl (by with_reducible assumption)) | exact in_rcv hw (by with_reducible assumption) (Or.inr (by with_reducible assumption))) (by first | with_reducible assumption | exact in_name (by with_reducible assumption) | exact in4_4 (by with_reducible assumption) | exact in4_5 (by with_reducible assumption) | exact in4_6 (by with_reducible assumption) | exact in4_7 (by with_reducible assumption))
        refine va_iast (D := (dC, dI)) (f := (S_2 4)) hx hb hK hP hD hS 5 4 rfl rfl hi_23 d_M_put_81 (fun H locs hP hD hS => ?_)
        have hP : va_P (dC, dI) classes ([(qa 0, .inr (1, [.ref (qa 1), .ref (qa 2), .ref (qa 3), .ref (qa 4), .ref (qa 5)])), (qa 1, .inl (ka 0, 4, .inl (upd (S_2 0) p2.toNatClampNeg (((S_2 0) p2.toNatClampNeg) ||| ((1 : Int32) <<< (p1 &&& (31 : Int32))))))), (qa 2, .inl (ka 1, 4, .inl (upd (S_2 1) p2.toNatClampNeg (((S_2 1) p2.toNatClampNeg) ||| ((1 : Int32) <<< (p1 &&& (31 : Int32))))))), (qa 3, .inl (ka 2, 4, .inl (S_2 2))), (qa 4, .inl (ka 3, 4, .inl (S_2 3))), (qa 5, .inl (ka 4, 52, .inl (upd (S_2 4) ((p1 * (4 : Int32)) + p2).toNatClampNeg p3)))] : va_W) H := hP
        have hD : va_D A ([(qa 0, .inr (1, [.ref (qa 1), .ref (qa 2), .ref (qa 3), .ref (qa 4), .ref (qa 5)])), (qa 1, .inl (ka 0, 4, .inl (upd (S_2 0) p2.toNatClampNeg (((S_2 0) p2.toNatClampNeg) ||| ((1 : Int32) <<< (p1 &&& (31 : Int32))))))), (qa 2, .inl (ka 1, 4, .inl (upd (S_2 1) p2.toNatClampNeg (((S_2 1) p2.toNatClampNeg) ||| ((1 : Int32) <<< (p1 &&& (31 : Int32))))))), (qa 3, .inl (ka 2, 4, .inl (S_2 2))), (qa 4, .inl (ka 3, 4, .inl (S_2 3))), (qa 5, .inl (ka 4, 52, .inl (upd (S_2 4) ((p1 * (4 : Int32)) + p2).toNatClampNeg p3)))] : va_W) := hD
        have hP := wM_mk hP
        have hD := wM_mkD hD
        have hP9 : va_P (dC, dI) classes (wM ka qa (mk5 (upd (S_2 0) p2.toNatClampNeg (((S_2 0) p2.toNatClampNeg) ||| ((1 : Int32) <<< (p1 &&& (31 : Int32))))) (upd (S_2 1) p2.toNatClampNeg (((S_2 1) p2.toNatClampNeg) ||| ((1 : Int32) <<< (p1 &&& (31 : Int32))))) (S_2 2) (S_2 3) (upd (S_2 4) ((p1 * (4 : Int32)) + p2).toNatClampNeg p3))) H := hP
        exact W.vret hx hb hr (fun t ht hW => ⟨⟨(mk5 (upd (S_2 0) p2.toNatClampNeg (((S_2 0) p2.toNatClampNeg) ||| ((1 : Int32) <<< (p1 &&& (31 : Int32))))) (upd (S_2 1) p2.toNatClampNeg (((S_2 1) p2.toNatClampNeg) ||| ((1 : Int32) <<< (p1 &&& (31 : Int32))))) (S_2 2) (S_2 3) (upd (S_2 4) ((p1 * (4 : Int32)) + p2).toNatClampNeg p3)), rfl, (by subst hS_2; unfold s_M_put; rw [if_pos c_5, if_neg c_21, if_neg c_22]), hp_at ht hP9⟩, hS.F ht⟩) hS.2.2 d_M_put_82
      · have c_22 : p3 = (0 : Int32) := c_22
        refine lv_aload_n hx hb d_M_put_60 rfl (lv_at hl 1 rfl) ?_
        refine va_get (D := (dC, dI)) (ci := 1) (v := .ref (qa 4)) (C := R_M) (T := F_M) (N := 5) hx hb hts i_M hown hK hP 0 rfl rfl 3 (by decide) (hts _ k_19) (fun _ h9 => h9) rfl d_M_put_61 ?_
        refine lv_iload_n hx hb d_M_put_64 rfl (lv_at hl 3 rfl) ?_
        refine lv_dup2_11 hx hb d_M_put_65 rfl rfl ?_
        have hi_24 : vp_in p2 4 := by first | with_reducible assumption | exact in_name (by with_reducible assumption) | exact in4_4 (by with_reducible assumption) | exact in4_5 (by with_reducible assumption) | exact in4_6 (by with_reducible assumption) | exact in4_7 (by with_reducible assumption)
        refine va_iald (D := (dC, dI)) (f := (S_2 3)) hx hb hK hP 4 3 rfl rfl hi_24 d_M_put_66 ?_
        refine lv_iload hx hb d_M_put_67 (lv_at hl 0 rfl) ?_
        refine lv_ior hx hb d_M_put_69 ?_
        have hi_25 : vp_in p2 4 := by first | with_reducible assumption | exact in_name (by with_reducible assumption) | exact in4_4 (by with_reducible assumption) | exact in4_5 (by with_reducible assumption) | exact in4_6 (by with_reducible assumption) | exact in4_7 (by with_reducible assumption)
        refine va_iast (D := (dC, dI)) (f := (S_2 3)) hx hb hK hP hD hS 4 3 rfl rfl hi_25 d_M_put_70 (fun H locs hP hD hS => ?_)
        have hP : va_P (dC, dI) classes ([(qa 0, .inr (1, [.ref (qa 1), .ref (qa 2), .ref (qa 3), .ref (qa 4), .ref (qa 5)])), (qa 1, .inl (ka 0, 4, .inl (upd (S_2 0) p2.toNatClampNeg (((S_2 0) p2.toNatClampNeg) ||| ((1 : Int32) <<< (p1 &&& (31 : Int32))))))), (qa 2, .inl (ka 1, 4, .inl (upd (S_2 1) p2.toNatClampNeg (((S_2 1) p2.toNatClampNeg) ||| ((1 : Int32) <<< (p1 &&& (31 : Int32))))))), (qa 3, .inl (ka 2, 4, .inl (S_2 2))), (qa 4, .inl (ka 3, 4, .inl (upd (S_2 3) p2.toNatClampNeg (((S_2 3) p2.toNatClampNeg) ||| ((1 : Int32) <<< (p1 &&& (31 : Int32))))))), (qa 5, .inl (ka 4, 52, .inl (S_2 4)))] : va_W) H := hP
        have hD : va_D A ([(qa 0, .inr (1, [.ref (qa 1), .ref (qa 2), .ref (qa 3), .ref (qa 4), .ref (qa 5)])), (qa 1, .inl (ka 0, 4, .inl (upd (S_2 0) p2.toNatClampNeg (((S_2 0) p2.toNatClampNeg) ||| ((1 : Int32) <<< (p1 &&& (31 : Int32))))))), (qa 2, .inl (ka 1, 4, .inl (upd (S_2 1) p2.toNatClampNeg (((S_2 1) p2.toNatClampNeg) ||| ((1 : Int32) <<< (p1 &&& (31 : Int32))))))), (qa 3, .inl (ka 2, 4, .inl (S_2 2))), (qa 4, .inl (ka 3, 4, .inl (upd (S_2 3) p2.toNatClampNeg (((S_2 3) p2.toNatClampNeg) ||| ((1 : Int32) <<< (p1 &&& (31 : Int32))))))), (qa 5, .inl (ka 4, 52, .inl (S_2 4)))] : va_W) := hD
        refine lv_aload_n hx hb d_M_put_71 rfl (lv_at hl 1 rfl) ?_
        refine va_get (D := (dC, dI)) (ci := 1) (v := .ref (qa 5)) (C := R_M) (T := F_M) (N := 5) hx hb hts i_M hown hK hP 0 rfl rfl 4 (by decide) (hts _ k_21) (fun _ h9 => h9) rfl d_M_put_72 ?_
        refine lv_iload_n hx hb d_M_put_75 rfl (lv_at hl 2 rfl) ?_
        refine lv_iconst (v := (4 : Int32)) hx hb d_M_put_76 (by decide +kernel) ?_
        refine lv_imul hx hb d_M_put_77 ?_
        refine lv_iload_n hx hb d_M_put_78 rfl (lv_at hl 3 rfl) ?_
        refine lv_iadd hx hb d_M_put_79 ?_
        refine lv_iload_n hx hb d_M_put_80 rfl (lv_at hl 4 rfl) ?_
        have hi_26 : vp_in ((p1 * (4 : Int32)) + p2) 52 := by first | with_reducible assumption | exact in_52 (by first | with_reducible assumption | exact in_has hw (by with_reducible assumption) | exact in_cls hw (by with_reducible assumption) | exact in_ifc hw (by with_reducible assumption) | exact in_ext hw (by with_reducible assumption) | exact in_eq0 (by with_reducible assumption) | exact hfd (by with_reducible assumption) | exact in_rcv hw (by with_reducible assumption) (Or.inl (by with_reducible assumption)) | exact in_rcv hw (by with_reducible assumption) (Or.inr (by with_reducible assumption))) (by first | with_reducible assumption | exact in_name (by with_reducible assumption) | exact in4_4 (by with_reducible assumption) | exact in4_5 (by with_reducible assumption) | exact in4_6 (by with_reducible assumption) | exact in4_7 (by with_reducible assumption))
        refine va_iast (D := (dC, dI)) (f := (S_2 4)) hx hb hK hP hD hS 5 4 rfl rfl hi_26 d_M_put_81 (fun H locs hP hD hS => ?_)
        have hP : va_P (dC, dI) classes ([(qa 0, .inr (1, [.ref (qa 1), .ref (qa 2), .ref (qa 3), .ref (qa 4), .ref (qa 5)])), (qa 1, .inl (ka 0, 4, .inl (upd (S_2 0) p2.toNatClampNeg (((S_2 0) p2.toNatClampNeg) ||| ((1 : Int32) <<< (p1 &&& (31 : Int32))))))), (qa 2, .inl (ka 1, 4, .inl (upd (S_2 1) p2.toNatClampNeg (((S_2 1) p2.toNatClampNeg) ||| ((1 : Int32) <<< (p1 &&& (31 : Int32))))))), (qa 3, .inl (ka 2, 4, .inl (S_2 2))), (qa 4, .inl (ka 3, 4, .inl (upd (S_2 3) p2.toNatClampNeg (((S_2 3) p2.toNatClampNeg) ||| ((1 : Int32) <<< (p1 &&& (31 : Int32))))))), (qa 5, .inl (ka 4, 52, .inl (upd (S_2 4) ((p1 * (4 : Int32)) + p2).toNatClampNeg p3)))] : va_W) H := hP
        have hD : va_D A ([(qa 0, .inr (1, [.ref (qa 1), .ref (qa 2), .ref (qa 3), .ref (qa 4), .ref (qa 5)])), (qa 1, .inl (ka 0, 4, .inl (upd (S_2 0) p2.toNatClampNeg (((S_2 0) p2.toNatClampNeg) ||| ((1 : Int32) <<< (p1 &&& (31 : Int32))))))), (qa 2, .inl (ka 1, 4, .inl (upd (S_2 1) p2.toNatClampNeg (((S_2 1) p2.toNatClampNeg) ||| ((1 : Int32) <<< (p1 &&& (31 : Int32))))))), (qa 3, .inl (ka 2, 4, .inl (S_2 2))), (qa 4, .inl (ka 3, 4, .inl (upd (S_2 3) p2.toNatClampNeg (((S_2 3) p2.toNatClampNeg) ||| ((1 : Int32) <<< (p1 &&& (31 : Int32))))))), (qa 5, .inl (ka 4, 52, .inl (upd (S_2 4) ((p1 * (4 : Int32)) + p2).toNatClampNeg p3)))] : va_W) := hD
        have hP := wM_mk hP
        have hD := wM_mkD hD
        have hP9 : va_P (dC, dI) classes (wM ka qa (mk5 (upd (S_2 0) p2.toNatClampNeg (((S_2 0) p2.toNatClampNeg) ||| ((1 : Int32) <<< (p1 &&& (31 : Int32))))) (upd (S_2 1) p2.toNatClampNeg (((S_2 1) p2.toNatClampNeg) ||| ((1 : Int32) <<< (p1 &&& (31 : Int32))))) (S_2 2) (upd (S_2 3) p2.toNatClampNeg (((S_2 3) p2.toNatClampNeg) ||| ((1 : Int32) <<< (p1 &&& (31 : Int32))))) (upd (S_2 4) ((p1 * (4 : Int32)) + p2).toNatClampNeg p3))) H := hP
        exact W.vret hx hb hr (fun t ht hW => ⟨⟨(mk5 (upd (S_2 0) p2.toNatClampNeg (((S_2 0) p2.toNatClampNeg) ||| ((1 : Int32) <<< (p1 &&& (31 : Int32))))) (upd (S_2 1) p2.toNatClampNeg (((S_2 1) p2.toNatClampNeg) ||| ((1 : Int32) <<< (p1 &&& (31 : Int32))))) (S_2 2) (upd (S_2 3) p2.toNatClampNeg (((S_2 3) p2.toNatClampNeg) ||| ((1 : Int32) <<< (p1 &&& (31 : Int32))))) (upd (S_2 4) ((p1 * (4 : Int32)) + p2).toNatClampNeg p3)), rfl, (by subst hS_2; unfold s_M_put; rw [if_pos c_5, if_neg c_21, if_pos c_22]), hp_at ht hP9⟩, hS.F ht⟩) hS.2.2 d_M_put_82
    · have c_21 : p4 = (2 : Int32) := c_21
      refine lv_aload_n hx hb d_M_put_45 rfl (lv_at hl 1 rfl) ?_
      refine va_get (D := (dC, dI)) (ci := 1) (v := .ref (qa 3)) (C := R_M) (T := F_M) (N := 5) hx hb hts i_M hown hK hP 0 rfl rfl 2 (by decide) (hts _ k_17) (fun _ h9 => h9) rfl d_M_put_46 ?_
      refine lv_iload_n hx hb d_M_put_49 rfl (lv_at hl 3 rfl) ?_
      refine lv_dup2_11 hx hb d_M_put_50 rfl rfl ?_
      have hi_27 : vp_in p2 4 := by first | with_reducible assumption | exact in_name (by with_reducible assumption) | exact in4_4 (by with_reducible assumption) | exact in4_5 (by with_reducible assumption) | exact in4_6 (by with_reducible assumption) | exact in4_7 (by with_reducible assumption)
      refine va_iald (D := (dC, dI)) (f := (S_2 2)) hx hb hK hP 3 2 rfl rfl hi_27 d_M_put_51 ?_
      refine lv_iload hx hb d_M_put_52 (lv_at hl 0 rfl) ?_
      refine lv_ior hx hb d_M_put_54 ?_
      have hi_28 : vp_in p2 4 := by first | with_reducible assumption | exact in_name (by with_reducible assumption) | exact in4_4 (by with_reducible assumption) | exact in4_5 (by with_reducible assumption) | exact in4_6 (by with_reducible assumption) | exact in4_7 (by with_reducible assumption)
      refine va_iast (D := (dC, dI)) (f := (S_2 2)) hx hb hK hP hD hS 3 2 rfl rfl hi_28 d_M_put_55 (fun H locs hP hD hS => ?_)
      have hP : va_P (dC, dI) classes ([(qa 0, .inr (1, [.ref (qa 1), .ref (qa 2), .ref (qa 3), .ref (qa 4), .ref (qa 5)])), (qa 1, .inl (ka 0, 4, .inl (upd (S_2 0) p2.toNatClampNeg (((S_2 0) p2.toNatClampNeg) ||| ((1 : Int32) <<< (p1 &&& (31 : Int32))))))), (qa 2, .inl (ka 1, 4, .inl (upd (S_2 1) p2.toNatClampNeg (((S_2 1) p2.toNatClampNeg) ||| ((1 : Int32) <<< (p1 &&& (31 : Int32))))))), (qa 3, .inl (ka 2, 4, .inl (upd (S_2 2) p2.toNatClampNeg (((S_2 2) p2.toNatClampNeg) ||| ((1 : Int32) <<< (p1 &&& (31 : Int32))))))), (qa 4, .inl (ka 3, 4, .inl (S_2 3))), (qa 5, .inl (ka 4, 52, .inl (S_2 4)))] : va_W) H := hP
      have hD : va_D A ([(qa 0, .inr (1, [.ref (qa 1), .ref (qa 2), .ref (qa 3), .ref (qa 4), .ref (qa 5)])), (qa 1, .inl (ka 0, 4, .inl (upd (S_2 0) p2.toNatClampNeg (((S_2 0) p2.toNatClampNeg) ||| ((1 : Int32) <<< (p1 &&& (31 : Int32))))))), (qa 2, .inl (ka 1, 4, .inl (upd (S_2 1) p2.toNatClampNeg (((S_2 1) p2.toNatClampNeg) ||| ((1 : Int32) <<< (p1 &&& (31 : Int32))))))), (qa 3, .inl (ka 2, 4, .inl (upd (S_2 2) p2.toNatClampNeg (((S_2 2) p2.toNatClampNeg) ||| ((1 : Int32) <<< (p1 &&& (31 : Int32))))))), (qa 4, .inl (ka 3, 4, .inl (S_2 3))), (qa 5, .inl (ka 4, 52, .inl (S_2 4)))] : va_W) := hD
      refine lv_iload_n hx hb d_M_put_56 rfl (lv_at hl 4 rfl) ?_
      refine lv_if_ne (tgt := 71) hx hb d_M_put_57 (by decide) (fun c_29 => ?_) (fun c_29 => ?_)
      · have c_29 : ¬ (p3 = (0 : Int32)) := c_29
        refine lv_aload_n hx hb d_M_put_71 rfl (lv_at hl 1 rfl) ?_
        refine va_get (D := (dC, dI)) (ci := 1) (v := .ref (qa 5)) (C := R_M) (T := F_M) (N := 5) hx hb hts i_M hown hK hP 0 rfl rfl 4 (by decide) (hts _ k_21) (fun _ h9 => h9) rfl d_M_put_72 ?_
        refine lv_iload_n hx hb d_M_put_75 rfl (lv_at hl 2 rfl) ?_
        refine lv_iconst (v := (4 : Int32)) hx hb d_M_put_76 (by decide +kernel) ?_
        refine lv_imul hx hb d_M_put_77 ?_
        refine lv_iload_n hx hb d_M_put_78 rfl (lv_at hl 3 rfl) ?_
        refine lv_iadd hx hb d_M_put_79 ?_
        refine lv_iload_n hx hb d_M_put_80 rfl (lv_at hl 4 rfl) ?_
        have hi_30 : vp_in ((p1 * (4 : Int32)) + p2) 52 := by first | with_reducible assumption | exact in_52 (by first | with_reducible assumption | exact in_has hw (by with_reducible assumption) | exact in_cls hw (by with_reducible assumption) | exact in_ifc hw (by with_reducible assumption) | exact in_ext hw (by with_reducible assumption) | exact in_eq0 (by with_reducible assumption) | exact hfd (by with_reducible assumption) | exact in_rcv hw (by with_reducible assumption) (Or.inl (by with_reducible assumption)) | exact in_rcv hw (by with_reducible assumption) (Or.inr (by with_reducible assumption))) (by first | with_reducible assumption | exact in_name (by with_reducible assumption) | exact in4_4 (by with_reducible assumption) | exact in4_5 (by with_reducible assumption) | exact in4_6 (by with_reducible assumption) | exact in4_7 (by with_reducible assumption))
        refine va_iast (D := (dC, dI)) (f := (S_2 4)) hx hb hK hP hD hS 5 4 rfl rfl hi_30 d_M_put_81 (fun H locs hP hD hS => ?_)
        have hP : va_P (dC, dI) classes ([(qa 0, .inr (1, [.ref (qa 1), .ref (qa 2), .ref (qa 3), .ref (qa 4), .ref (qa 5)])), (qa 1, .inl (ka 0, 4, .inl (upd (S_2 0) p2.toNatClampNeg (((S_2 0) p2.toNatClampNeg) ||| ((1 : Int32) <<< (p1 &&& (31 : Int32))))))), (qa 2, .inl (ka 1, 4, .inl (upd (S_2 1) p2.toNatClampNeg (((S_2 1) p2.toNatClampNeg) ||| ((1 : Int32) <<< (p1 &&& (31 : Int32))))))), (qa 3, .inl (ka 2, 4, .inl (upd (S_2 2) p2.toNatClampNeg (((S_2 2) p2.toNatClampNeg) ||| ((1 : Int32) <<< (p1 &&& (31 : Int32))))))), (qa 4, .inl (ka 3, 4, .inl (S_2 3))), (qa 5, .inl (ka 4, 52, .inl (upd (S_2 4) ((p1 * (4 : Int32)) + p2).toNatClampNeg p3)))] : va_W) H := hP
        have hD : va_D A ([(qa 0, .inr (1, [.ref (qa 1), .ref (qa 2), .ref (qa 3), .ref (qa 4), .ref (qa 5)])), (qa 1, .inl (ka 0, 4, .inl (upd (S_2 0) p2.toNatClampNeg (((S_2 0) p2.toNatClampNeg) ||| ((1 : Int32) <<< (p1 &&& (31 : Int32))))))), (qa 2, .inl (ka 1, 4, .inl (upd (S_2 1) p2.toNatClampNeg (((S_2 1) p2.toNatClampNeg) ||| ((1 : Int32) <<< (p1 &&& (31 : Int32))))))), (qa 3, .inl (ka 2, 4, .inl (upd (S_2 2) p2.toNatClampNeg (((S_2 2) p2.toNatClampNeg) ||| ((1 : Int32) <<< (p1 &&& (31 : Int32))))))), (qa 4, .inl (ka 3, 4, .inl (S_2 3))), (qa 5, .inl (ka 4, 52, .inl (upd (S_2 4) ((p1 * (4 : Int32)) + p2).toNatClampNeg p3)))] : va_W) := hD
        have hP := wM_mk hP
        have hD := wM_mkD hD
        have hP9 : va_P (dC, dI) classes (wM ka qa (mk5 (upd (S_2 0) p2.toNatClampNeg (((S_2 0) p2.toNatClampNeg) ||| ((1 : Int32) <<< (p1 &&& (31 : Int32))))) (upd (S_2 1) p2.toNatClampNeg (((S_2 1) p2.toNatClampNeg) ||| ((1 : Int32) <<< (p1 &&& (31 : Int32))))) (upd (S_2 2) p2.toNatClampNeg (((S_2 2) p2.toNatClampNeg) ||| ((1 : Int32) <<< (p1 &&& (31 : Int32))))) (S_2 3) (upd (S_2 4) ((p1 * (4 : Int32)) + p2).toNatClampNeg p3))) H := hP
        exact W.vret hx hb hr (fun t ht hW => ⟨⟨(mk5 (upd (S_2 0) p2.toNatClampNeg (((S_2 0) p2.toNatClampNeg) ||| ((1 : Int32) <<< (p1 &&& (31 : Int32))))) (upd (S_2 1) p2.toNatClampNeg (((S_2 1) p2.toNatClampNeg) ||| ((1 : Int32) <<< (p1 &&& (31 : Int32))))) (upd (S_2 2) p2.toNatClampNeg (((S_2 2) p2.toNatClampNeg) ||| ((1 : Int32) <<< (p1 &&& (31 : Int32))))) (S_2 3) (upd (S_2 4) ((p1 * (4 : Int32)) + p2).toNatClampNeg p3)), rfl, (by subst hS_2; unfold s_M_put; rw [if_pos c_5, if_pos c_21, if_neg c_29]), hp_at ht hP9⟩, hS.F ht⟩) hS.2.2 d_M_put_82
      · have c_29 : p3 = (0 : Int32) := c_29
        refine lv_aload_n hx hb d_M_put_60 rfl (lv_at hl 1 rfl) ?_
        refine va_get (D := (dC, dI)) (ci := 1) (v := .ref (qa 4)) (C := R_M) (T := F_M) (N := 5) hx hb hts i_M hown hK hP 0 rfl rfl 3 (by decide) (hts _ k_19) (fun _ h9 => h9) rfl d_M_put_61 ?_
        refine lv_iload_n hx hb d_M_put_64 rfl (lv_at hl 3 rfl) ?_
        refine lv_dup2_11 hx hb d_M_put_65 rfl rfl ?_
        have hi_31 : vp_in p2 4 := by first | with_reducible assumption | exact in_name (by with_reducible assumption) | exact in4_4 (by with_reducible assumption) | exact in4_5 (by with_reducible assumption) | exact in4_6 (by with_reducible assumption) | exact in4_7 (by with_reducible assumption)
        refine va_iald (D := (dC, dI)) (f := (S_2 3)) hx hb hK hP 4 3 rfl rfl hi_31 d_M_put_66 ?_
        refine lv_iload hx hb d_M_put_67 (lv_at hl 0 rfl) ?_
        refine lv_ior hx hb d_M_put_69 ?_
        have hi_32 : vp_in p2 4 := by first | with_reducible assumption | exact in_name (by with_reducible assumption) | exact in4_4 (by with_reducible assumption) | exact in4_5 (by with_reducible assumption) | exact in4_6 (by with_reducible assumption) | exact in4_7 (by with_reducible assumption)
        refine va_iast (D := (dC, dI)) (f := (S_2 3)) hx hb hK hP hD hS 4 3 rfl rfl hi_32 d_M_put_70 (fun H locs hP hD hS => ?_)
        have hP : va_P (dC, dI) classes ([(qa 0, .inr (1, [.ref (qa 1), .ref (qa 2), .ref (qa 3), .ref (qa 4), .ref (qa 5)])), (qa 1, .inl (ka 0, 4, .inl (upd (S_2 0) p2.toNatClampNeg (((S_2 0) p2.toNatClampNeg) ||| ((1 : Int32) <<< (p1 &&& (31 : Int32))))))), (qa 2, .inl (ka 1, 4, .inl (upd (S_2 1) p2.toNatClampNeg (((S_2 1) p2.toNatClampNeg) ||| ((1 : Int32) <<< (p1 &&& (31 : Int32))))))), (qa 3, .inl (ka 2, 4, .inl (upd (S_2 2) p2.toNatClampNeg (((S_2 2) p2.toNatClampNeg) ||| ((1 : Int32) <<< (p1 &&& (31 : Int32))))))), (qa 4, .inl (ka 3, 4, .inl (upd (S_2 3) p2.toNatClampNeg (((S_2 3) p2.toNatClampNeg) ||| ((1 : Int32) <<< (p1 &&& (31 : Int32))))))), (qa 5, .inl (ka 4, 52, .inl (S_2 4)))] : va_W) H := hP
        have hD : va_D A ([(qa 0, .inr (1, [.ref (qa 1), .ref (qa 2), .ref (qa 3), .ref (qa 4), .ref (qa 5)])), (qa 1, .inl (ka 0, 4, .inl (upd (S_2 0) p2.toNatClampNeg (((S_2 0) p2.toNatClampNeg) ||| ((1 : Int32) <<< (p1 &&& (31 : Int32))))))), (qa 2, .inl (ka 1, 4, .inl (upd (S_2 1) p2.toNatClampNeg (((S_2 1) p2.toNatClampNeg) ||| ((1 : Int32) <<< (p1 &&& (31 : Int32))))))), (qa 3, .inl (ka 2, 4, .inl (upd (S_2 2) p2.toNatClampNeg (((S_2 2) p2.toNatClampNeg) ||| ((1 : Int32) <<< (p1 &&& (31 : Int32))))))), (qa 4, .inl (ka 3, 4, .inl (upd (S_2 3) p2.toNatClampNeg (((S_2 3) p2.toNatClampNeg) ||| ((1 : Int32) <<< (p1 &&& (31 : Int32))))))), (qa 5, .inl (ka 4, 52, .inl (S_2 4)))] : va_W) := hD
        refine lv_aload_n hx hb d_M_put_71 rfl (lv_at hl 1 rfl) ?_
        refine va_get (D := (dC, dI)) (ci := 1) (v := .ref (qa 5)) (C := R_M) (T := F_M) (N := 5) hx hb hts i_M hown hK hP 0 rfl rfl 4 (by decide) (hts _ k_21) (fun _ h9 => h9) rfl d_M_put_72 ?_
        refine lv_iload_n hx hb d_M_put_75 rfl (lv_at hl 2 rfl) ?_
        refine lv_iconst (v := (4 : Int32)) hx hb d_M_put_76 (by decide +kernel) ?_
        refine lv_imul hx hb d_M_put_77 ?_
        refine lv_iload_n hx hb d_M_put_78 rfl (lv_at hl 3 rfl) ?_
        refine lv_iadd hx hb d_M_put_79 ?_
        refine lv_iload_n hx hb d_M_put_80 rfl (lv_at hl 4 rfl) ?_
        have hi_33 : vp_in ((p1 * (4 : Int32)) + p2) 52 := by first | with_reducible assumption | exact in_52 (by first | with_reducible assumption | exact in_has hw (by with_reducible assumption) | exact in_cls hw (by with_reducible assumption) | exact in_ifc hw (by with_reducible assumption) | exact in_ext hw (by with_reducible assumption) | exact in_eq0 (by with_reducible assumption) | exact hfd (by with_reducible assumption) | exact in_rcv hw (by with_reducible assumption) (Or.inl (by with_reducible assumption)) | exact in_rcv hw (by with_reducible assumption) (Or.inr (by with_reducible assumption))) (by first | with_reducible assumption | exact in_name (by with_reducible assumption) | exact in4_4 (by with_reducible assumption) | exact in4_5 (by with_reducible assumption) | exact in4_6 (by with_reducible assumption) | exact in4_7 (by with_reducible assumption))
        refine va_iast (D := (dC, dI)) (f := (S_2 4)) hx hb hK hP hD hS 5 4 rfl rfl hi_33 d_M_put_81 (fun H locs hP hD hS => ?_)
        have hP : va_P (dC, dI) classes ([(qa 0, .inr (1, [.ref (qa 1), .ref (qa 2), .ref (qa 3), .ref (qa 4), .ref (qa 5)])), (qa 1, .inl (ka 0, 4, .inl (upd (S_2 0) p2.toNatClampNeg (((S_2 0) p2.toNatClampNeg) ||| ((1 : Int32) <<< (p1 &&& (31 : Int32))))))), (qa 2, .inl (ka 1, 4, .inl (upd (S_2 1) p2.toNatClampNeg (((S_2 1) p2.toNatClampNeg) ||| ((1 : Int32) <<< (p1 &&& (31 : Int32))))))), (qa 3, .inl (ka 2, 4, .inl (upd (S_2 2) p2.toNatClampNeg (((S_2 2) p2.toNatClampNeg) ||| ((1 : Int32) <<< (p1 &&& (31 : Int32))))))), (qa 4, .inl (ka 3, 4, .inl (upd (S_2 3) p2.toNatClampNeg (((S_2 3) p2.toNatClampNeg) ||| ((1 : Int32) <<< (p1 &&& (31 : Int32))))))), (qa 5, .inl (ka 4, 52, .inl (upd (S_2 4) ((p1 * (4 : Int32)) + p2).toNatClampNeg p3)))] : va_W) H := hP
        have hD : va_D A ([(qa 0, .inr (1, [.ref (qa 1), .ref (qa 2), .ref (qa 3), .ref (qa 4), .ref (qa 5)])), (qa 1, .inl (ka 0, 4, .inl (upd (S_2 0) p2.toNatClampNeg (((S_2 0) p2.toNatClampNeg) ||| ((1 : Int32) <<< (p1 &&& (31 : Int32))))))), (qa 2, .inl (ka 1, 4, .inl (upd (S_2 1) p2.toNatClampNeg (((S_2 1) p2.toNatClampNeg) ||| ((1 : Int32) <<< (p1 &&& (31 : Int32))))))), (qa 3, .inl (ka 2, 4, .inl (upd (S_2 2) p2.toNatClampNeg (((S_2 2) p2.toNatClampNeg) ||| ((1 : Int32) <<< (p1 &&& (31 : Int32))))))), (qa 4, .inl (ka 3, 4, .inl (upd (S_2 3) p2.toNatClampNeg (((S_2 3) p2.toNatClampNeg) ||| ((1 : Int32) <<< (p1 &&& (31 : Int32))))))), (qa 5, .inl (ka 4, 52, .inl (upd (S_2 4) ((p1 * (4 : Int32)) + p2).toNatClampNeg p3)))] : va_W) := hD
        have hP := wM_mk hP
        have hD := wM_mkD hD
        have hP9 : va_P (dC, dI) classes (wM ka qa (mk5 (upd (S_2 0) p2.toNatClampNeg (((S_2 0) p2.toNatClampNeg) ||| ((1 : Int32) <<< (p1 &&& (31 : Int32))))) (upd (S_2 1) p2.toNatClampNeg (((S_2 1) p2.toNatClampNeg) ||| ((1 : Int32) <<< (p1 &&& (31 : Int32))))) (upd (S_2 2) p2.toNatClampNeg (((S_2 2) p2.toNatClampNeg) ||| ((1 : Int32) <<< (p1 &&& (31 : Int32))))) (upd (S_2 3) p2.toNatClampNeg (((S_2 3) p2.toNatClampNeg) ||| ((1 : Int32) <<< (p1 &&& (31 : Int32))))) (upd (S_2 4) ((p1 * (4 : Int32)) + p2).toNatClampNeg p3))) H := hP
        exact W.vret hx hb hr (fun t ht hW => ⟨⟨(mk5 (upd (S_2 0) p2.toNatClampNeg (((S_2 0) p2.toNatClampNeg) ||| ((1 : Int32) <<< (p1 &&& (31 : Int32))))) (upd (S_2 1) p2.toNatClampNeg (((S_2 1) p2.toNatClampNeg) ||| ((1 : Int32) <<< (p1 &&& (31 : Int32))))) (upd (S_2 2) p2.toNatClampNeg (((S_2 2) p2.toNatClampNeg) ||| ((1 : Int32) <<< (p1 &&& (31 : Int32))))) (upd (S_2 3) p2.toNatClampNeg (((S_2 3) p2.toNatClampNeg) ||| ((1 : Int32) <<< (p1 &&& (31 : Int32))))) (upd (S_2 4) ((p1 * (4 : Int32)) + p2).toNatClampNeg p3)), rfl, (by subst hS_2; unfold s_M_put; rw [if_pos c_5, if_pos c_21, if_pos c_29]), hp_at ht hP9⟩, hS.F ht⟩) hS.2.2 d_M_put_82
