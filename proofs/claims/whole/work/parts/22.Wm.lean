set_option maxHeartbeats 1000000 in
set_option maxRecDepth 100000 in
theorem c_W_setHost (l : Launch) (dC : Nat → ClassId) (dI : Nat → Nat → Nat) (ka : Nat → ClassId) (qa : Nat → Nat) (sz : Nat) (w : WS) (p1 p2 : Int32) (hp1 : vp_in p1 13) : Met l y_W_setHost w_W_setHost ({ frames := 0, cells := 0, slots := 0, locals := 0 } : Room) (mu_P dC dI (wW ka qa w) (tW ka) sz [.ref (qa 0), .int p1, .int p2]) (mu_Qv (fun (S9 : WS) => (wW ka qa S9)) dC dI (s_W_setHost w p1 p2) (va_A (wW ka qa w) sz)) 0 0 (va_A (wW ka qa w) sz) := by
  refine Met.ofW (cc := b_W_setHost) (maxL := 3) (ret := none) (by decide) rfl ?_
  intro p e s m args below meth c s₁ B hml hv
  obtain ⟨rfl, hsz, hP, hK, hN, hD0⟩ := hv
  have hx := B.exec
  have hb := B.bytes
  have hr := B.returns
  have hts := tl_of (atoms_spec (ws := w_W_setHost) B.pre)
  have hown : s.vm.findClass R_W = some m.cls := findClass_of_methodNamed B.named
  have hlocks := B.notSynchronized
  subst hsz
  have hD := hD0.self (sz := s.heap.size)
  generalize hAe : va_A (wW ka qa w) s.heap.size = A at hD ⊢
  have hA : ∀ q : Nat, s.heap.size ≤ q → A q := fun q h => by rw [← hAe]; exact Or.inr h
  have hS : va_S A s.heap s.heap [] := va_S.rf
  have hl := lv_entry ([.ref (qa 0), .int p1, .int p2]) (n := 3) (Nat.le_of_ble_eq_true rfl)
  rw [lg_entry_eq]
  generalize (lg_sl ([.ref (qa 0), .int p1, .int p2]) ++ List.replicate (3 - (lg_sl ([.ref (qa 0), .int p1, .int p2])).length) Slot.unset).toArray = ls at hl ⊢
  have hl : lv_has ls 3 [(0, .ref (qa 0)), (1, .int p1), (2, .int p2)] := hl
  refine lv_aload_n hx hb d_W_setHost_0 rfl (lv_at hl 0 rfl) ?_
  refine va_get (D := (dC, dI)) (ci := 0) (v := .ref (qa 3)) (C := R_W) (T := F_W) (N := 10) hx hb hts i_W hown hK hP 0 rfl rfl 2 (by decide) (hts _ k_13) (fun _ h9 => h9) rfl d_W_setHost_1 ?_
  refine lv_iload_n hx hb d_W_setHost_4 rfl (lv_at hl 1 rfl) ?_
  refine lv_iload_n hx hb d_W_setHost_5 rfl (lv_at hl 2 rfl) ?_
  have hi_1 : vp_in p1 13 := by first | with_reducible assumption | exact in_has hw (by with_reducible assumption) | exact in_cls hw (by with_reducible assumption) | exact in_ifc hw (by with_reducible assumption) | exact in_ext hw (by with_reducible assumption) | exact in_eq0 (by with_reducible assumption) | exact hfd (by with_reducible assumption) | exact in_rcv hw (by with_reducible assumption) (Or.inl (by with_reducible assumption)) | exact in_rcv hw (by with_reducible assumption) (Or.inr (by with_reducible assumption))
  refine va_iast (D := (dC, dI)) (f := (w.1 2)) hx hb hK hP hD hS 3 2 rfl rfl hi_1 d_W_setHost_6 (fun H locs hP hD hS => ?_)
  have hP : va_P (dC, dI) classes ([(qa 0, .inr (0, [.ref (qa 1), .ref (qa 2), .ref (qa 3), .ref (qa 4), .ref (qa 5), .ref (qa 6), .int (w.2 0), .int (w.2 1), .int (w.2 2), .int (w.2 3)])), (qa 1, .inl (ka 0, 13, .inl (w.1 0))), (qa 2, .inl (ka 1, 13, .inl (w.1 1))), (qa 3, .inl (ka 2, 13, .inl (upd (w.1 2) p1.toNatClampNeg p2))), (qa 4, .inl (ka 3, 13, .inl (w.1 3))), (qa 5, .inl (ka 4, 52, .inl (w.1 4))), (qa 6, .inl (ka 5, 13, .inl (w.1 5)))] : va_W) H := hP
  have hD : va_D A ([(qa 0, .inr (0, [.ref (qa 1), .ref (qa 2), .ref (qa 3), .ref (qa 4), .ref (qa 5), .ref (qa 6), .int (w.2 0), .int (w.2 1), .int (w.2 2), .int (w.2 3)])), (qa 1, .inl (ka 0, 13, .inl (w.1 0))), (qa 2, .inl (ka 1, 13, .inl (w.1 1))), (qa 3, .inl (ka 2, 13, .inl (upd (w.1 2) p1.toNatClampNeg p2))), (qa 4, .inl (ka 3, 13, .inl (w.1 3))), (qa 5, .inl (ka 4, 52, .inl (w.1 4))), (qa 6, .inl (ka 5, 13, .inl (w.1 5)))] : va_W) := hD
  have hP := wW_mk hP
  have hD := wW_mkD hD
  have hP9 : va_P (dC, dI) classes (wW ka qa (mk6 (w.1 0) (w.1 1) (upd (w.1 2) p1.toNatClampNeg p2) (w.1 3) (w.1 4) (w.1 5), mk4 (w.2 0) (w.2 1) (w.2 2) (w.2 3))) H := hP
  exact W.vret hx hb hr (fun t ht hW => ⟨⟨(mk6 (w.1 0) (w.1 1) (upd (w.1 2) p1.toNatClampNeg p2) (w.1 3) (w.1 4) (w.1 5), mk4 (w.2 0) (w.2 1) (w.2 2) (w.2 3)), rfl, (rfl), hp_at ht hP9⟩, hS.F ht⟩) hS.2.2 d_W_setHost_7
set_option maxHeartbeats 1000000 in
set_option maxRecDepth 100000 in
theorem c_W_addType (l : Launch) (dC : Nat → ClassId) (dI : Nat → Nat → Nat) (ka : Nat → ClassId) (qa : Nat → Nat) (sz : Nat) (w : WS) (p1 p2 p3 : Int32) (hp1 : vp_in p1 13) (hc : vp_in ((w.2 3) + (1 : Int32)) 13) : Met l y_W_addType w_W_addType ({ frames := 0, cells := 0, slots := 0, locals := 0 } : Room) (mu_P dC dI (wW ka qa w) (tW ka) sz [.ref (qa 0), .int p1, .int p2, .int p3]) (mu_Q (fun (S9 : WS) => (wW ka qa S9)) dC dI (f_W_addType w p1 p2 p3) (s_W_addType w p1 p2 p3) (va_A (wW ka qa w) sz)) 0 0 (va_A (wW ka qa w) sz) := by
  refine Met.ofW (cc := b_W_addType) (maxL := 4) (ret := (some .int)) (by decide) rfl ?_
  intro p e s m args below meth c s₁ B hml hv
  obtain ⟨rfl, hsz, hP, hK, hN, hD0⟩ := hv
  have hx := B.exec
  have hb := B.bytes
  have hr := B.returns
  have hts := tl_of (atoms_spec (ws := w_W_addType) B.pre)
  have hown : s.vm.findClass R_W = some m.cls := findClass_of_methodNamed B.named
  have hlocks := B.notSynchronized
  subst hsz
  have hD := hD0.self (sz := s.heap.size)
  generalize hAe : va_A (wW ka qa w) s.heap.size = A at hD ⊢
  have hA : ∀ q : Nat, s.heap.size ≤ q → A q := fun q h => by rw [← hAe]; exact Or.inr h
  have hS : va_S A s.heap s.heap [] := va_S.rf
  have hl := lv_entry ([.ref (qa 0), .int p1, .int p2, .int p3]) (n := 4) (Nat.le_of_ble_eq_true rfl)
  rw [lg_entry_eq]
  generalize (lg_sl ([.ref (qa 0), .int p1, .int p2, .int p3]) ++ List.replicate (4 - (lg_sl ([.ref (qa 0), .int p1, .int p2, .int p3])).length) Slot.unset).toArray = ls at hl ⊢
  have hl : lv_has ls 4 [(0, .ref (qa 0)), (1, .int p1), (2, .int p2), (3, .int p3)] := hl
  refine lv_aload_n hx hb d_W_addType_0 rfl (lv_at hl 0 rfl) ?_
  refine lv_dup hx hb d_W_addType_1 rfl ?_
  refine va_get (D := (dC, dI)) (ci := 0) (v := .int (w.2 3)) (C := R_W) (T := F_W) (N := 10) hx hb hts i_W hown hK hP 0 rfl rfl 9 (by decide) (hts _ k_3) (fun _ h9 => h9) rfl d_W_addType_2 ?_
  refine lv_iconst (v := (1 : Int32)) hx hb d_W_addType_5 (by decide +kernel) ?_
  refine lv_iadd hx hb d_W_addType_6 ?_
  refine va_put (D := (dC, dI)) (ci := 0) (v := .int ((w.2 3) + (1 : Int32))) (ty := .int) (C := R_W) (T := F_W) (N := 10) hx hb hts i_W t_W t_W_ok n_W hown hK hP hD hS 0 rfl rfl 9 (by decide) (hts _ k_3) (fun _ h9 => h9) rfl (by decide +kernel) rfl rfl (Nat.le_of_ble_eq_true rfl) d_W_addType_7 (fun H locs hP hD hS => ?_)
  have hP : va_P (dC, dI) classes ([(qa 0, .inr (0, [.ref (qa 1), .ref (qa 2), .ref (qa 3), .ref (qa 4), .ref (qa 5), .ref (qa 6), .int (w.2 0), .int (w.2 1), .int (w.2 2), .int ((w.2 3) + (1 : Int32))])), (qa 1, .inl (ka 0, 13, .inl (w.1 0))), (qa 2, .inl (ka 1, 13, .inl (w.1 1))), (qa 3, .inl (ka 2, 13, .inl (w.1 2))), (qa 4, .inl (ka 3, 13, .inl (w.1 3))), (qa 5, .inl (ka 4, 52, .inl (w.1 4))), (qa 6, .inl (ka 5, 13, .inl (w.1 5)))] : va_W) H := hP
  have hD : va_D A ([(qa 0, .inr (0, [.ref (qa 1), .ref (qa 2), .ref (qa 3), .ref (qa 4), .ref (qa 5), .ref (qa 6), .int (w.2 0), .int (w.2 1), .int (w.2 2), .int ((w.2 3) + (1 : Int32))])), (qa 1, .inl (ka 0, 13, .inl (w.1 0))), (qa 2, .inl (ka 1, 13, .inl (w.1 1))), (qa 3, .inl (ka 2, 13, .inl (w.1 2))), (qa 4, .inl (ka 3, 13, .inl (w.1 3))), (qa 5, .inl (ka 4, 52, .inl (w.1 4))), (qa 6, .inl (ka 5, 13, .inl (w.1 5)))] : va_W) := hD
  refine lv_aload_n hx hb d_W_addType_10 rfl (lv_at hl 0 rfl) ?_
  refine va_get (D := (dC, dI)) (ci := 0) (v := .ref (qa 1)) (C := R_W) (T := F_W) (N := 10) hx hb hts i_W hown hK hP 0 rfl rfl 0 (by decide) (hts _ k_11) (fun _ h9 => h9) rfl d_W_addType_11 ?_
  refine lv_aload_n hx hb d_W_addType_14 rfl (lv_at hl 0 rfl) ?_
  refine va_get (D := (dC, dI)) (ci := 0) (v := .int ((w.2 3) + (1 : Int32))) (C := R_W) (T := F_W) (N := 10) hx hb hts i_W hown hK hP 0 rfl rfl 9 (by decide) (hts _ k_3) (fun _ h9 => h9) rfl d_W_addType_15 ?_
  refine lv_iload_n hx hb d_W_addType_18 rfl (lv_at hl 1 rfl) ?_
  have hi_1 : vp_in ((w.2 3) + (1 : Int32)) 13 := by first | with_reducible assumption | exact in_has hw (by with_reducible assumption) | exact in_cls hw (by with_reducible assumption) | exact in_ifc hw (by with_reducible assumption) | exact in_ext hw (by with_reducible assumption) | exact in_eq0 (by with_reducible assumption) | exact hfd (by with_reducible assumption) | exact in_rcv hw (by with_reducible assumption) (Or.inl (by with_reducible assumption)) | exact in_rcv hw (by with_reducible assumption) (Or.inr (by with_reducible assumption))
  refine va_iast (D := (dC, dI)) (f := (w.1 0)) hx hb hK hP hD hS 1 0 rfl rfl hi_1 d_W_addType_19 (fun H locs hP hD hS => ?_)
  have hP : va_P (dC, dI) classes ([(qa 0, .inr (0, [.ref (qa 1), .ref (qa 2), .ref (qa 3), .ref (qa 4), .ref (qa 5), .ref (qa 6), .int (w.2 0), .int (w.2 1), .int (w.2 2), .int ((w.2 3) + (1 : Int32))])), (qa 1, .inl (ka 0, 13, .inl (upd (w.1 0) ((w.2 3) + (1 : Int32)).toNatClampNeg p1))), (qa 2, .inl (ka 1, 13, .inl (w.1 1))), (qa 3, .inl (ka 2, 13, .inl (w.1 2))), (qa 4, .inl (ka 3, 13, .inl (w.1 3))), (qa 5, .inl (ka 4, 52, .inl (w.1 4))), (qa 6, .inl (ka 5, 13, .inl (w.1 5)))] : va_W) H := hP
  have hD : va_D A ([(qa 0, .inr (0, [.ref (qa 1), .ref (qa 2), .ref (qa 3), .ref (qa 4), .ref (qa 5), .ref (qa 6), .int (w.2 0), .int (w.2 1), .int (w.2 2), .int ((w.2 3) + (1 : Int32))])), (qa 1, .inl (ka 0, 13, .inl (upd (w.1 0) ((w.2 3) + (1 : Int32)).toNatClampNeg p1))), (qa 2, .inl (ka 1, 13, .inl (w.1 1))), (qa 3, .inl (ka 2, 13, .inl (w.1 2))), (qa 4, .inl (ka 3, 13, .inl (w.1 3))), (qa 5, .inl (ka 4, 52, .inl (w.1 4))), (qa 6, .inl (ka 5, 13, .inl (w.1 5)))] : va_W) := hD
  refine lv_aload_n hx hb d_W_addType_20 rfl (lv_at hl 0 rfl) ?_
  refine va_get (D := (dC, dI)) (ci := 0) (v := .ref (qa 2)) (C := R_W) (T := F_W) (N := 10) hx hb hts i_W hown hK hP 0 rfl rfl 1 (by decide) (hts _ k_12) (fun _ h9 => h9) rfl d_W_addType_21 ?_
  refine lv_aload_n hx hb d_W_addType_24 rfl (lv_at hl 0 rfl) ?_
  refine va_get (D := (dC, dI)) (ci := 0) (v := .int ((w.2 3) + (1 : Int32))) (C := R_W) (T := F_W) (N := 10) hx hb hts i_W hown hK hP 0 rfl rfl 9 (by decide) (hts _ k_3) (fun _ h9 => h9) rfl d_W_addType_25 ?_
  refine lv_iload_n hx hb d_W_addType_28 rfl (lv_at hl 2 rfl) ?_
  have hi_2 : vp_in ((w.2 3) + (1 : Int32)) 13 := by first | with_reducible assumption | exact in_has hw (by with_reducible assumption) | exact in_cls hw (by with_reducible assumption) | exact in_ifc hw (by with_reducible assumption) | exact in_ext hw (by with_reducible assumption) | exact in_eq0 (by with_reducible assumption) | exact hfd (by with_reducible assumption) | exact in_rcv hw (by with_reducible assumption) (Or.inl (by with_reducible assumption)) | exact in_rcv hw (by with_reducible assumption) (Or.inr (by with_reducible assumption))
  refine va_iast (D := (dC, dI)) (f := (w.1 1)) hx hb hK hP hD hS 2 1 rfl rfl hi_2 d_W_addType_29 (fun H locs hP hD hS => ?_)
  have hP : va_P (dC, dI) classes ([(qa 0, .inr (0, [.ref (qa 1), .ref (qa 2), .ref (qa 3), .ref (qa 4), .ref (qa 5), .ref (qa 6), .int (w.2 0), .int (w.2 1), .int (w.2 2), .int ((w.2 3) + (1 : Int32))])), (qa 1, .inl (ka 0, 13, .inl (upd (w.1 0) ((w.2 3) + (1 : Int32)).toNatClampNeg p1))), (qa 2, .inl (ka 1, 13, .inl (upd (w.1 1) ((w.2 3) + (1 : Int32)).toNatClampNeg p2))), (qa 3, .inl (ka 2, 13, .inl (w.1 2))), (qa 4, .inl (ka 3, 13, .inl (w.1 3))), (qa 5, .inl (ka 4, 52, .inl (w.1 4))), (qa 6, .inl (ka 5, 13, .inl (w.1 5)))] : va_W) H := hP
  have hD : va_D A ([(qa 0, .inr (0, [.ref (qa 1), .ref (qa 2), .ref (qa 3), .ref (qa 4), .ref (qa 5), .ref (qa 6), .int (w.2 0), .int (w.2 1), .int (w.2 2), .int ((w.2 3) + (1 : Int32))])), (qa 1, .inl (ka 0, 13, .inl (upd (w.1 0) ((w.2 3) + (1 : Int32)).toNatClampNeg p1))), (qa 2, .inl (ka 1, 13, .inl (upd (w.1 1) ((w.2 3) + (1 : Int32)).toNatClampNeg p2))), (qa 3, .inl (ka 2, 13, .inl (w.1 2))), (qa 4, .inl (ka 3, 13, .inl (w.1 3))), (qa 5, .inl (ka 4, 52, .inl (w.1 4))), (qa 6, .inl (ka 5, 13, .inl (w.1 5)))] : va_W) := hD
  refine lv_aload_n hx hb d_W_addType_30 rfl (lv_at hl 0 rfl) ?_
  refine va_get (D := (dC, dI)) (ci := 0) (v := .ref (qa 3)) (C := R_W) (T := F_W) (N := 10) hx hb hts i_W hown hK hP 0 rfl rfl 2 (by decide) (hts _ k_13) (fun _ h9 => h9) rfl d_W_addType_31 ?_
  refine lv_aload_n hx hb d_W_addType_34 rfl (lv_at hl 0 rfl) ?_
  refine va_get (D := (dC, dI)) (ci := 0) (v := .int ((w.2 3) + (1 : Int32))) (C := R_W) (T := F_W) (N := 10) hx hb hts i_W hown hK hP 0 rfl rfl 9 (by decide) (hts _ k_3) (fun _ h9 => h9) rfl d_W_addType_35 ?_
  refine lv_aload_n hx hb d_W_addType_38 rfl (lv_at hl 0 rfl) ?_
  refine va_get (D := (dC, dI)) (ci := 0) (v := .int ((w.2 3) + (1 : Int32))) (C := R_W) (T := F_W) (N := 10) hx hb hts i_W hown hK hP 0 rfl rfl 9 (by decide) (hts _ k_3) (fun _ h9 => h9) rfl d_W_addType_39 ?_
  have hi_3 : vp_in ((w.2 3) + (1 : Int32)) 13 := by first | with_reducible assumption | exact in_has hw (by with_reducible assumption) | exact in_cls hw (by with_reducible assumption) | exact in_ifc hw (by with_reducible assumption) | exact in_ext hw (by with_reducible assumption) | exact in_eq0 (by with_reducible assumption) | exact hfd (by with_reducible assumption) | exact in_rcv hw (by with_reducible assumption) (Or.inl (by with_reducible assumption)) | exact in_rcv hw (by with_reducible assumption) (Or.inr (by with_reducible assumption))
  refine va_iast (D := (dC, dI)) (f := (w.1 2)) hx hb hK hP hD hS 3 2 rfl rfl hi_3 d_W_addType_42 (fun H locs hP hD hS => ?_)
  have hP : va_P (dC, dI) classes ([(qa 0, .inr (0, [.ref (qa 1), .ref (qa 2), .ref (qa 3), .ref (qa 4), .ref (qa 5), .ref (qa 6), .int (w.2 0), .int (w.2 1), .int (w.2 2), .int ((w.2 3) + (1 : Int32))])), (qa 1, .inl (ka 0, 13, .inl (upd (w.1 0) ((w.2 3) + (1 : Int32)).toNatClampNeg p1))), (qa 2, .inl (ka 1, 13, .inl (upd (w.1 1) ((w.2 3) + (1 : Int32)).toNatClampNeg p2))), (qa 3, .inl (ka 2, 13, .inl (upd (w.1 2) ((w.2 3) + (1 : Int32)).toNatClampNeg ((w.2 3) + (1 : Int32))))), (qa 4, .inl (ka 3, 13, .inl (w.1 3))), (qa 5, .inl (ka 4, 52, .inl (w.1 4))), (qa 6, .inl (ka 5, 13, .inl (w.1 5)))] : va_W) H := hP
  have hD : va_D A ([(qa 0, .inr (0, [.ref (qa 1), .ref (qa 2), .ref (qa 3), .ref (qa 4), .ref (qa 5), .ref (qa 6), .int (w.2 0), .int (w.2 1), .int (w.2 2), .int ((w.2 3) + (1 : Int32))])), (qa 1, .inl (ka 0, 13, .inl (upd (w.1 0) ((w.2 3) + (1 : Int32)).toNatClampNeg p1))), (qa 2, .inl (ka 1, 13, .inl (upd (w.1 1) ((w.2 3) + (1 : Int32)).toNatClampNeg p2))), (qa 3, .inl (ka 2, 13, .inl (upd (w.1 2) ((w.2 3) + (1 : Int32)).toNatClampNeg ((w.2 3) + (1 : Int32))))), (qa 4, .inl (ka 3, 13, .inl (w.1 3))), (qa 5, .inl (ka 4, 52, .inl (w.1 4))), (qa 6, .inl (ka 5, 13, .inl (w.1 5)))] : va_W) := hD
  refine lv_aload_n hx hb d_W_addType_43 rfl (lv_at hl 0 rfl) ?_
  refine va_get (D := (dC, dI)) (ci := 0) (v := .ref (qa 6)) (C := R_W) (T := F_W) (N := 10) hx hb hts i_W hown hK hP 0 rfl rfl 5 (by decide) (hts _ k_14) (fun _ h9 => h9) rfl d_W_addType_44 ?_
  refine lv_aload_n hx hb d_W_addType_47 rfl (lv_at hl 0 rfl) ?_
  refine va_get (D := (dC, dI)) (ci := 0) (v := .int ((w.2 3) + (1 : Int32))) (C := R_W) (T := F_W) (N := 10) hx hb hts i_W hown hK hP 0 rfl rfl 9 (by decide) (hts _ k_3) (fun _ h9 => h9) rfl d_W_addType_48 ?_
  refine lv_aload_n hx hb d_W_addType_51 rfl (lv_at hl 0 rfl) ?_
  refine va_get (D := (dC, dI)) (ci := 0) (v := .ref (qa 6)) (C := R_W) (T := F_W) (N := 10) hx hb hts i_W hown hK hP 0 rfl rfl 5 (by decide) (hts _ k_14) (fun _ h9 => h9) rfl d_W_addType_52 ?_
  refine lv_iload_n hx hb d_W_addType_55 rfl (lv_at hl 1 rfl) ?_
  have hi_4 : vp_in p1 13 := by first | with_reducible assumption | exact in_has hw (by with_reducible assumption) | exact in_cls hw (by with_reducible assumption) | exact in_ifc hw (by with_reducible assumption) | exact in_ext hw (by with_reducible assumption) | exact in_eq0 (by with_reducible assumption) | exact hfd (by with_reducible assumption) | exact in_rcv hw (by with_reducible assumption) (Or.inl (by with_reducible assumption)) | exact in_rcv hw (by with_reducible assumption) (Or.inr (by with_reducible assumption))
  refine va_iald (D := (dC, dI)) (f := (w.1 5)) hx hb hK hP 6 5 rfl rfl hi_4 d_W_addType_56 ?_
  refine lv_iconst (v := (1 : Int32)) hx hb d_W_addType_57 (by decide +kernel) ?_
  refine lv_aload_n hx hb d_W_addType_58 rfl (lv_at hl 0 rfl) ?_
  refine va_get (D := (dC, dI)) (ci := 0) (v := .int ((w.2 3) + (1 : Int32))) (C := R_W) (T := F_W) (N := 10) hx hb hts i_W hown hK hP 0 rfl rfl 9 (by decide) (hts _ k_3) (fun _ h9 => h9) rfl d_W_addType_59 ?_
  refine lv_ishl hx hb d_W_addType_62 ?_
  refine lv_ior hx hb d_W_addType_63 ?_
  have hi_5 : vp_in ((w.2 3) + (1 : Int32)) 13 := by first | with_reducible assumption | exact in_has hw (by with_reducible assumption) | exact in_cls hw (by with_reducible assumption) | exact in_ifc hw (by with_reducible assumption) | exact in_ext hw (by with_reducible assumption) | exact in_eq0 (by with_reducible assumption) | exact hfd (by with_reducible assumption) | exact in_rcv hw (by with_reducible assumption) (Or.inl (by with_reducible assumption)) | exact in_rcv hw (by with_reducible assumption) (Or.inr (by with_reducible assumption))
  refine va_iast (D := (dC, dI)) (f := (w.1 5)) hx hb hK hP hD hS 6 5 rfl rfl hi_5 d_W_addType_64 (fun H locs hP hD hS => ?_)
  have hP : va_P (dC, dI) classes ([(qa 0, .inr (0, [.ref (qa 1), .ref (qa 2), .ref (qa 3), .ref (qa 4), .ref (qa 5), .ref (qa 6), .int (w.2 0), .int (w.2 1), .int (w.2 2), .int ((w.2 3) + (1 : Int32))])), (qa 1, .inl (ka 0, 13, .inl (upd (w.1 0) ((w.2 3) + (1 : Int32)).toNatClampNeg p1))), (qa 2, .inl (ka 1, 13, .inl (upd (w.1 1) ((w.2 3) + (1 : Int32)).toNatClampNeg p2))), (qa 3, .inl (ka 2, 13, .inl (upd (w.1 2) ((w.2 3) + (1 : Int32)).toNatClampNeg ((w.2 3) + (1 : Int32))))), (qa 4, .inl (ka 3, 13, .inl (w.1 3))), (qa 5, .inl (ka 4, 52, .inl (w.1 4))), (qa 6, .inl (ka 5, 13, .inl (upd (w.1 5) ((w.2 3) + (1 : Int32)).toNatClampNeg (((w.1 5) p1.toNatClampNeg) ||| ((1 : Int32) <<< (((w.2 3) + (1 : Int32)) &&& (31 : Int32)))))))] : va_W) H := hP
  have hD : va_D A ([(qa 0, .inr (0, [.ref (qa 1), .ref (qa 2), .ref (qa 3), .ref (qa 4), .ref (qa 5), .ref (qa 6), .int (w.2 0), .int (w.2 1), .int (w.2 2), .int ((w.2 3) + (1 : Int32))])), (qa 1, .inl (ka 0, 13, .inl (upd (w.1 0) ((w.2 3) + (1 : Int32)).toNatClampNeg p1))), (qa 2, .inl (ka 1, 13, .inl (upd (w.1 1) ((w.2 3) + (1 : Int32)).toNatClampNeg p2))), (qa 3, .inl (ka 2, 13, .inl (upd (w.1 2) ((w.2 3) + (1 : Int32)).toNatClampNeg ((w.2 3) + (1 : Int32))))), (qa 4, .inl (ka 3, 13, .inl (w.1 3))), (qa 5, .inl (ka 4, 52, .inl (w.1 4))), (qa 6, .inl (ka 5, 13, .inl (upd (w.1 5) ((w.2 3) + (1 : Int32)).toNatClampNeg (((w.1 5) p1.toNatClampNeg) ||| ((1 : Int32) <<< (((w.2 3) + (1 : Int32)) &&& (31 : Int32)))))))] : va_W) := hD
  refine lv_iload_n hx hb d_W_addType_65 rfl (lv_at hl 3 rfl) ?_
  refine lv_if_eq (tgt := 84) hx hb d_W_addType_66 (by decide) (fun c_6 => ?_) (fun c_6 => ?_)
  · have c_6 : p3 = (0 : Int32) := c_6
    refine lv_aload_n hx hb d_W_addType_84 rfl (lv_at hl 0 rfl) ?_
    refine va_get (D := (dC, dI)) (ci := 0) (v := .int ((w.2 3) + (1 : Int32))) (C := R_W) (T := F_W) (N := 10) hx hb hts i_W hown hK hP 0 rfl rfl 9 (by decide) (hts _ k_3) (fun _ h9 => h9) rfl d_W_addType_85 ?_
    have hP := wW_mk hP
    have hD := wW_mkD hD
    have hP9 : va_P (dC, dI) classes (wW ka qa (mk6 (upd (w.1 0) ((w.2 3) + (1 : Int32)).toNatClampNeg p1) (upd (w.1 1) ((w.2 3) + (1 : Int32)).toNatClampNeg p2) (upd (w.1 2) ((w.2 3) + (1 : Int32)).toNatClampNeg ((w.2 3) + (1 : Int32))) (w.1 3) (w.1 4) (upd (w.1 5) ((w.2 3) + (1 : Int32)).toNatClampNeg (((w.1 5) p1.toNatClampNeg) ||| ((1 : Int32) <<< (((w.2 3) + (1 : Int32)) &&& (31 : Int32))))), mk4 (w.2 0) (w.2 1) (w.2 2) ((w.2 3) + (1 : Int32)))) H := hP
    exact W.iret (v := ((w.2 3) + (1 : Int32))) hx hb hr (fun t ht hW => ⟨⟨((w.2 3) + (1 : Int32)), (mk6 (upd (w.1 0) ((w.2 3) + (1 : Int32)).toNatClampNeg p1) (upd (w.1 1) ((w.2 3) + (1 : Int32)).toNatClampNeg p2) (upd (w.1 2) ((w.2 3) + (1 : Int32)).toNatClampNeg ((w.2 3) + (1 : Int32))) (w.1 3) (w.1 4) (upd (w.1 5) ((w.2 3) + (1 : Int32)).toNatClampNeg (((w.1 5) p1.toNatClampNeg) ||| ((1 : Int32) <<< (((w.2 3) + (1 : Int32)) &&& (31 : Int32))))), mk4 (w.2 0) (w.2 1) (w.2 2) ((w.2 3) + (1 : Int32))), rfl, ⟨by unfold f_W_addType; rw [if_pos c_6], by unfold s_W_addType; rw [if_pos c_6]⟩, hp_at ht hP9⟩, hS.F ht⟩) hS.2.2 d_W_addType_88
  · have c_6 : ¬ (p3 = (0 : Int32)) := c_6
    refine lv_aload_n hx hb d_W_addType_69 rfl (lv_at hl 0 rfl) ?_
    refine lv_dup hx hb d_W_addType_70 rfl ?_
    refine va_get (D := (dC, dI)) (ci := 0) (v := .int (w.2 0)) (C := R_W) (T := F_W) (N := 10) hx hb hts i_W hown hK hP 0 rfl rfl 6 (by decide) (hts _ k_15) (fun _ h9 => h9) rfl d_W_addType_71 ?_
    refine lv_iconst (v := (1 : Int32)) hx hb d_W_addType_74 (by decide +kernel) ?_
    refine lv_aload_n hx hb d_W_addType_75 rfl (lv_at hl 0 rfl) ?_
    refine va_get (D := (dC, dI)) (ci := 0) (v := .int ((w.2 3) + (1 : Int32))) (C := R_W) (T := F_W) (N := 10) hx hb hts i_W hown hK hP 0 rfl rfl 9 (by decide) (hts _ k_3) (fun _ h9 => h9) rfl d_W_addType_76 ?_
    refine lv_ishl hx hb d_W_addType_79 ?_
    refine lv_ior hx hb d_W_addType_80 ?_
    refine va_put (D := (dC, dI)) (ci := 0) (v := .int ((w.2 0) ||| ((1 : Int32) <<< (((w.2 3) + (1 : Int32)) &&& (31 : Int32))))) (ty := .int) (C := R_W) (T := F_W) (N := 10) hx hb hts i_W t_W t_W_ok n_W hown hK hP hD hS 0 rfl rfl 6 (by decide) (hts _ k_15) (fun _ h9 => h9) rfl (by decide +kernel) rfl rfl (Nat.le_of_ble_eq_true rfl) d_W_addType_81 (fun H locs hP hD hS => ?_)
    have hP : va_P (dC, dI) classes ([(qa 0, .inr (0, [.ref (qa 1), .ref (qa 2), .ref (qa 3), .ref (qa 4), .ref (qa 5), .ref (qa 6), .int ((w.2 0) ||| ((1 : Int32) <<< (((w.2 3) + (1 : Int32)) &&& (31 : Int32)))), .int (w.2 1), .int (w.2 2), .int ((w.2 3) + (1 : Int32))])), (qa 1, .inl (ka 0, 13, .inl (upd (w.1 0) ((w.2 3) + (1 : Int32)).toNatClampNeg p1))), (qa 2, .inl (ka 1, 13, .inl (upd (w.1 1) ((w.2 3) + (1 : Int32)).toNatClampNeg p2))), (qa 3, .inl (ka 2, 13, .inl (upd (w.1 2) ((w.2 3) + (1 : Int32)).toNatClampNeg ((w.2 3) + (1 : Int32))))), (qa 4, .inl (ka 3, 13, .inl (w.1 3))), (qa 5, .inl (ka 4, 52, .inl (w.1 4))), (qa 6, .inl (ka 5, 13, .inl (upd (w.1 5) ((w.2 3) + (1 : Int32)).toNatClampNeg (((w.1 5) p1.toNatClampNeg) ||| ((1 : Int32) <<< (((w.2 3) + (1 : Int32)) &&& (31 : Int32)))))))] : va_W) H := hP
    have hD : va_D A ([(qa 0, .inr (0, [.ref (qa 1), .ref (qa 2), .ref (qa 3), .ref (qa 4), .ref (qa 5), .ref (qa 6), .int ((w.2 0) ||| ((1 : Int32) <<< (((w.2 3) + (1 : Int32)) &&& (31 : Int32)))), .int (w.2 1), .int (w.2 2), .int ((w.2 3) + (1 : Int32))])), (qa 1, .inl (ka 0, 13, .inl (upd (w.1 0) ((w.2 3) + (1 : Int32)).toNatClampNeg p1))), (qa 2, .inl (ka 1, 13, .inl (upd (w.1 1) ((w.2 3) + (1 : Int32)).toNatClampNeg p2))), (qa 3, .inl (ka 2, 13, .inl (upd (w.1 2) ((w.2 3) + (1 : Int32)).toNatClampNeg ((w.2 3) + (1 : Int32))))), (qa 4, .inl (ka 3, 13, .inl (w.1 3))), (qa 5, .inl (ka 4, 52, .inl (w.1 4))), (qa 6, .inl (ka 5, 13, .inl (upd (w.1 5) ((w.2 3) + (1 : Int32)).toNatClampNeg (((w.1 5) p1.toNatClampNeg) ||| ((1 : Int32) <<< (((w.2 3) + (1 : Int32)) &&& (31 : Int32)))))))] : va_W) := hD
    refine lv_aload_n hx hb d_W_addType_84 rfl (lv_at hl 0 rfl) ?_
    refine va_get (D := (dC, dI)) (ci := 0) (v := .int ((w.2 3) + (1 : Int32))) (C := R_W) (T := F_W) (N := 10) hx hb hts i_W hown hK hP 0 rfl rfl 9 (by decide) (hts _ k_3) (fun _ h9 => h9) rfl d_W_addType_85 ?_
    have hP := wW_mk hP
    have hD := wW_mkD hD
    have hP9 : va_P (dC, dI) classes (wW ka qa (mk6 (upd (w.1 0) ((w.2 3) + (1 : Int32)).toNatClampNeg p1) (upd (w.1 1) ((w.2 3) + (1 : Int32)).toNatClampNeg p2) (upd (w.1 2) ((w.2 3) + (1 : Int32)).toNatClampNeg ((w.2 3) + (1 : Int32))) (w.1 3) (w.1 4) (upd (w.1 5) ((w.2 3) + (1 : Int32)).toNatClampNeg (((w.1 5) p1.toNatClampNeg) ||| ((1 : Int32) <<< (((w.2 3) + (1 : Int32)) &&& (31 : Int32))))), mk4 ((w.2 0) ||| ((1 : Int32) <<< (((w.2 3) + (1 : Int32)) &&& (31 : Int32)))) (w.2 1) (w.2 2) ((w.2 3) + (1 : Int32)))) H := hP
    exact W.iret (v := ((w.2 3) + (1 : Int32))) hx hb hr (fun t ht hW => ⟨⟨((w.2 3) + (1 : Int32)), (mk6 (upd (w.1 0) ((w.2 3) + (1 : Int32)).toNatClampNeg p1) (upd (w.1 1) ((w.2 3) + (1 : Int32)).toNatClampNeg p2) (upd (w.1 2) ((w.2 3) + (1 : Int32)).toNatClampNeg ((w.2 3) + (1 : Int32))) (w.1 3) (w.1 4) (upd (w.1 5) ((w.2 3) + (1 : Int32)).toNatClampNeg (((w.1 5) p1.toNatClampNeg) ||| ((1 : Int32) <<< (((w.2 3) + (1 : Int32)) &&& (31 : Int32))))), mk4 ((w.2 0) ||| ((1 : Int32) <<< (((w.2 3) + (1 : Int32)) &&& (31 : Int32)))) (w.2 1) (w.2 2) ((w.2 3) + (1 : Int32))), rfl, ⟨by unfold f_W_addType; rw [if_neg c_6], by unfold s_W_addType; rw [if_neg c_6]⟩, hp_at ht hP9⟩, hS.F ht⟩) hS.2.2 d_W_addType_88
set_option maxHeartbeats 1000000 in
set_option maxRecDepth 100000 in
theorem c_W_addClass (l : Launch) (dC : Nat → ClassId) (dI : Nat → Nat → Nat) (ka : Nat → ClassId) (qa : Nat → Nat) (sz : Nat) (w : WS) (p1 p2 p3 p4 : Int32) (hp1 : vp_in p1 13) (hc : vp_in ((w.2 3) + (1 : Int32)) 13) : Met l y_W_addClass w_W_addClass ({ frames := 1, cells := 0, slots := 0, locals := 23 } : Room) (mu_P dC dI (wW ka qa w) (tW ka) sz [.ref (qa 0), .int p1, .int p2, .int p3, .int p4]) (mu_Q (fun (S9 : WS) => (wW ka qa S9)) dC dI (f_W_addClass w p1 p2 p3 p4) (s_W_addClass w p1 p2 p3 p4) (va_A (wW ka qa w) sz)) 0 0 (va_A (wW ka qa w) sz) := by
  refine Met.ofW (cc := b_W_addClass) (maxL := 6) (ret := (some .int)) (by decide) rfl ?_
  intro p e s m args below meth c s₁ B hml hv
  obtain ⟨rfl, hsz, hP, hK, hN, hD0⟩ := hv
  have hx := B.exec
  have hb := B.bytes
  have hr := B.returns
  have hts := tl_of (atoms_spec (ws := w_W_addClass) B.pre)
  have hown : s.vm.findClass R_W = some m.cls := findClass_of_methodNamed B.named
  have hlocks := B.notSynchronized
  subst hsz
  have hD := hD0.self (sz := s.heap.size)
  generalize hAe : va_A (wW ka qa w) s.heap.size = A at hD ⊢
  have hA : ∀ q : Nat, s.heap.size ≤ q → A q := fun q h => by rw [← hAe]; exact Or.inr h
  have hS : va_S A s.heap s.heap [] := va_S.rf
  have hl := lv_entry ([.ref (qa 0), .int p1, .int p2, .int p3, .int p4]) (n := 6) (Nat.le_of_ble_eq_true rfl)
  rw [lg_entry_eq]
  generalize (lg_sl ([.ref (qa 0), .int p1, .int p2, .int p3, .int p4]) ++ List.replicate (6 - (lg_sl ([.ref (qa 0), .int p1, .int p2, .int p3, .int p4])).length) Slot.unset).toArray = ls at hl ⊢
  have hl : lv_has ls 6 [(0, .ref (qa 0)), (1, .int p1), (2, .int p2), (3, .int p3), (4, .int p4)] := hl
  refine lv_aload_n hx hb d_W_addClass_0 rfl (lv_at hl 0 rfl) ?_
  refine lv_iload_n hx hb d_W_addClass_1 rfl (lv_at hl 1 rfl) ?_
  refine lv_iload_n hx hb d_W_addClass_2 rfl (lv_at hl 2 rfl) ?_
  refine lv_iload_n hx hb d_W_addClass_3 rfl (lv_at hl 3 rfl) ?_
  have hq_1 : vp_in p1 13 := by first | with_reducible assumption | exact in_has hw (by with_reducible assumption) | exact in_cls hw (by with_reducible assumption) | exact in_ifc hw (by with_reducible assumption) | exact in_ext hw (by with_reducible assumption) | exact in_eq0 (by with_reducible assumption) | exact hfd (by with_reducible assumption) | exact in_rcv hw (by with_reducible assumption) (Or.inl (by with_reducible assumption)) | exact in_rcv hw (by with_reducible assumption) (Or.inr (by with_reducible assumption))
  have hq_2 : vp_in ((w.2 3) + (1 : Int32)) 13 := by first | with_reducible assumption | exact in_full hw (by with_reducible assumption)
  have hPc := hP.sub (ws' := (wW ka qa w)) [0, 1, 2, 3, 4, 5, 6] rfl
  have hDc := hD.sub (ws' := (wW ka qa w)) [0, 1, 2, 3, 4, 5, 6] (by decide) rfl
  have hFc := va_free (wc := (wW ka qa w)) hD hS hA [0, 1, 2, 3, 4, 5, 6] rfl
  refine va_calli (va_runV (As := [.int p1, .int p2, .int p3]) (rest := []) ⟨hx, hb, hml, hown, hts⟩ (c_W_addType l dC dI ka qa s.heap.size w  p1 p2 p3 hq_1 hq_2) (cwV 3 hts k_g7 rfl rfl rfl (by decide +kernel) ⟨Nat.le_of_ble_eq_true rfl, Nat.le_of_ble_eq_true rfl⟩) ⟨fb_mu, va_recv hK hP (ci := 0) (q0 := 0) rfl rfl, fun U hU hW => ⟨rfl, by rw [hU], by rw [hU]; exact hPc, va_K.moved hW.alike (hK.sub (tys' := (tW ka)) [0, 1, 2, 3, 4, 5] rfl), NX.warm hW hN, hDc.weaken (fun _ _ _ _ => trivial)⟩⟩ rfl rfl hl.1 rfl (lv_room (Nat.le_of_ble_eq_true rfl)) d_W_addClass_4 ⟨Nat.zero_le _, Nat.zero_le _⟩) hS (fun q _ h => hFc q h) hFc (fun r u t H1 locs ht hvm hpo hB hz1 hk1 hS => ?_)
  obtain ⟨rfl, rfl⟩ := hpo
  have hB : va_P (dC, dI) classes (wW ka qa (s_W_addType w p1 p2 p3)) H1 := hp_to ht hB
  obtain ⟨hP, hD⟩ := va_join (wr := ([] : va_W)) (w1 := (wW ka qa (s_W_addType w p1 p2 p3))) hP hD [0, 1, 2, 3, 4, 5, 6] [] rfl rfl (by decide) (by decide) hk1 hFc hB (ad_D hDc.self rfl)
  have hP := hP.sub (ws' := (wW ka qa (s_W_addType w p1 p2 p3))) [0, 1, 2, 3, 4, 5, 6] rfl
  have hD := hD.sub (ws' := (wW ka qa (s_W_addType w p1 p2 p3))) [0, 1, 2, 3, 4, 5, 6] (by decide) rfl
  generalize hS_3 : (s_W_addType w p1 p2 p3) = S_3 at hP hD
  generalize H1 = H at hP hS ⊢
  refine lv_istore (lv' := [(5, .int (f_W_addType w p1 p2 p3)), (0, .ref (qa 0)), (1, .int p1), (2, .int p2), (3, .int p3), (4, .int p4)]) hx hb d_W_addClass_7 hl (by decide) rfl (fun ls hl => ?_)
  refine lv_iload hx hb d_W_addClass_9 (lv_at hl 5 rfl) ?_
  refine lv_if_eq (tgt := 27) hx hb d_W_addClass_11 (by decide) (fun c_4 => ?_) (fun c_4 => ?_)
  · have c_4 : p4 = (0 : Int32) := c_4
    refine lv_iload hx hb d_W_addClass_27 (lv_at hl 0 rfl) ?_
    have hP9 : va_P (dC, dI) classes (wW ka qa S_3) H := hP
    exact W.iret (v := (f_W_addType w p1 p2 p3)) hx hb hr (fun t ht hW => ⟨⟨(f_W_addType w p1 p2 p3), S_3, rfl, ⟨by subst hS_3; unfold f_W_addClass; rw [if_pos c_4], by subst hS_3; unfold s_W_addClass; rw [if_pos c_4]⟩, hp_at ht hP9⟩, hS.F ht⟩) hS.2.2 d_W_addClass_29
  · have c_4 : ¬ (p4 = (0 : Int32)) := c_4
    refine lv_aload_n hx hb d_W_addClass_14 rfl (lv_at hl 1 rfl) ?_
    refine lv_dup hx hb d_W_addClass_15 rfl ?_
    refine va_get (D := (dC, dI)) (ci := 0) (v := .int (S_3.2 1)) (C := R_W) (T := F_W) (N := 10) hx hb hts i_W hown hK hP 0 rfl rfl 7 (by decide) (hts _ k_8) (fun _ h9 => h9) rfl d_W_addClass_16 ?_
    refine lv_iconst (v := (1 : Int32)) hx hb d_W_addClass_19 (by decide +kernel) ?_
    refine lv_iload hx hb d_W_addClass_20 (lv_at hl 0 rfl) ?_
    refine lv_ishl hx hb d_W_addClass_22 ?_
    refine lv_ior hx hb d_W_addClass_23 ?_
    refine va_put (D := (dC, dI)) (ci := 0) (v := .int ((S_3.2 1) ||| ((1 : Int32) <<< ((f_W_addType w p1 p2 p3) &&& (31 : Int32))))) (ty := .int) (C := R_W) (T := F_W) (N := 10) hx hb hts i_W t_W t_W_ok n_W hown hK hP hD hS 0 rfl rfl 7 (by decide) (hts _ k_8) (fun _ h9 => h9) rfl (by decide +kernel) rfl rfl (Nat.le_of_ble_eq_true rfl) d_W_addClass_24 (fun H locs hP hD hS => ?_)
    have hP : va_P (dC, dI) classes ([(qa 0, .inr (0, [.ref (qa 1), .ref (qa 2), .ref (qa 3), .ref (qa 4), .ref (qa 5), .ref (qa 6), .int (S_3.2 0), .int ((S_3.2 1) ||| ((1 : Int32) <<< ((f_W_addType w p1 p2 p3) &&& (31 : Int32)))), .int (S_3.2 2), .int (S_3.2 3)])), (qa 1, .inl (ka 0, 13, .inl (S_3.1 0))), (qa 2, .inl (ka 1, 13, .inl (S_3.1 1))), (qa 3, .inl (ka 2, 13, .inl (S_3.1 2))), (qa 4, .inl (ka 3, 13, .inl (S_3.1 3))), (qa 5, .inl (ka 4, 52, .inl (S_3.1 4))), (qa 6, .inl (ka 5, 13, .inl (S_3.1 5)))] : va_W) H := hP
    have hD : va_D A ([(qa 0, .inr (0, [.ref (qa 1), .ref (qa 2), .ref (qa 3), .ref (qa 4), .ref (qa 5), .ref (qa 6), .int (S_3.2 0), .int ((S_3.2 1) ||| ((1 : Int32) <<< ((f_W_addType w p1 p2 p3) &&& (31 : Int32)))), .int (S_3.2 2), .int (S_3.2 3)])), (qa 1, .inl (ka 0, 13, .inl (S_3.1 0))), (qa 2, .inl (ka 1, 13, .inl (S_3.1 1))), (qa 3, .inl (ka 2, 13, .inl (S_3.1 2))), (qa 4, .inl (ka 3, 13, .inl (S_3.1 3))), (qa 5, .inl (ka 4, 52, .inl (S_3.1 4))), (qa 6, .inl (ka 5, 13, .inl (S_3.1 5)))] : va_W) := hD
    refine lv_iload hx hb d_W_addClass_27 (lv_at hl 0 rfl) ?_
    have hP := wW_mk hP
    have hD := wW_mkD hD
    have hP9 : va_P (dC, dI) classes (wW ka qa (mk6 (S_3.1 0) (S_3.1 1) (S_3.1 2) (S_3.1 3) (S_3.1 4) (S_3.1 5), mk4 (S_3.2 0) ((S_3.2 1) ||| ((1 : Int32) <<< ((f_W_addType w p1 p2 p3) &&& (31 : Int32)))) (S_3.2 2) (S_3.2 3))) H := hP
    exact W.iret (v := (f_W_addType w p1 p2 p3)) hx hb hr (fun t ht hW => ⟨⟨(f_W_addType w p1 p2 p3), (mk6 (S_3.1 0) (S_3.1 1) (S_3.1 2) (S_3.1 3) (S_3.1 4) (S_3.1 5), mk4 (S_3.2 0) ((S_3.2 1) ||| ((1 : Int32) <<< ((f_W_addType w p1 p2 p3) &&& (31 : Int32)))) (S_3.2 2) (S_3.2 3)), rfl, ⟨by subst hS_3; unfold f_W_addClass; rw [if_neg c_4], by subst hS_3; unfold s_W_addClass; rw [if_neg c_4]⟩, hp_at ht hP9⟩, hS.F ht⟩) hS.2.2 d_W_addClass_29
set_option maxHeartbeats 1000000 in
set_option maxRecDepth 100000 in
theorem c_W_addInterface (l : Launch) (dC : Nat → ClassId) (dI : Nat → Nat → Nat) (ka : Nat → ClassId) (qa : Nat → Nat) (sz : Nat) (w : WS) (p1 p2 : Int32) (hc : vp_in ((w.2 3) + (1 : Int32)) 13) : Met l y_W_addInterface w_W_addInterface ({ frames := 1, cells := 0, slots := 0, locals := 23 } : Room) (mu_P dC dI (wW ka qa w) (tW ka) sz [.ref (qa 0), .int p1, .int p2]) (mu_Q (fun (S9 : WS) => (wW ka qa S9)) dC dI (f_W_addInterface w p1 p2) (s_W_addInterface w p1 p2) (va_A (wW ka qa w) sz)) 0 0 (va_A (wW ka qa w) sz) := by
  refine Met.ofW (cc := b_W_addInterface) (maxL := 4) (ret := (some .int)) (by decide) rfl ?_
  intro p e s m args below meth c s₁ B hml hv
  obtain ⟨rfl, hsz, hP, hK, hN, hD0⟩ := hv
  have hx := B.exec
  have hb := B.bytes
  have hr := B.returns
  have hts := tl_of (atoms_spec (ws := w_W_addInterface) B.pre)
  have hown : s.vm.findClass R_W = some m.cls := findClass_of_methodNamed B.named
  have hlocks := B.notSynchronized
  subst hsz
  have hD := hD0.self (sz := s.heap.size)
  generalize hAe : va_A (wW ka qa w) s.heap.size = A at hD ⊢
  have hA : ∀ q : Nat, s.heap.size ≤ q → A q := fun q h => by rw [← hAe]; exact Or.inr h
  have hS : va_S A s.heap s.heap [] := va_S.rf
  have hl := lv_entry ([.ref (qa 0), .int p1, .int p2]) (n := 4) (Nat.le_of_ble_eq_true rfl)
  rw [lg_entry_eq]
  generalize (lg_sl ([.ref (qa 0), .int p1, .int p2]) ++ List.replicate (4 - (lg_sl ([.ref (qa 0), .int p1, .int p2])).length) Slot.unset).toArray = ls at hl ⊢
  have hl : lv_has ls 4 [(0, .ref (qa 0)), (1, .int p1), (2, .int p2)] := hl
  refine lv_aload_n hx hb d_W_addInterface_0 rfl (lv_at hl 0 rfl) ?_
  refine lv_iconst (v := (0 : Int32)) hx hb d_W_addInterface_1 (by decide +kernel) ?_
  refine lv_iload_n hx hb d_W_addInterface_2 rfl (lv_at hl 1 rfl) ?_
  refine lv_iload_n hx hb d_W_addInterface_3 rfl (lv_at hl 2 rfl) ?_
  have hq_1 : vp_in (0 : Int32) 13 := by exact in_0
  have hq_2 : vp_in ((w.2 3) + (1 : Int32)) 13 := by first | with_reducible assumption | exact in_full hw (by with_reducible assumption)
  have hPc := hP.sub (ws' := (wW ka qa w)) [0, 1, 2, 3, 4, 5, 6] rfl
  have hDc := hD.sub (ws' := (wW ka qa w)) [0, 1, 2, 3, 4, 5, 6] (by decide) rfl
  have hFc := va_free (wc := (wW ka qa w)) hD hS hA [0, 1, 2, 3, 4, 5, 6] rfl
  refine va_calli (va_runV (As := [.int (0 : Int32), .int p1, .int p2]) (rest := []) ⟨hx, hb, hml, hown, hts⟩ (c_W_addType l dC dI ka qa s.heap.size w  (0 : Int32) p1 p2 hq_1 hq_2) (cwV 3 hts k_g7 rfl rfl rfl (by decide +kernel) ⟨Nat.le_of_ble_eq_true rfl, Nat.le_of_ble_eq_true rfl⟩) ⟨fb_mu, va_recv hK hP (ci := 0) (q0 := 0) rfl rfl, fun U hU hW => ⟨rfl, by rw [hU], by rw [hU]; exact hPc, va_K.moved hW.alike (hK.sub (tys' := (tW ka)) [0, 1, 2, 3, 4, 5] rfl), NX.warm hW hN, hDc.weaken (fun _ _ _ _ => trivial)⟩⟩ rfl rfl hl.1 rfl (lv_room (Nat.le_of_ble_eq_true rfl)) d_W_addInterface_4 ⟨Nat.zero_le _, Nat.zero_le _⟩) hS (fun q _ h => hFc q h) hFc (fun r u t H1 locs ht hvm hpo hB hz1 hk1 hS => ?_)
  obtain ⟨rfl, rfl⟩ := hpo
  have hB : va_P (dC, dI) classes (wW ka qa (s_W_addType w (0 : Int32) p1 p2)) H1 := hp_to ht hB
  obtain ⟨hP, hD⟩ := va_join (wr := ([] : va_W)) (w1 := (wW ka qa (s_W_addType w (0 : Int32) p1 p2))) hP hD [0, 1, 2, 3, 4, 5, 6] [] rfl rfl (by decide) (by decide) hk1 hFc hB (ad_D hDc.self rfl)
  have hP := hP.sub (ws' := (wW ka qa (s_W_addType w (0 : Int32) p1 p2))) [0, 1, 2, 3, 4, 5, 6] rfl
  have hD := hD.sub (ws' := (wW ka qa (s_W_addType w (0 : Int32) p1 p2))) [0, 1, 2, 3, 4, 5, 6] (by decide) rfl
  generalize hS_3 : (s_W_addType w (0 : Int32) p1 p2) = S_3 at hP hD
  generalize H1 = H at hP hS ⊢
  refine lv_istore_n (lv' := [(3, .int (f_W_addType w (0 : Int32) p1 p2)), (0, .ref (qa 0)), (1, .int p1), (2, .int p2)]) hx hb d_W_addInterface_7 rfl hl (by decide) rfl (fun ls hl => ?_)
  refine lv_aload_n hx hb d_W_addInterface_8 rfl (lv_at hl 1 rfl) ?_
  refine lv_dup hx hb d_W_addInterface_9 rfl ?_
  refine va_get (D := (dC, dI)) (ci := 0) (v := .int (S_3.2 2)) (C := R_W) (T := F_W) (N := 10) hx hb hts i_W hown hK hP 0 rfl rfl 8 (by decide) (hts _ k_4) (fun _ h9 => h9) rfl d_W_addInterface_10 ?_
  refine lv_iconst (v := (1 : Int32)) hx hb d_W_addInterface_13 (by decide +kernel) ?_
  refine lv_iload_n hx hb d_W_addInterface_14 rfl (lv_at hl 0 rfl) ?_
  refine lv_ishl hx hb d_W_addInterface_15 ?_
  refine lv_ior hx hb d_W_addInterface_16 ?_
  refine va_put (D := (dC, dI)) (ci := 0) (v := .int ((S_3.2 2) ||| ((1 : Int32) <<< ((f_W_addType w (0 : Int32) p1 p2) &&& (31 : Int32))))) (ty := .int) (C := R_W) (T := F_W) (N := 10) hx hb hts i_W t_W t_W_ok n_W hown hK hP hD hS 0 rfl rfl 8 (by decide) (hts _ k_4) (fun _ h9 => h9) rfl (by decide +kernel) rfl rfl (Nat.le_of_ble_eq_true rfl) d_W_addInterface_17 (fun H locs hP hD hS => ?_)
  have hP : va_P (dC, dI) classes ([(qa 0, .inr (0, [.ref (qa 1), .ref (qa 2), .ref (qa 3), .ref (qa 4), .ref (qa 5), .ref (qa 6), .int (S_3.2 0), .int (S_3.2 1), .int ((S_3.2 2) ||| ((1 : Int32) <<< ((f_W_addType w (0 : Int32) p1 p2) &&& (31 : Int32)))), .int (S_3.2 3)])), (qa 1, .inl (ka 0, 13, .inl (S_3.1 0))), (qa 2, .inl (ka 1, 13, .inl (S_3.1 1))), (qa 3, .inl (ka 2, 13, .inl (S_3.1 2))), (qa 4, .inl (ka 3, 13, .inl (S_3.1 3))), (qa 5, .inl (ka 4, 52, .inl (S_3.1 4))), (qa 6, .inl (ka 5, 13, .inl (S_3.1 5)))] : va_W) H := hP
  have hD : va_D A ([(qa 0, .inr (0, [.ref (qa 1), .ref (qa 2), .ref (qa 3), .ref (qa 4), .ref (qa 5), .ref (qa 6), .int (S_3.2 0), .int (S_3.2 1), .int ((S_3.2 2) ||| ((1 : Int32) <<< ((f_W_addType w (0 : Int32) p1 p2) &&& (31 : Int32)))), .int (S_3.2 3)])), (qa 1, .inl (ka 0, 13, .inl (S_3.1 0))), (qa 2, .inl (ka 1, 13, .inl (S_3.1 1))), (qa 3, .inl (ka 2, 13, .inl (S_3.1 2))), (qa 4, .inl (ka 3, 13, .inl (S_3.1 3))), (qa 5, .inl (ka 4, 52, .inl (S_3.1 4))), (qa 6, .inl (ka 5, 13, .inl (S_3.1 5)))] : va_W) := hD
  refine lv_iload_n hx hb d_W_addInterface_20 rfl (lv_at hl 0 rfl) ?_
  have hP := wW_mk hP
  have hD := wW_mkD hD
  have hP9 : va_P (dC, dI) classes (wW ka qa (mk6 (S_3.1 0) (S_3.1 1) (S_3.1 2) (S_3.1 3) (S_3.1 4) (S_3.1 5), mk4 (S_3.2 0) (S_3.2 1) ((S_3.2 2) ||| ((1 : Int32) <<< ((f_W_addType w (0 : Int32) p1 p2) &&& (31 : Int32)))) (S_3.2 3))) H := hP
  exact W.iret (v := (f_W_addType w (0 : Int32) p1 p2)) hx hb hr (fun t ht hW => ⟨⟨(f_W_addType w (0 : Int32) p1 p2), (mk6 (S_3.1 0) (S_3.1 1) (S_3.1 2) (S_3.1 3) (S_3.1 4) (S_3.1 5), mk4 (S_3.2 0) (S_3.2 1) ((S_3.2 2) ||| ((1 : Int32) <<< ((f_W_addType w (0 : Int32) p1 p2) &&& (31 : Int32)))) (S_3.2 3)), rfl, ⟨by subst hS_3; rfl, by subst hS_3; rfl⟩, hp_at ht hP9⟩, hS.F ht⟩) hS.2.2 d_W_addInterface_21
set_option maxHeartbeats 1000000 in
set_option maxRecDepth 100000 in
theorem c_W_addDirect (l : Launch) (dC : Nat → ClassId) (dI : Nat → Nat → Nat) (ka : Nat → ClassId) (qa : Nat → Nat) (sz : Nat) (w : WS) (p1 p2 : Int32) (hw : WF w) (hp1 : vp_in p1 13) (hp2 : vp_in p2 13) (hd : vp_in ((p1 * (4 : Int32)) + ((w.1 3) p1.toNatClampNeg)) 52) : Met l y_W_addDirect w_W_addDirect ({ frames := 1, cells := 0, slots := 0, locals := 21 } : Room) (mu_P dC dI (wW ka qa w) (tW ka) sz [.ref (qa 0), .int p1, .int p2]) (mu_Q (fun (S9 : WS) => (wW ka qa S9)) dC dI (f_W_addDirect w p1 p2) (s_W_addDirect w p1 p2) (va_A (wW ka qa w) sz)) 0 0 (va_A (wW ka qa w) sz) := by
  refine Met.ofW (cc := b_W_addDirect) (maxL := 4) (ret := (some .int)) (by decide) rfl ?_
  intro p e s m args below meth c s₁ B hml hv
  obtain ⟨rfl, hsz, hP, hK, hN, hD0⟩ := hv
  have hx := B.exec
  have hb := B.bytes
  have hr := B.returns
  have hts := tl_of (atoms_spec (ws := w_W_addDirect) B.pre)
  have hown : s.vm.findClass R_W = some m.cls := findClass_of_methodNamed B.named
  have hlocks := B.notSynchronized
  subst hsz
  have hD := hD0.self (sz := s.heap.size)
  generalize hAe : va_A (wW ka qa w) s.heap.size = A at hD ⊢
  have hA : ∀ q : Nat, s.heap.size ≤ q → A q := fun q h => by rw [← hAe]; exact Or.inr h
  have hS : va_S A s.heap s.heap [] := va_S.rf
  have hl := lv_entry ([.ref (qa 0), .int p1, .int p2]) (n := 4) (Nat.le_of_ble_eq_true rfl)
  rw [lg_entry_eq]
  generalize (lg_sl ([.ref (qa 0), .int p1, .int p2]) ++ List.replicate (4 - (lg_sl ([.ref (qa 0), .int p1, .int p2])).length) Slot.unset).toArray = ls at hl ⊢
  have hl : lv_has ls 4 [(0, .ref (qa 0)), (1, .int p1), (2, .int p2)] := hl
  refine lv_aload_n hx hb d_W_addDirect_0 rfl (lv_at hl 0 rfl) ?_
  refine va_get (D := (dC, dI)) (ci := 0) (v := .ref (qa 5)) (C := R_W) (T := F_W) (N := 10) hx hb hts i_W hown hK hP 0 rfl rfl 4 (by decide) (hts _ k_10) (fun _ h9 => h9) rfl d_W_addDirect_1 ?_
  refine lv_iload_n hx hb d_W_addDirect_4 rfl (lv_at hl 1 rfl) ?_
  refine lv_iconst (v := (4 : Int32)) hx hb d_W_addDirect_5 (by decide +kernel) ?_
  refine lv_imul hx hb d_W_addDirect_6 ?_
  refine lv_aload_n hx hb d_W_addDirect_7 rfl (lv_at hl 0 rfl) ?_
  refine va_get (D := (dC, dI)) (ci := 0) (v := .ref (qa 4)) (C := R_W) (T := F_W) (N := 10) hx hb hts i_W hown hK hP 0 rfl rfl 3 (by decide) (hts _ k_9) (fun _ h9 => h9) rfl d_W_addDirect_8 ?_
  refine lv_iload_n hx hb d_W_addDirect_11 rfl (lv_at hl 1 rfl) ?_
  have hi_1 : vp_in p1 13 := by first | with_reducible assumption | exact in_has hw (by with_reducible assumption) | exact in_cls hw (by with_reducible assumption) | exact in_ifc hw (by with_reducible assumption) | exact in_ext hw (by with_reducible assumption) | exact in_eq0 (by with_reducible assumption) | exact hfd (by with_reducible assumption) | exact in_rcv hw (by with_reducible assumption) (Or.inl (by with_reducible assumption)) | exact in_rcv hw (by with_reducible assumption) (Or.inr (by with_reducible assumption))
  refine va_iald (D := (dC, dI)) (f := (w.1 3)) hx hb hK hP 4 3 rfl rfl hi_1 d_W_addDirect_12 ?_
  refine lv_iadd hx hb d_W_addDirect_13 ?_
  refine lv_iload_n hx hb d_W_addDirect_14 rfl (lv_at hl 2 rfl) ?_
  have hi_2 : vp_in ((p1 * (4 : Int32)) + ((w.1 3) p1.toNatClampNeg)) 52 := by first | with_reducible assumption | exact in_52 (by first | with_reducible assumption | exact in_has hw (by with_reducible assumption) | exact in_cls hw (by with_reducible assumption) | exact in_ifc hw (by with_reducible assumption) | exact in_ext hw (by with_reducible assumption) | exact in_eq0 (by with_reducible assumption) | exact hfd (by with_reducible assumption) | exact in_rcv hw (by with_reducible assumption) (Or.inl (by with_reducible assumption)) | exact in_rcv hw (by with_reducible assumption) (Or.inr (by with_reducible assumption))) (by first | with_reducible assumption | exact in_name (by with_reducible assumption) | exact in4_4 (by with_reducible assumption) | exact in4_5 (by with_reducible assumption) | exact in4_6 (by with_reducible assumption) | exact in4_7 (by with_reducible assumption))
  refine va_iast (D := (dC, dI)) (f := (w.1 4)) hx hb hK hP hD hS 5 4 rfl rfl hi_2 d_W_addDirect_15 (fun H locs hP hD hS => ?_)
  have hP : va_P (dC, dI) classes ([(qa 0, .inr (0, [.ref (qa 1), .ref (qa 2), .ref (qa 3), .ref (qa 4), .ref (qa 5), .ref (qa 6), .int (w.2 0), .int (w.2 1), .int (w.2 2), .int (w.2 3)])), (qa 1, .inl (ka 0, 13, .inl (w.1 0))), (qa 2, .inl (ka 1, 13, .inl (w.1 1))), (qa 3, .inl (ka 2, 13, .inl (w.1 2))), (qa 4, .inl (ka 3, 13, .inl (w.1 3))), (qa 5, .inl (ka 4, 52, .inl (upd (w.1 4) ((p1 * (4 : Int32)) + ((w.1 3) p1.toNatClampNeg)).toNatClampNeg p2))), (qa 6, .inl (ka 5, 13, .inl (w.1 5)))] : va_W) H := hP
  have hD : va_D A ([(qa 0, .inr (0, [.ref (qa 1), .ref (qa 2), .ref (qa 3), .ref (qa 4), .ref (qa 5), .ref (qa 6), .int (w.2 0), .int (w.2 1), .int (w.2 2), .int (w.2 3)])), (qa 1, .inl (ka 0, 13, .inl (w.1 0))), (qa 2, .inl (ka 1, 13, .inl (w.1 1))), (qa 3, .inl (ka 2, 13, .inl (w.1 2))), (qa 4, .inl (ka 3, 13, .inl (w.1 3))), (qa 5, .inl (ka 4, 52, .inl (upd (w.1 4) ((p1 * (4 : Int32)) + ((w.1 3) p1.toNatClampNeg)).toNatClampNeg p2))), (qa 6, .inl (ka 5, 13, .inl (w.1 5)))] : va_W) := hD
  refine lv_aload_n hx hb d_W_addDirect_16 rfl (lv_at hl 0 rfl) ?_
  refine va_get (D := (dC, dI)) (ci := 0) (v := .ref (qa 4)) (C := R_W) (T := F_W) (N := 10) hx hb hts i_W hown hK hP 0 rfl rfl 3 (by decide) (hts _ k_9) (fun _ h9 => h9) rfl d_W_addDirect_17 ?_
  refine lv_iload_n hx hb d_W_addDirect_20 rfl (lv_at hl 1 rfl) ?_
  refine lv_dup2_11 hx hb d_W_addDirect_21 rfl rfl ?_
  have hi_3 : vp_in p1 13 := by first | with_reducible assumption | exact in_has hw (by with_reducible assumption) | exact in_cls hw (by with_reducible assumption) | exact in_ifc hw (by with_reducible assumption) | exact in_ext hw (by with_reducible assumption) | exact in_eq0 (by with_reducible assumption) | exact hfd (by with_reducible assumption) | exact in_rcv hw (by with_reducible assumption) (Or.inl (by with_reducible assumption)) | exact in_rcv hw (by with_reducible assumption) (Or.inr (by with_reducible assumption))
  refine va_iald (D := (dC, dI)) (f := (w.1 3)) hx hb hK hP 4 3 rfl rfl hi_3 d_W_addDirect_22 ?_
  refine lv_iconst (v := (1 : Int32)) hx hb d_W_addDirect_23 (by decide +kernel) ?_
  refine lv_iadd hx hb d_W_addDirect_24 ?_
  have hi_4 : vp_in p1 13 := by first | with_reducible assumption | exact in_has hw (by with_reducible assumption) | exact in_cls hw (by with_reducible assumption) | exact in_ifc hw (by with_reducible assumption) | exact in_ext hw (by with_reducible assumption) | exact in_eq0 (by with_reducible assumption) | exact hfd (by with_reducible assumption) | exact in_rcv hw (by with_reducible assumption) (Or.inl (by with_reducible assumption)) | exact in_rcv hw (by with_reducible assumption) (Or.inr (by with_reducible assumption))
  refine va_iast (D := (dC, dI)) (f := (w.1 3)) hx hb hK hP hD hS 4 3 rfl rfl hi_4 d_W_addDirect_25 (fun H locs hP hD hS => ?_)
  have hP : va_P (dC, dI) classes ([(qa 0, .inr (0, [.ref (qa 1), .ref (qa 2), .ref (qa 3), .ref (qa 4), .ref (qa 5), .ref (qa 6), .int (w.2 0), .int (w.2 1), .int (w.2 2), .int (w.2 3)])), (qa 1, .inl (ka 0, 13, .inl (w.1 0))), (qa 2, .inl (ka 1, 13, .inl (w.1 1))), (qa 3, .inl (ka 2, 13, .inl (w.1 2))), (qa 4, .inl (ka 3, 13, .inl (upd (w.1 3) p1.toNatClampNeg (((w.1 3) p1.toNatClampNeg) + (1 : Int32))))), (qa 5, .inl (ka 4, 52, .inl (upd (w.1 4) ((p1 * (4 : Int32)) + ((w.1 3) p1.toNatClampNeg)).toNatClampNeg p2))), (qa 6, .inl (ka 5, 13, .inl (w.1 5)))] : va_W) H := hP
  have hD : va_D A ([(qa 0, .inr (0, [.ref (qa 1), .ref (qa 2), .ref (qa 3), .ref (qa 4), .ref (qa 5), .ref (qa 6), .int (w.2 0), .int (w.2 1), .int (w.2 2), .int (w.2 3)])), (qa 1, .inl (ka 0, 13, .inl (w.1 0))), (qa 2, .inl (ka 1, 13, .inl (w.1 1))), (qa 3, .inl (ka 2, 13, .inl (w.1 2))), (qa 4, .inl (ka 3, 13, .inl (upd (w.1 3) p1.toNatClampNeg (((w.1 3) p1.toNatClampNeg) + (1 : Int32))))), (qa 5, .inl (ka 4, 52, .inl (upd (w.1 4) ((p1 * (4 : Int32)) + ((w.1 3) p1.toNatClampNeg)).toNatClampNeg p2))), (qa 6, .inl (ka 5, 13, .inl (w.1 5)))] : va_W) := hD
  refine lv_iload_n hx hb d_W_addDirect_26 rfl (lv_at hl 1 rfl) ?_
  refine lv_istore_n (lv' := [(3, .int p1), (0, .ref (qa 0)), (1, .int p1), (2, .int p2)]) hx hb d_W_addDirect_27 rfl hl (by decide) rfl (fun ls hl => ?_)
  have LOOP : ∀ (n k : Nat) (x3 : Int32) (S : WS) (H : Heap) (locs : List Loc) (ls : Array Slot), x3 = nI k → 14 ≤ k + n → k ≤ 13 → S.2 3 = w.2 3 → lr_W_addDirect p1 p2 n x3 S = (f_W_addDirect w p1 p2) → ls_W_addDirect p1 p2 n x3 S = (s_W_addDirect w p1 p2) → va_P (dC, dI) classes (wW ka qa S) H → va_D A (wW ka qa S) → va_S A s.heap H locs → lv_has ls 4 [(3, .int x3), (0, .ref (qa 0)), (1, .int p1), (2, .int p2)] → W p l e (headSpec w_W_addDirect ({ frames := 1, cells := 0, slots := 0, locals := 21 } : Room)).room s m ([.ref (qa 0), .int p1, .int p2] : List Value).toArray below meth c H locs 0 0 (MQ below (mu_Q (fun (S9 : WS) => (wW ka qa S9)) dC dI (f_W_addDirect w p1 p2) (s_W_addDirect w p1 p2) (A)) ([.ref (qa 0), .int p1, .int p2] : List Value).toArray s 0 0 A) (F0 m 28 ls []) := by
    intro n
    induction n with
    | zero =>
      intro k x3 S H locs ls et h1 h2 hs
      exfalso; omega
    | succ n ih =>
      intro k x3 S H locs ls et h1 h2 hs hF hG hP hD hS hl
      refine lv_iload_n hx hb d_W_addDirect_28 rfl (lv_at hl 0 rfl) ?_
      refine lv_aload_n hx hb d_W_addDirect_29 rfl (lv_at hl 1 rfl) ?_
      refine va_get (D := (dC, dI)) (ci := 0) (v := .int (S.2 3)) (C := R_W) (T := F_W) (N := 10) hx hb hts i_W hown hK hP 0 rfl rfl 9 (by decide) (hts _ k_3) (fun _ h9 => h9) rfl d_W_addDirect_30 ?_
      refine lv_icmp_gt (tgt := 70) hx hb d_W_addDirect_33 (by decide) (fun c_5 => ?_) (fun c_5 => ?_)
      · have c_5 : (S.2 3) < x3 := c_5
        refine lv_aload_n hx hb d_W_addDirect_70 rfl (lv_at hl 1 rfl) ?_
        refine va_get (D := (dC, dI)) (ci := 0) (v := .ref (qa 4)) (C := R_W) (T := F_W) (N := 10) hx hb hts i_W hown hK hP 0 rfl rfl 3 (by decide) (hts _ k_9) (fun _ h9 => h9) rfl d_W_addDirect_71 ?_
        refine lv_iload_n hx hb d_W_addDirect_74 rfl (lv_at hl 2 rfl) ?_
        have hi_6 : vp_in p1 13 := by first | with_reducible assumption | exact in_has hw (by with_reducible assumption) | exact in_cls hw (by with_reducible assumption) | exact in_ifc hw (by with_reducible assumption) | exact in_ext hw (by with_reducible assumption) | exact in_eq0 (by with_reducible assumption) | exact hfd (by with_reducible assumption) | exact in_rcv hw (by with_reducible assumption) (Or.inl (by with_reducible assumption)) | exact in_rcv hw (by with_reducible assumption) (Or.inr (by with_reducible assumption))
        refine va_iald (D := (dC, dI)) (f := (S.1 3)) hx hb hK hP 4 3 rfl rfl hi_6 d_W_addDirect_75 ?_
        have hP9 : va_P (dC, dI) classes (wW ka qa S) H := hP
        exact W.iret (v := ((S.1 3) p1.toNatClampNeg)) hx hb hr (fun t ht hW => ⟨⟨((S.1 3) p1.toNatClampNeg), S, rfl, ⟨by rw [← hF, lr_W_addDirect_s, if_pos c_5], by rw [← hG, ls_W_addDirect_s, if_pos c_5]⟩, hp_at ht hP9⟩, hS.F ht⟩) hS.2.2 d_W_addDirect_76
      · have c_5 : ¬ ((S.2 3) < x3) := c_5
        refine lv_aload_n hx hb d_W_addDirect_36 rfl (lv_at hl 1 rfl) ?_
        refine va_get (D := (dC, dI)) (ci := 0) (v := .ref (qa 6)) (C := R_W) (T := F_W) (N := 10) hx hb hts i_W hown hK hP 0 rfl rfl 5 (by decide) (hts _ k_14) (fun _ h9 => h9) rfl d_W_addDirect_37 ?_
        refine lv_iload_n hx hb d_W_addDirect_40 rfl (lv_at hl 0 rfl) ?_
        have hi_7 : vp_in x3 13 := by exact in_et et (leCnt hw et h2 (by rw [← hs]; assumption))
        refine va_iald (D := (dC, dI)) (f := (S.1 5)) hx hb hK hP 6 5 rfl rfl hi_7 d_W_addDirect_41 ?_
        refine lv_iload_n hx hb d_W_addDirect_42 rfl (lv_at hl 2 rfl) ?_
        refine va_calli (va_runSN (As := [.int ((S.1 5) x3.toNatClampNeg), .int p1]) (rest := []) ⟨hx, hb, hml, hown, hts⟩ (c_O_holds l dC dI  H.size   ((S.1 5) x3.toNatClampNeg) p1) ⟨va_cnB 2 hts k_g2 rfl rfl rfl (hN _ k_5 rfl) (hts _ k_6) (by decide +kernel) ⟨Nat.le_of_ble_eq_true rfl, Nat.le_of_ble_eq_true rfl⟩, hts _ k_7, trivial⟩ ⟨fb_ro, fun U hU hW => ⟨rfl, by rw [hU], by rw [hU]; exact hP.sub (ws' := ([] : va_W)) [] rfl, va_K.moved hW.alike (hK.sub (tys' := []) [] rfl), NX.warm hW hN⟩⟩ rfl rfl hl.1 rfl (lv_room (Nat.le_of_ble_eq_true rfl)) d_W_addDirect_43 ⟨Nat.zero_le _, Nat.zero_le _⟩) hS (fun z h1 h2 => absurd h1 (Nat.not_lt.mpr h2)) (fun z h => hA z (Nat.le_trans hS.1 h)) (fun r u t H1 locs ht hvm hpo hB hz1 hk1 hS => ?_)
        subst hpo
        have hP := kp_P hP hk1
        generalize H1 = H at hP hS ⊢
        refine lv_if_eq (tgt := 64) hx hb d_W_addDirect_46 (by decide) (fun c_8 => ?_) (fun c_8 => ?_)
        · have c_8 : (f_O_holds ((S.1 5) x3.toNatClampNeg) p1) = (0 : Int32) := c_8
          refine lv_iinc (v := (x3 + (1 : Int32))) (lv' := [(3, .int (x3 + (1 : Int32))), (0, .ref (qa 0)), (1, .int p1), (2, .int p2)]) hx hb d_W_addDirect_64 hl (k := 0) rfl (by rw [of_p1]) (by decide) rfl (fun ls hl => ?_)
          refine lv_goto (tgt := 28) hx hb d_W_addDirect_67 (by decide) ?_
          have hP : va_P (dC, dI) classes (wW ka qa S) H := hP
          have hD : va_D A (wW ka qa S) := hD
          exact ih (k + 1) (x3 + (1 : Int32)) S _ _ _ (by rw [et]; exact nI_1 k) (by omega) (Nat.succ_le_succ (leCnt hw et h2 (by rw [← hs]; assumption))) (hs) (by rw [← hF, lr_W_addDirect_s, if_neg c_5, if_pos c_8]) (by rw [← hG, ls_W_addDirect_s, if_neg c_5, if_pos c_8]) hP hD hS (lv_sub hl [0, 1, 2, 3] rfl)
        · have c_8 : ¬ ((f_O_holds ((S.1 5) x3.toNatClampNeg) p1) = (0 : Int32)) := c_8
          refine lv_aload_n hx hb d_W_addDirect_49 rfl (lv_at hl 1 rfl) ?_
          refine va_get (D := (dC, dI)) (ci := 0) (v := .ref (qa 6)) (C := R_W) (T := F_W) (N := 10) hx hb hts i_W hown hK hP 0 rfl rfl 5 (by decide) (hts _ k_14) (fun _ h9 => h9) rfl d_W_addDirect_50 ?_
          refine lv_iload_n hx hb d_W_addDirect_53 rfl (lv_at hl 0 rfl) ?_
          refine lv_dup2_11 hx hb d_W_addDirect_54 rfl rfl ?_
          have hi_9 : vp_in x3 13 := by exact in_et et (leCnt hw et h2 (by rw [← hs]; assumption))
          refine va_iald (D := (dC, dI)) (f := (S.1 5)) hx hb hK hP 6 5 rfl rfl hi_9 d_W_addDirect_55 ?_
          refine lv_aload_n hx hb d_W_addDirect_56 rfl (lv_at hl 1 rfl) ?_
          refine va_get (D := (dC, dI)) (ci := 0) (v := .ref (qa 6)) (C := R_W) (T := F_W) (N := 10) hx hb hts i_W hown hK hP 0 rfl rfl 5 (by decide) (hts _ k_14) (fun _ h9 => h9) rfl d_W_addDirect_57 ?_
          refine lv_iload_n hx hb d_W_addDirect_60 rfl (lv_at hl 3 rfl) ?_
          have hi_10 : vp_in p2 13 := by first | with_reducible assumption | exact in_has hw (by with_reducible assumption) | exact in_cls hw (by with_reducible assumption) | exact in_ifc hw (by with_reducible assumption) | exact in_ext hw (by with_reducible assumption) | exact in_eq0 (by with_reducible assumption) | exact hfd (by with_reducible assumption) | exact in_rcv hw (by with_reducible assumption) (Or.inl (by with_reducible assumption)) | exact in_rcv hw (by with_reducible assumption) (Or.inr (by with_reducible assumption))
          refine va_iald (D := (dC, dI)) (f := (S.1 5)) hx hb hK hP 6 5 rfl rfl hi_10 d_W_addDirect_61 ?_
          refine lv_ior hx hb d_W_addDirect_62 ?_
          have hi_11 : vp_in x3 13 := by exact in_et et (leCnt hw et h2 (by rw [← hs]; assumption))
          refine va_iast (D := (dC, dI)) (f := (S.1 5)) hx hb hK hP hD hS 6 5 rfl rfl hi_11 d_W_addDirect_63 (fun H locs hP hD hS => ?_)
          have hP : va_P (dC, dI) classes ([(qa 0, .inr (0, [.ref (qa 1), .ref (qa 2), .ref (qa 3), .ref (qa 4), .ref (qa 5), .ref (qa 6), .int (S.2 0), .int (S.2 1), .int (S.2 2), .int (S.2 3)])), (qa 1, .inl (ka 0, 13, .inl (S.1 0))), (qa 2, .inl (ka 1, 13, .inl (S.1 1))), (qa 3, .inl (ka 2, 13, .inl (S.1 2))), (qa 4, .inl (ka 3, 13, .inl (S.1 3))), (qa 5, .inl (ka 4, 52, .inl (S.1 4))), (qa 6, .inl (ka 5, 13, .inl (upd (S.1 5) x3.toNatClampNeg (((S.1 5) x3.toNatClampNeg) ||| ((S.1 5) p2.toNatClampNeg)))))] : va_W) H := hP
          have hD : va_D A ([(qa 0, .inr (0, [.ref (qa 1), .ref (qa 2), .ref (qa 3), .ref (qa 4), .ref (qa 5), .ref (qa 6), .int (S.2 0), .int (S.2 1), .int (S.2 2), .int (S.2 3)])), (qa 1, .inl (ka 0, 13, .inl (S.1 0))), (qa 2, .inl (ka 1, 13, .inl (S.1 1))), (qa 3, .inl (ka 2, 13, .inl (S.1 2))), (qa 4, .inl (ka 3, 13, .inl (S.1 3))), (qa 5, .inl (ka 4, 52, .inl (S.1 4))), (qa 6, .inl (ka 5, 13, .inl (upd (S.1 5) x3.toNatClampNeg (((S.1 5) x3.toNatClampNeg) ||| ((S.1 5) p2.toNatClampNeg)))))] : va_W) := hD
          refine lv_iinc (v := (x3 + (1 : Int32))) (lv' := [(3, .int (x3 + (1 : Int32))), (0, .ref (qa 0)), (1, .int p1), (2, .int p2)]) hx hb d_W_addDirect_64 hl (k := 0) rfl (by rw [of_p1]) (by decide) rfl (fun ls hl => ?_)
          refine lv_goto (tgt := 28) hx hb d_W_addDirect_67 (by decide) ?_
          have hP := wW_mk hP
          have hD := wW_mkD hD
          have hP : va_P (dC, dI) classes (wW ka qa (mk6 (S.1 0) (S.1 1) (S.1 2) (S.1 3) (S.1 4) (upd (S.1 5) x3.toNatClampNeg (((S.1 5) x3.toNatClampNeg) ||| ((S.1 5) p2.toNatClampNeg))), mk4 (S.2 0) (S.2 1) (S.2 2) (S.2 3))) H := hP
          have hD : va_D A (wW ka qa (mk6 (S.1 0) (S.1 1) (S.1 2) (S.1 3) (S.1 4) (upd (S.1 5) x3.toNatClampNeg (((S.1 5) x3.toNatClampNeg) ||| ((S.1 5) p2.toNatClampNeg))), mk4 (S.2 0) (S.2 1) (S.2 2) (S.2 3))) := hD
          exact ih (k + 1) (x3 + (1 : Int32)) (mk6 (S.1 0) (S.1 1) (S.1 2) (S.1 3) (S.1 4) (upd (S.1 5) x3.toNatClampNeg (((S.1 5) x3.toNatClampNeg) ||| ((S.1 5) p2.toNatClampNeg))), mk4 (S.2 0) (S.2 1) (S.2 2) (S.2 3)) _ _ _ (by rw [et]; exact nI_1 k) (by omega) (Nat.succ_le_succ (leCnt hw et h2 (by rw [← hs]; assumption))) (hs) (by rw [← hF, lr_W_addDirect_s, if_neg c_5, if_neg c_8]) (by rw [← hG, ls_W_addDirect_s, if_neg c_5, if_neg c_8]) hP hD hS (lv_sub hl [0, 1, 2, 3] rfl)
  have hP := wW_mk hP
  have hD := wW_mkD hD
  have hP : va_P (dC, dI) classes (wW ka qa (mk6 (w.1 0) (w.1 1) (w.1 2) (upd (w.1 3) p1.toNatClampNeg (((w.1 3) p1.toNatClampNeg) + (1 : Int32))) (upd (w.1 4) ((p1 * (4 : Int32)) + ((w.1 3) p1.toNatClampNeg)).toNatClampNeg p2) (w.1 5), mk4 (w.2 0) (w.2 1) (w.2 2) (w.2 3))) H := hP
  have hD : va_D A (wW ka qa (mk6 (w.1 0) (w.1 1) (w.1 2) (upd (w.1 3) p1.toNatClampNeg (((w.1 3) p1.toNatClampNeg) + (1 : Int32))) (upd (w.1 4) ((p1 * (4 : Int32)) + ((w.1 3) p1.toNatClampNeg)).toNatClampNeg p2) (w.1 5), mk4 (w.2 0) (w.2 1) (w.2 2) (w.2 3))) := hD
  exact LOOP 14 p1.toNatClampNeg p1 (mk6 (w.1 0) (w.1 1) (w.1 2) (upd (w.1 3) p1.toNatClampNeg (((w.1 3) p1.toNatClampNeg) + (1 : Int32))) (upd (w.1 4) ((p1 * (4 : Int32)) + ((w.1 3) p1.toNatClampNeg)).toNatClampNeg p2) (w.1 5), mk4 (w.2 0) (w.2 1) (w.2 2) (w.2 3)) _ _ _ (in_k hp1) (by omega) (Nat.le_of_lt (in_lt hp1)) (rfl) (rfl) (rfl) hP hD hS (lv_sub hl [0, 1, 2, 3] rfl)
