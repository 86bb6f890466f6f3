set_option maxHeartbeats 1000000 in
set_option maxRecDepth 100000 in
theorem c_R_tell (l : Launch) (dC : Nat → ClassId) (dI : Nat → Nat → Nat) (ka : Nat → ClassId) (qa : Nat → Nat) (sz : Nat) (b0 b1 : Int32) (a0 a1 a2 a3 a4 a5 a6 a7 a8 a9 a10 a11 a12 : Nat → Int32) (p1 p2 : Int32) (hc : vp_in (b0 + (1 : Int32)) 13) : Met l y_R_tell w_R_tell ({ frames := 0, cells := 0, slots := 0, locals := 0 } : Room) (mu_P dC dI (wR ka qa b0 b1 a0 a1 a2 a3 a4 a5 a6 a7 a8 a9 a10 a11 a12) (tR ka) sz [.ref (qa 0), .int p1, .int p2]) (mu_Q (fun (S9 : Int32 × (Nat → Int32) × (Nat → Int32) × (Nat → Int32)) => (wR ka qa S9.1 b1 a0 S9.2.1 a2 S9.2.2.1 a4 S9.2.2.2 a6 a7 a8 a9 a10 a11 a12)) dC dI (f_R_tell b0 a1 a3 a5 p1 p2) ((s_R_tell_b0 b0 a1 a3 a5 p1 p2), (s_R_tell_a1 b0 a1 a3 a5 p1 p2), (s_R_tell_a3 b0 a1 a3 a5 p1 p2), (s_R_tell_a5 b0 a1 a3 a5 p1 p2)) (va_A (wR ka qa b0 b1 a0 a1 a2 a3 a4 a5 a6 a7 a8 a9 a10 a11 a12) sz)) 0 0 (va_A (wR ka qa b0 b1 a0 a1 a2 a3 a4 a5 a6 a7 a8 a9 a10 a11 a12) sz) := by
  refine Met.ofW (cc := b_R_tell) (maxL := 3) (ret := (some .int)) (by decide) rfl ?_
  intro p e s m args below meth c s₁ B hml hv
  obtain ⟨rfl, hsz, hP, hK, hN, hD0⟩ := hv
  have hx := B.exec
  have hb := B.bytes
  have hr := B.returns
  have hts := tl_of (atoms_spec (ws := w_R_tell) B.pre)
  have hown : s.vm.findClass R_R = some m.cls := findClass_of_methodNamed B.named
  have hlocks := B.notSynchronized
  subst hsz
  have hD := hD0.self (sz := s.heap.size)
  generalize hAe : va_A (wR ka qa b0 b1 a0 a1 a2 a3 a4 a5 a6 a7 a8 a9 a10 a11 a12) s.heap.size = A at hD ⊢
  have hA : ∀ q : Nat, s.heap.size ≤ q → A q := fun q h => by rw [← hAe]; exact Or.inr h
  have hS : va_S A s.heap s.heap [] := va_S.rf
  have hl := lv_entry ([.ref (qa 0), .int p1, .int p2]) (n := 3) (Nat.le_of_ble_eq_true rfl)
  rw [lg_entry_eq]
  generalize (lg_sl ([.ref (qa 0), .int p1, .int p2]) ++ List.replicate (3 - (lg_sl ([.ref (qa 0), .int p1, .int p2])).length) Slot.unset).toArray = ls at hl ⊢
  have hl : lv_has ls 3 [(0, .ref (qa 0)), (1, .int p1), (2, .int p2)] := hl
  refine lv_aload_n hx hb d_R_tell_0 rfl (lv_at hl 0 rfl) ?_
  refine lv_dup hx hb d_R_tell_1 rfl ?_
  refine va_get (D := (dC, dI)) (ci := 3) (v := .int b0) (C := R_R) (T := F_R) (N := 15) hx hb hts i_R hown hK hP 0 rfl rfl 0 (by decide) (hts _ k_44) (fun _ h9 => h9) rfl d_R_tell_2 ?_
  refine lv_iconst (v := (1 : Int32)) hx hb d_R_tell_5 (by decide +kernel) ?_
  refine lv_iadd hx hb d_R_tell_6 ?_
  refine va_put (D := (dC, dI)) (ci := 3) (v := .int (b0 + (1 : Int32))) (ty := .int) (C := R_R) (T := F_R) (N := 15) hx hb hts i_R t_R t_R_ok n_R hown hK hP hD hS 0 rfl rfl 0 (by decide) (hts _ k_44) (fun _ h9 => h9) rfl (by decide +kernel) rfl rfl (Nat.le_of_ble_eq_true rfl) d_R_tell_7 (fun H locs hP hD hS => ?_)
  have hP : va_P (dC, dI) classes (wR ka qa (b0 + (1 : Int32)) b1 a0 a1 a2 a3 a4 a5 a6 a7 a8 a9 a10 a11 a12) H := hP
  have hD : va_D A (wR ka qa (b0 + (1 : Int32)) b1 a0 a1 a2 a3 a4 a5 a6 a7 a8 a9 a10 a11 a12) := hD
  refine lv_aload_n hx hb d_R_tell_10 rfl (lv_at hl 0 rfl) ?_
  refine va_get (D := (dC, dI)) (ci := 3) (v := .ref (qa 4)) (C := R_R) (T := F_R) (N := 15) hx hb hts i_R hown hK hP 0 rfl rfl 4 (by decide) (hts _ k_47) (fun _ h9 => h9) rfl d_R_tell_11 ?_
  refine lv_aload_n hx hb d_R_tell_14 rfl (lv_at hl 0 rfl) ?_
  refine va_get (D := (dC, dI)) (ci := 3) (v := .int (b0 + (1 : Int32))) (C := R_R) (T := F_R) (N := 15) hx hb hts i_R hown hK hP 0 rfl rfl 0 (by decide) (hts _ k_44) (fun _ h9 => h9) rfl d_R_tell_15 ?_
  refine lv_iload_n hx hb d_R_tell_18 rfl (lv_at hl 1 rfl) ?_
  have hi_1 : vp_in (b0 + (1 : Int32)) 13 := by first | with_reducible assumption | exact rin_has hT (by with_reducible assumption)
  refine va_iast (D := (dC, dI)) (f := a3) hx hb hK hP hD hS 4 3 rfl rfl hi_1 d_R_tell_19 (fun H locs hP hD hS => ?_)
  have hP : va_P (dC, dI) classes (wR ka qa (b0 + (1 : Int32)) b1 a0 a1 a2 (upd a3 (b0 + (1 : Int32)).toNatClampNeg p1) a4 a5 a6 a7 a8 a9 a10 a11 a12) H := hP
  have hD : va_D A (wR ka qa (b0 + (1 : Int32)) b1 a0 a1 a2 (upd a3 (b0 + (1 : Int32)).toNatClampNeg p1) a4 a5 a6 a7 a8 a9 a10 a11 a12) := hD
  refine lv_aload_n hx hb d_R_tell_20 rfl (lv_at hl 0 rfl) ?_
  refine va_get (D := (dC, dI)) (ci := 3) (v := .ref (qa 2)) (C := R_R) (T := F_R) (N := 15) hx hb hts i_R hown hK hP 0 rfl rfl 2 (by decide) (hts _ k_46) (fun _ h9 => h9) rfl d_R_tell_21 ?_
  refine lv_aload_n hx hb d_R_tell_24 rfl (lv_at hl 0 rfl) ?_
  refine va_get (D := (dC, dI)) (ci := 3) (v := .int (b0 + (1 : Int32))) (C := R_R) (T := F_R) (N := 15) hx hb hts i_R hown hK hP 0 rfl rfl 0 (by decide) (hts _ k_44) (fun _ h9 => h9) rfl d_R_tell_25 ?_
  refine lv_iload_n hx hb d_R_tell_28 rfl (lv_at hl 2 rfl) ?_
  have hi_2 : vp_in (b0 + (1 : Int32)) 13 := by first | with_reducible assumption | exact rin_has hT (by with_reducible assumption)
  refine va_zast (D := (dC, dI)) (f := a1) hx hb hK hP hD hS 2 1 rfl rfl hi_2 d_R_tell_29 (fun H locs hP hD hS => ?_)
  have hP : va_P (dC, dI) classes (wR ka qa (b0 + (1 : Int32)) b1 a0 (upd a1 (b0 + (1 : Int32)).toNatClampNeg (vp_nar .boolean p2)) a2 (upd a3 (b0 + (1 : Int32)).toNatClampNeg p1) a4 a5 a6 a7 a8 a9 a10 a11 a12) H := hP
  have hD : va_D A (wR ka qa (b0 + (1 : Int32)) b1 a0 (upd a1 (b0 + (1 : Int32)).toNatClampNeg (vp_nar .boolean p2)) a2 (upd a3 (b0 + (1 : Int32)).toNatClampNeg p1) a4 a5 a6 a7 a8 a9 a10 a11 a12) := hD
  refine lv_aload_n hx hb d_R_tell_30 rfl (lv_at hl 0 rfl) ?_
  refine va_get (D := (dC, dI)) (ci := 3) (v := .ref (qa 6)) (C := R_R) (T := F_R) (N := 15) hx hb hts i_R hown hK hP 0 rfl rfl 6 (by decide) (hts _ k_48) (fun _ h9 => h9) rfl d_R_tell_31 ?_
  refine lv_aload_n hx hb d_R_tell_34 rfl (lv_at hl 0 rfl) ?_
  refine va_get (D := (dC, dI)) (ci := 3) (v := .int (b0 + (1 : Int32))) (C := R_R) (T := F_R) (N := 15) hx hb hts i_R hown hK hP 0 rfl rfl 0 (by decide) (hts _ k_44) (fun _ h9 => h9) rfl d_R_tell_35 ?_
  refine lv_aload_n hx hb d_R_tell_38 rfl (lv_at hl 0 rfl) ?_
  refine va_get (D := (dC, dI)) (ci := 3) (v := .int (b0 + (1 : Int32))) (C := R_R) (T := F_R) (N := 15) hx hb hts i_R hown hK hP 0 rfl rfl 0 (by decide) (hts _ k_44) (fun _ h9 => h9) rfl d_R_tell_39 ?_
  have hi_3 : vp_in (b0 + (1 : Int32)) 13 := by first | with_reducible assumption | exact rin_has hT (by with_reducible assumption)
  refine va_iast (D := (dC, dI)) (f := a5) hx hb hK hP hD hS 6 5 rfl rfl hi_3 d_R_tell_42 (fun H locs hP hD hS => ?_)
  have hP : va_P (dC, dI) classes (wR ka qa (b0 + (1 : Int32)) b1 a0 (upd a1 (b0 + (1 : Int32)).toNatClampNeg (vp_nar .boolean p2)) a2 (upd a3 (b0 + (1 : Int32)).toNatClampNeg p1) a4 (upd a5 (b0 + (1 : Int32)).toNatClampNeg (b0 + (1 : Int32))) a6 a7 a8 a9 a10 a11 a12) H := hP
  have hD : va_D A (wR ka qa (b0 + (1 : Int32)) b1 a0 (upd a1 (b0 + (1 : Int32)).toNatClampNeg (vp_nar .boolean p2)) a2 (upd a3 (b0 + (1 : Int32)).toNatClampNeg p1) a4 (upd a5 (b0 + (1 : Int32)).toNatClampNeg (b0 + (1 : Int32))) a6 a7 a8 a9 a10 a11 a12) := hD
  refine lv_aload_n hx hb d_R_tell_43 rfl (lv_at hl 0 rfl) ?_
  refine va_get (D := (dC, dI)) (ci := 3) (v := .int (b0 + (1 : Int32))) (C := R_R) (T := F_R) (N := 15) hx hb hts i_R hown hK hP 0 rfl rfl 0 (by decide) (hts _ k_44) (fun _ h9 => h9) rfl d_R_tell_44 ?_
  have hP9 : va_P (dC, dI) classes (wR ka qa (b0 + (1 : Int32)) b1 a0 (upd a1 (b0 + (1 : Int32)).toNatClampNeg (vp_nar .boolean p2)) a2 (upd a3 (b0 + (1 : Int32)).toNatClampNeg p1) a4 (upd a5 (b0 + (1 : Int32)).toNatClampNeg (b0 + (1 : Int32))) a6 a7 a8 a9 a10 a11 a12) H := hP
  exact W.iret (v := (b0 + (1 : Int32))) hx hb hr (fun t ht hW => ⟨⟨(b0 + (1 : Int32)), ((b0 + (1 : Int32)), (upd a1 (b0 + (1 : Int32)).toNatClampNeg (vp_nar .boolean p2)), (upd a3 (b0 + (1 : Int32)).toNatClampNeg p1), (upd a5 (b0 + (1 : Int32)).toNatClampNeg (b0 + (1 : Int32)))), rfl, ⟨rfl, (pr2 (rfl) (pr2 (rfl) (pr2 (rfl) (rfl))))⟩, hp_at ht hP9⟩, hS.F ht⟩) hS.2.2 d_R_tell_47
