set_option maxHeartbeats 4000000 in
set_option maxRecDepth 100000 in
theorem c_W_init (l : Launch) (dC : Nat → ClassId) (dI : Nat → Nat → Nat) (h0 sz : Nat) : Met l y_W_init w_W_init ({ frames := 1, cells := 6, slots := 117, locals := 12 } : Room) (mu_P dC dI (nW h0) [] sz [.ref h0]) (va_Qv (fun (u : (Nat → ClassId) × (Nat → Nat)) => u.2 0 = h0) (fun u t => va_P (dC, dI) classes (wW u.1 u.2 w0) t.heap ∧ va_K (dC, dI) classes (tW u.1) t ∧ va_D (va_A (nW h0) sz) (wW u.1 u.2 w0)) (va_A (nW h0) sz)) 6 117 (va_A (nW h0) sz) := by
  refine Met.ofW (cc := b_W_init) (maxL := 1) (ret := none) (by decide) rfl ?_
  intro p e s m args below meth c s₁ B hml hv
  obtain ⟨rfl, hsz, hP, hK, hN, hD0⟩ := hv
  have hx := B.exec
  have hb := B.bytes
  have hr := B.returns
  have hts := tl_of (atoms_spec (ws := w_W_init) B.pre)
  have hown : s.vm.findClass R_W = some m.cls := findClass_of_methodNamed B.named
  have hlocks := B.notSynchronized
  have hin : meth.name = "<init>" := (name_of_methodNamed B.named B.method).1
  subst hsz
  have hD := hD0.self (sz := s.heap.size)
  generalize hAe : va_A (nW h0) s.heap.size = A at hD ⊢
  have hA : ∀ q : Nat, s.heap.size ≤ q → A q := fun q h => by rw [← hAe]; exact Or.inr h
  have hS : va_S A s.heap s.heap [] := va_S.rf
  have hl := lv_entry ([.ref h0]) (n := 1) (Nat.le_of_ble_eq_true rfl)
  rw [lg_entry_eq]
  generalize (lg_sl ([.ref h0]) ++ List.replicate (1 - (lg_sl ([.ref h0])).length) Slot.unset).toArray = ls at hl ⊢
  have hl : lv_has ls 1 [(0, .ref h0)] := hl
  refine lv_aload_n hx hb d_W_init_0 rfl (lv_at hl 0 rfl) ?_
  refine W.objInit hx hb hown (hts _ k_29) (hts _ k_30) (hts _ kc_objInit) rfl (by rw [hml]; exact hl.1) rfl d_W_init_1 (Nat.le_of_ble_eq_true rfl) (Nat.le_of_ble_eq_true rfl) ?_
  refine W.eq (g2 := F0 m 4 ls []) rfl ?_
  refine lv_aload_n hx hb d_W_init_4 rfl (lv_at hl 0 rfl) ?_
  refine lv_bipush (v := (13 : Int32)) hx hb d_W_init_5 (by decide +kernel) ?_
  refine va_newa (atype := .int) (ty := .int) (n := (13 : Int32)) (N' := 13) (a0 := (13, .inl (fun _ => 0))) hx hb (hts _ k_31) rfl hK hP hD hS hA (fun _ => rfl) (by decide +kernel) (by decide +kernel) (by decide +kernel) (Nat.le_of_ble_eq_true rfl) (Nat.le_of_ble_eq_true rfl) d_W_init_7 (fun q1 a1 H hK hP hD hS => ?_)
  refine W.widen (k := 1) (n := 13) (by omega) (by omega) ?_
  have hP : va_P (dC, dI) classes ([(h0, .inr (0, [.null, .null, .null, .null, .null, .null, .int 0, .int 0, .int 0, .int 0])), (q1, .inl (a1, 13, .inl (fun _ => 0)))] : va_W) H := hP
  have hD : va_D A ([(h0, .inr (0, [.null, .null, .null, .null, .null, .null, .int 0, .int 0, .int 0, .int 0])), (q1, .inl (a1, 13, .inl (fun _ => 0)))] : va_W) := hD
  have hK : va_K (dC, dI) classes [(a1, .int)] s := hK
  refine va_putF (D := (dC, dI)) (ci := 0) (v := .ref q1) (ty := (.array .int)) (C := R_W) (T := F_W) (N := 10) hx hb hts i_W t_W t_W_ok n_W hown hK hP hD hS 0 rfl rfl 0 (by decide) (hts _ k_11) (fun _ h9 => h9) rfl hin rfl (by decide +kernel) rfl rfl (Nat.le_of_ble_eq_true rfl) d_W_init_9 (fun H locs hP hD hS => ?_)
  have hP : va_P (dC, dI) classes ([(h0, .inr (0, [.ref q1, .null, .null, .null, .null, .null, .int 0, .int 0, .int 0, .int 0])), (q1, .inl (a1, 13, .inl (fun _ => 0)))] : va_W) H := hP
  have hD : va_D A ([(h0, .inr (0, [.ref q1, .null, .null, .null, .null, .null, .int 0, .int 0, .int 0, .int 0])), (q1, .inl (a1, 13, .inl (fun _ => 0)))] : va_W) := hD
  refine lv_aload_n hx hb d_W_init_12 rfl (lv_at hl 0 rfl) ?_
  refine lv_bipush (v := (13 : Int32)) hx hb d_W_init_13 (by decide +kernel) ?_
  refine va_newa (atype := .int) (ty := .int) (n := (13 : Int32)) (N' := 13) (a0 := (13, .inl (fun _ => 0))) hx hb (hts _ k_31) rfl hK hP hD hS hA (fun _ => rfl) (by decide +kernel) (by decide +kernel) (by decide +kernel) (Nat.le_of_ble_eq_true rfl) (Nat.le_of_ble_eq_true rfl) d_W_init_15 (fun q2 a2 H hK hP hD hS => ?_)
  refine W.widen (k := 2) (n := 26) (by omega) (by omega) ?_
  have hP : va_P (dC, dI) classes ([(h0, .inr (0, [.ref q1, .null, .null, .null, .null, .null, .int 0, .int 0, .int 0, .int 0])), (q1, .inl (a1, 13, .inl (fun _ => 0))), (q2, .inl (a2, 13, .inl (fun _ => 0)))] : va_W) H := hP
  have hD : va_D A ([(h0, .inr (0, [.ref q1, .null, .null, .null, .null, .null, .int 0, .int 0, .int 0, .int 0])), (q1, .inl (a1, 13, .inl (fun _ => 0))), (q2, .inl (a2, 13, .inl (fun _ => 0)))] : va_W) := hD
  have hK : va_K (dC, dI) classes [(a1, .int), (a2, .int)] s := hK
  refine va_putF (D := (dC, dI)) (ci := 0) (v := .ref q2) (ty := (.array .int)) (C := R_W) (T := F_W) (N := 10) hx hb hts i_W t_W t_W_ok n_W hown hK hP hD hS 0 rfl rfl 1 (by decide) (hts _ k_12) (fun _ h9 => h9) rfl hin rfl (by decide +kernel) rfl rfl (Nat.le_of_ble_eq_true rfl) d_W_init_17 (fun H locs hP hD hS => ?_)
  have hP : va_P (dC, dI) classes ([(h0, .inr (0, [.ref q1, .ref q2, .null, .null, .null, .null, .int 0, .int 0, .int 0, .int 0])), (q1, .inl (a1, 13, .inl (fun _ => 0))), (q2, .inl (a2, 13, .inl (fun _ => 0)))] : va_W) H := hP
  have hD : va_D A ([(h0, .inr (0, [.ref q1, .ref q2, .null, .null, .null, .null, .int 0, .int 0, .int 0, .int 0])), (q1, .inl (a1, 13, .inl (fun _ => 0))), (q2, .inl (a2, 13, .inl (fun _ => 0)))] : va_W) := hD
  refine lv_aload_n hx hb d_W_init_20 rfl (lv_at hl 0 rfl) ?_
  refine lv_bipush (v := (13 : Int32)) hx hb d_W_init_21 (by decide +kernel) ?_
  refine va_newa (atype := .int) (ty := .int) (n := (13 : Int32)) (N' := 13) (a0 := (13, .inl (fun _ => 0))) hx hb (hts _ k_31) rfl hK hP hD hS hA (fun _ => rfl) (by decide +kernel) (by decide +kernel) (by decide +kernel) (Nat.le_of_ble_eq_true rfl) (Nat.le_of_ble_eq_true rfl) d_W_init_23 (fun q3 a3 H hK hP hD hS => ?_)
  refine W.widen (k := 3) (n := 39) (by omega) (by omega) ?_
  have hP : va_P (dC, dI) classes ([(h0, .inr (0, [.ref q1, .ref q2, .null, .null, .null, .null, .int 0, .int 0, .int 0, .int 0])), (q1, .inl (a1, 13, .inl (fun _ => 0))), (q2, .inl (a2, 13, .inl (fun _ => 0))), (q3, .inl (a3, 13, .inl (fun _ => 0)))] : va_W) H := hP
  have hD : va_D A ([(h0, .inr (0, [.ref q1, .ref q2, .null, .null, .null, .null, .int 0, .int 0, .int 0, .int 0])), (q1, .inl (a1, 13, .inl (fun _ => 0))), (q2, .inl (a2, 13, .inl (fun _ => 0))), (q3, .inl (a3, 13, .inl (fun _ => 0)))] : va_W) := hD
  have hK : va_K (dC, dI) classes [(a1, .int), (a2, .int), (a3, .int)] s := hK
  refine va_putF (D := (dC, dI)) (ci := 0) (v := .ref q3) (ty := (.array .int)) (C := R_W) (T := F_W) (N := 10) hx hb hts i_W t_W t_W_ok n_W hown hK hP hD hS 0 rfl rfl 2 (by decide) (hts _ k_13) (fun _ h9 => h9) rfl hin rfl (by decide +kernel) rfl rfl (Nat.le_of_ble_eq_true rfl) d_W_init_25 (fun H locs hP hD hS => ?_)
  have hP : va_P (dC, dI) classes ([(h0, .inr (0, [.ref q1, .ref q2, .ref q3, .null, .null, .null, .int 0, .int 0, .int 0, .int 0])), (q1, .inl (a1, 13, .inl (fun _ => 0))), (q2, .inl (a2, 13, .inl (fun _ => 0))), (q3, .inl (a3, 13, .inl (fun _ => 0)))] : va_W) H := hP
  have hD : va_D A ([(h0, .inr (0, [.ref q1, .ref q2, .ref q3, .null, .null, .null, .int 0, .int 0, .int 0, .int 0])), (q1, .inl (a1, 13, .inl (fun _ => 0))), (q2, .inl (a2, 13, .inl (fun _ => 0))), (q3, .inl (a3, 13, .inl (fun _ => 0)))] : va_W) := hD
  refine lv_aload_n hx hb d_W_init_28 rfl (lv_at hl 0 rfl) ?_
  refine lv_bipush (v := (13 : Int32)) hx hb d_W_init_29 (by decide +kernel) ?_
  refine va_newa (atype := .int) (ty := .int) (n := (13 : Int32)) (N' := 13) (a0 := (13, .inl (fun _ => 0))) hx hb (hts _ k_31) rfl hK hP hD hS hA (fun _ => rfl) (by decide +kernel) (by decide +kernel) (by decide +kernel) (Nat.le_of_ble_eq_true rfl) (Nat.le_of_ble_eq_true rfl) d_W_init_31 (fun q4 a4 H hK hP hD hS => ?_)
  refine W.widen (k := 4) (n := 52) (by omega) (by omega) ?_
  have hP : va_P (dC, dI) classes ([(h0, .inr (0, [.ref q1, .ref q2, .ref q3, .null, .null, .null, .int 0, .int 0, .int 0, .int 0])), (q1, .inl (a1, 13, .inl (fun _ => 0))), (q2, .inl (a2, 13, .inl (fun _ => 0))), (q3, .inl (a3, 13, .inl (fun _ => 0))), (q4, .inl (a4, 13, .inl (fun _ => 0)))] : va_W) H := hP
  have hD : va_D A ([(h0, .inr (0, [.ref q1, .ref q2, .ref q3, .null, .null, .null, .int 0, .int 0, .int 0, .int 0])), (q1, .inl (a1, 13, .inl (fun _ => 0))), (q2, .inl (a2, 13, .inl (fun _ => 0))), (q3, .inl (a3, 13, .inl (fun _ => 0))), (q4, .inl (a4, 13, .inl (fun _ => 0)))] : va_W) := hD
  have hK : va_K (dC, dI) classes [(a1, .int), (a2, .int), (a3, .int), (a4, .int)] s := hK
  refine va_putF (D := (dC, dI)) (ci := 0) (v := .ref q4) (ty := (.array .int)) (C := R_W) (T := F_W) (N := 10) hx hb hts i_W t_W t_W_ok n_W hown hK hP hD hS 0 rfl rfl 3 (by decide) (hts _ k_9) (fun _ h9 => h9) rfl hin rfl (by decide +kernel) rfl rfl (Nat.le_of_ble_eq_true rfl) d_W_init_33 (fun H locs hP hD hS => ?_)
  have hP : va_P (dC, dI) classes ([(h0, .inr (0, [.ref q1, .ref q2, .ref q3, .ref q4, .null, .null, .int 0, .int 0, .int 0, .int 0])), (q1, .inl (a1, 13, .inl (fun _ => 0))), (q2, .inl (a2, 13, .inl (fun _ => 0))), (q3, .inl (a3, 13, .inl (fun _ => 0))), (q4, .inl (a4, 13, .inl (fun _ => 0)))] : va_W) H := hP
  have hD : va_D A ([(h0, .inr (0, [.ref q1, .ref q2, .ref q3, .ref q4, .null, .null, .int 0, .int 0, .int 0, .int 0])), (q1, .inl (a1, 13, .inl (fun _ => 0))), (q2, .inl (a2, 13, .inl (fun _ => 0))), (q3, .inl (a3, 13, .inl (fun _ => 0))), (q4, .inl (a4, 13, .inl (fun _ => 0)))] : va_W) := hD
  refine lv_aload_n hx hb d_W_init_36 rfl (lv_at hl 0 rfl) ?_
  refine lv_bipush (v := (52 : Int32)) hx hb d_W_init_37 (by decide +kernel) ?_
  refine va_newa (atype := .int) (ty := .int) (n := (52 : Int32)) (N' := 52) (a0 := (52, .inl (fun _ => 0))) hx hb (hts _ k_31) rfl hK hP hD hS hA (fun _ => rfl) (by decide +kernel) (by decide +kernel) (by decide +kernel) (Nat.le_of_ble_eq_true rfl) (Nat.le_of_ble_eq_true rfl) d_W_init_39 (fun q5 a5 H hK hP hD hS => ?_)
  refine W.widen (k := 5) (n := 104) (by omega) (by omega) ?_
  have hP : va_P (dC, dI) classes ([(h0, .inr (0, [.ref q1, .ref q2, .ref q3, .ref q4, .null, .null, .int 0, .int 0, .int 0, .int 0])), (q1, .inl (a1, 13, .inl (fun _ => 0))), (q2, .inl (a2, 13, .inl (fun _ => 0))), (q3, .inl (a3, 13, .inl (fun _ => 0))), (q4, .inl (a4, 13, .inl (fun _ => 0))), (q5, .inl (a5, 52, .inl (fun _ => 0)))] : va_W) H := hP
  have hD : va_D A ([(h0, .inr (0, [.ref q1, .ref q2, .ref q3, .ref q4, .null, .null, .int 0, .int 0, .int 0, .int 0])), (q1, .inl (a1, 13, .inl (fun _ => 0))), (q2, .inl (a2, 13, .inl (fun _ => 0))), (q3, .inl (a3, 13, .inl (fun _ => 0))), (q4, .inl (a4, 13, .inl (fun _ => 0))), (q5, .inl (a5, 52, .inl (fun _ => 0)))] : va_W) := hD
  have hK : va_K (dC, dI) classes [(a1, .int), (a2, .int), (a3, .int), (a4, .int), (a5, .int)] s := hK
  refine va_putF (D := (dC, dI)) (ci := 0) (v := .ref q5) (ty := (.array .int)) (C := R_W) (T := F_W) (N := 10) hx hb hts i_W t_W t_W_ok n_W hown hK hP hD hS 0 rfl rfl 4 (by decide) (hts _ k_10) (fun _ h9 => h9) rfl hin rfl (by decide +kernel) rfl rfl (Nat.le_of_ble_eq_true rfl) d_W_init_41 (fun H locs hP hD hS => ?_)
  have hP : va_P (dC, dI) classes ([(h0, .inr (0, [.ref q1, .ref q2, .ref q3, .ref q4, .ref q5, .null, .int 0, .int 0, .int 0, .int 0])), (q1, .inl (a1, 13, .inl (fun _ => 0))), (q2, .inl (a2, 13, .inl (fun _ => 0))), (q3, .inl (a3, 13, .inl (fun _ => 0))), (q4, .inl (a4, 13, .inl (fun _ => 0))), (q5, .inl (a5, 52, .inl (fun _ => 0)))] : va_W) H := hP
  have hD : va_D A ([(h0, .inr (0, [.ref q1, .ref q2, .ref q3, .ref q4, .ref q5, .null, .int 0, .int 0, .int 0, .int 0])), (q1, .inl (a1, 13, .inl (fun _ => 0))), (q2, .inl (a2, 13, .inl (fun _ => 0))), (q3, .inl (a3, 13, .inl (fun _ => 0))), (q4, .inl (a4, 13, .inl (fun _ => 0))), (q5, .inl (a5, 52, .inl (fun _ => 0)))] : va_W) := hD
  refine lv_aload_n hx hb d_W_init_44 rfl (lv_at hl 0 rfl) ?_
  refine lv_bipush (v := (13 : Int32)) hx hb d_W_init_45 (by decide +kernel) ?_
  refine va_newa (atype := .int) (ty := .int) (n := (13 : Int32)) (N' := 13) (a0 := (13, .inl (fun _ => 0))) hx hb (hts _ k_31) rfl hK hP hD hS hA (fun _ => rfl) (by decide +kernel) (by decide +kernel) (by decide +kernel) (Nat.le_of_ble_eq_true rfl) (Nat.le_of_ble_eq_true rfl) d_W_init_47 (fun q6 a6 H hK hP hD hS => ?_)
  refine W.widen (k := 6) (n := 117) (by omega) (by omega) ?_
  have hP : va_P (dC, dI) classes ([(h0, .inr (0, [.ref q1, .ref q2, .ref q3, .ref q4, .ref q5, .null, .int 0, .int 0, .int 0, .int 0])), (q1, .inl (a1, 13, .inl (fun _ => 0))), (q2, .inl (a2, 13, .inl (fun _ => 0))), (q3, .inl (a3, 13, .inl (fun _ => 0))), (q4, .inl (a4, 13, .inl (fun _ => 0))), (q5, .inl (a5, 52, .inl (fun _ => 0))), (q6, .inl (a6, 13, .inl (fun _ => 0)))] : va_W) H := hP
  have hD : va_D A ([(h0, .inr (0, [.ref q1, .ref q2, .ref q3, .ref q4, .ref q5, .null, .int 0, .int 0, .int 0, .int 0])), (q1, .inl (a1, 13, .inl (fun _ => 0))), (q2, .inl (a2, 13, .inl (fun _ => 0))), (q3, .inl (a3, 13, .inl (fun _ => 0))), (q4, .inl (a4, 13, .inl (fun _ => 0))), (q5, .inl (a5, 52, .inl (fun _ => 0))), (q6, .inl (a6, 13, .inl (fun _ => 0)))] : va_W) := hD
  have hK : va_K (dC, dI) classes [(a1, .int), (a2, .int), (a3, .int), (a4, .int), (a5, .int), (a6, .int)] s := hK
  refine va_putF (D := (dC, dI)) (ci := 0) (v := .ref q6) (ty := (.array .int)) (C := R_W) (T := F_W) (N := 10) hx hb hts i_W t_W t_W_ok n_W hown hK hP hD hS 0 rfl rfl 5 (by decide) (hts _ k_14) (fun _ h9 => h9) rfl hin rfl (by decide +kernel) rfl rfl (Nat.le_of_ble_eq_true rfl) d_W_init_49 (fun H locs hP hD hS => ?_)
  have hP : va_P (dC, dI) classes ([(h0, .inr (0, [.ref q1, .ref q2, .ref q3, .ref q4, .ref q5, .ref q6, .int 0, .int 0, .int 0, .int 0])), (q1, .inl (a1, 13, .inl (fun _ => 0))), (q2, .inl (a2, 13, .inl (fun _ => 0))), (q3, .inl (a3, 13, .inl (fun _ => 0))), (q4, .inl (a4, 13, .inl (fun _ => 0))), (q5, .inl (a5, 52, .inl (fun _ => 0))), (q6, .inl (a6, 13, .inl (fun _ => 0)))] : va_W) H := hP
  have hD : va_D A ([(h0, .inr (0, [.ref q1, .ref q2, .ref q3, .ref q4, .ref q5, .ref q6, .int 0, .int 0, .int 0, .int 0])), (q1, .inl (a1, 13, .inl (fun _ => 0))), (q2, .inl (a2, 13, .inl (fun _ => 0))), (q3, .inl (a3, 13, .inl (fun _ => 0))), (q4, .inl (a4, 13, .inl (fun _ => 0))), (q5, .inl (a5, 52, .inl (fun _ => 0))), (q6, .inl (a6, 13, .inl (fun _ => 0)))] : va_W) := hD
  refine lv_aload_n hx hb d_W_init_52 rfl (lv_at hl 0 rfl) ?_
  refine lv_iconst (v := (0 : Int32)) hx hb d_W_init_53 (by decide +kernel) ?_
  refine va_put (D := (dC, dI)) (ci := 0) (v := .int (0 : Int32)) (ty := .int) (C := R_W) (T := F_W) (N := 10) hx hb hts i_W t_W t_W_ok n_W hown hK hP hD hS 0 rfl rfl 6 (by decide) (hts _ k_15) (fun _ h9 => h9) rfl (by decide +kernel) rfl rfl (Nat.le_of_ble_eq_true rfl) d_W_init_54 (fun H locs hP hD hS => ?_)
  have hP : va_P (dC, dI) classes ([(h0, .inr (0, [.ref q1, .ref q2, .ref q3, .ref q4, .ref q5, .ref q6, .int (0 : Int32), .int 0, .int 0, .int 0])), (q1, .inl (a1, 13, .inl (fun _ => 0))), (q2, .inl (a2, 13, .inl (fun _ => 0))), (q3, .inl (a3, 13, .inl (fun _ => 0))), (q4, .inl (a4, 13, .inl (fun _ => 0))), (q5, .inl (a5, 52, .inl (fun _ => 0))), (q6, .inl (a6, 13, .inl (fun _ => 0)))] : va_W) H := hP
  have hD : va_D A ([(h0, .inr (0, [.ref q1, .ref q2, .ref q3, .ref q4, .ref q5, .ref q6, .int (0 : Int32), .int 0, .int 0, .int 0])), (q1, .inl (a1, 13, .inl (fun _ => 0))), (q2, .inl (a2, 13, .inl (fun _ => 0))), (q3, .inl (a3, 13, .inl (fun _ => 0))), (q4, .inl (a4, 13, .inl (fun _ => 0))), (q5, .inl (a5, 52, .inl (fun _ => 0))), (q6, .inl (a6, 13, .inl (fun _ => 0)))] : va_W) := hD
  refine lv_aload_n hx hb d_W_init_57 rfl (lv_at hl 0 rfl) ?_
  refine lv_iconst (v := (0 : Int32)) hx hb d_W_init_58 (by decide +kernel) ?_
  refine va_put (D := (dC, dI)) (ci := 0) (v := .int (0 : Int32)) (ty := .int) (C := R_W) (T := F_W) (N := 10) hx hb hts i_W t_W t_W_ok n_W hown hK hP hD hS 0 rfl rfl 7 (by decide) (hts _ k_8) (fun _ h9 => h9) rfl (by decide +kernel) rfl rfl (Nat.le_of_ble_eq_true rfl) d_W_init_59 (fun H locs hP hD hS => ?_)
  have hP : va_P (dC, dI) classes ([(h0, .inr (0, [.ref q1, .ref q2, .ref q3, .ref q4, .ref q5, .ref q6, .int (0 : Int32), .int (0 : Int32), .int 0, .int 0])), (q1, .inl (a1, 13, .inl (fun _ => 0))), (q2, .inl (a2, 13, .inl (fun _ => 0))), (q3, .inl (a3, 13, .inl (fun _ => 0))), (q4, .inl (a4, 13, .inl (fun _ => 0))), (q5, .inl (a5, 52, .inl (fun _ => 0))), (q6, .inl (a6, 13, .inl (fun _ => 0)))] : va_W) H := hP
  have hD : va_D A ([(h0, .inr (0, [.ref q1, .ref q2, .ref q3, .ref q4, .ref q5, .ref q6, .int (0 : Int32), .int (0 : Int32), .int 0, .int 0])), (q1, .inl (a1, 13, .inl (fun _ => 0))), (q2, .inl (a2, 13, .inl (fun _ => 0))), (q3, .inl (a3, 13, .inl (fun _ => 0))), (q4, .inl (a4, 13, .inl (fun _ => 0))), (q5, .inl (a5, 52, .inl (fun _ => 0))), (q6, .inl (a6, 13, .inl (fun _ => 0)))] : va_W) := hD
  refine lv_aload_n hx hb d_W_init_62 rfl (lv_at hl 0 rfl) ?_
  refine lv_iconst (v := (0 : Int32)) hx hb d_W_init_63 (by decide +kernel) ?_
  refine va_put (D := (dC, dI)) (ci := 0) (v := .int (0 : Int32)) (ty := .int) (C := R_W) (T := F_W) (N := 10) hx hb hts i_W t_W t_W_ok n_W hown hK hP hD hS 0 rfl rfl 8 (by decide) (hts _ k_4) (fun _ h9 => h9) rfl (by decide +kernel) rfl rfl (Nat.le_of_ble_eq_true rfl) d_W_init_64 (fun H locs hP hD hS => ?_)
  have hP : va_P (dC, dI) classes ([(h0, .inr (0, [.ref q1, .ref q2, .ref q3, .ref q4, .ref q5, .ref q6, .int (0 : Int32), .int (0 : Int32), .int (0 : Int32), .int 0])), (q1, .inl (a1, 13, .inl (fun _ => 0))), (q2, .inl (a2, 13, .inl (fun _ => 0))), (q3, .inl (a3, 13, .inl (fun _ => 0))), (q4, .inl (a4, 13, .inl (fun _ => 0))), (q5, .inl (a5, 52, .inl (fun _ => 0))), (q6, .inl (a6, 13, .inl (fun _ => 0)))] : va_W) H := hP
  have hD : va_D A ([(h0, .inr (0, [.ref q1, .ref q2, .ref q3, .ref q4, .ref q5, .ref q6, .int (0 : Int32), .int (0 : Int32), .int (0 : Int32), .int 0])), (q1, .inl (a1, 13, .inl (fun _ => 0))), (q2, .inl (a2, 13, .inl (fun _ => 0))), (q3, .inl (a3, 13, .inl (fun _ => 0))), (q4, .inl (a4, 13, .inl (fun _ => 0))), (q5, .inl (a5, 52, .inl (fun _ => 0))), (q6, .inl (a6, 13, .inl (fun _ => 0)))] : va_W) := hD
  refine lv_aload_n hx hb d_W_init_67 rfl (lv_at hl 0 rfl) ?_
  refine lv_iconst (v := (0 : Int32)) hx hb d_W_init_68 (by decide +kernel) ?_
  refine va_put (D := (dC, dI)) (ci := 0) (v := .int (0 : Int32)) (ty := .int) (C := R_W) (T := F_W) (N := 10) hx hb hts i_W t_W t_W_ok n_W hown hK hP hD hS 0 rfl rfl 9 (by decide) (hts _ k_3) (fun _ h9 => h9) rfl (by decide +kernel) rfl rfl (Nat.le_of_ble_eq_true rfl) d_W_init_69 (fun H locs hP hD hS => ?_)
  have hP : va_P (dC, dI) classes ([(h0, .inr (0, [.ref q1, .ref q2, .ref q3, .ref q4, .ref q5, .ref q6, .int (0 : Int32), .int (0 : Int32), .int (0 : Int32), .int (0 : Int32)])), (q1, .inl (a1, 13, .inl (fun _ => 0))), (q2, .inl (a2, 13, .inl (fun _ => 0))), (q3, .inl (a3, 13, .inl (fun _ => 0))), (q4, .inl (a4, 13, .inl (fun _ => 0))), (q5, .inl (a5, 52, .inl (fun _ => 0))), (q6, .inl (a6, 13, .inl (fun _ => 0)))] : va_W) H := hP
  have hD : va_D A ([(h0, .inr (0, [.ref q1, .ref q2, .ref q3, .ref q4, .ref q5, .ref q6, .int (0 : Int32), .int (0 : Int32), .int (0 : Int32), .int (0 : Int32)])), (q1, .inl (a1, 13, .inl (fun _ => 0))), (q2, .inl (a2, 13, .inl (fun _ => 0))), (q3, .inl (a3, 13, .inl (fun _ => 0))), (q4, .inl (a4, 13, .inl (fun _ => 0))), (q5, .inl (a5, 52, .inl (fun _ => 0))), (q6, .inl (a6, 13, .inl (fun _ => 0)))] : va_W) := hD
  have hP9 : va_P (dC, dI) classes (wW (vl_f [a1, a2, a3, a4, a5, a6] a1) (vl_f [h0, q1, q2, q3, q4, q5, q6] h0) w0) H := hP
  have hD9 : va_D A (wW (vl_f [a1, a2, a3, a4, a5, a6] a1) (vl_f [h0, q1, q2, q3, q4, q5, q6] h0) w0) := hD
  have hK9 : va_K (dC, dI) classes (tW (vl_f [a1, a2, a3, a4, a5, a6] a1)) s := hK
  exact W.vret hx hb hr (fun t ht hW => ⟨⟨((vl_f [a1, a2, a3, a4, a5, a6] a1), (vl_f [h0, q1, q2, q3, q4, q5, q6] h0)), rfl, rfl, by rw [ht]; exact hP9, va_K.moved hW.alike hK9, hD9⟩, hS.F ht⟩) hS.2.2 d_W_init_72
set_option maxHeartbeats 4000000 in
set_option maxRecDepth 100000 in
theorem c_M_init (l : Launch) (dC : Nat → ClassId) (dI : Nat → Nat → Nat) (h0 sz : Nat) : Met l y_M_init w_M_init ({ frames := 1, cells := 5, slots := 68, locals := 12 } : Room) (mu_P dC dI (nM h0) [] sz [.ref h0]) (va_Qv (fun (u : (Nat → ClassId) × (Nat → Nat)) => u.2 0 = h0) (fun u t => va_P (dC, dI) classes (wM u.1 u.2 m0) t.heap ∧ va_K (dC, dI) classes (tM u.1) t ∧ va_D (va_A (nM h0) sz) (wM u.1 u.2 m0)) (va_A (nM h0) sz)) 5 68 (va_A (nM h0) sz) := by
  refine Met.ofW (cc := b_M_init) (maxL := 1) (ret := none) (by decide) rfl ?_
  intro p e s m args below meth c s₁ B hml hv
  obtain ⟨rfl, hsz, hP, hK, hN, hD0⟩ := hv
  have hx := B.exec
  have hb := B.bytes
  have hr := B.returns
  have hts := tl_of (atoms_spec (ws := w_M_init) B.pre)
  have hown : s.vm.findClass R_M = some m.cls := findClass_of_methodNamed B.named
  have hlocks := B.notSynchronized
  have hin : meth.name = "<init>" := (name_of_methodNamed B.named B.method).1
  subst hsz
  have hD := hD0.self (sz := s.heap.size)
  generalize hAe : va_A (nM h0) s.heap.size = A at hD ⊢
  have hA : ∀ q : Nat, s.heap.size ≤ q → A q := fun q h => by rw [← hAe]; exact Or.inr h
  have hS : va_S A s.heap s.heap [] := va_S.rf
  have hl := lv_entry ([.ref h0]) (n := 1) (Nat.le_of_ble_eq_true rfl)
  rw [lg_entry_eq]
  generalize (lg_sl ([.ref h0]) ++ List.replicate (1 - (lg_sl ([.ref h0])).length) Slot.unset).toArray = ls at hl ⊢
  have hl : lv_has ls 1 [(0, .ref h0)] := hl
  refine lv_aload_n hx hb d_M_init_0 rfl (lv_at hl 0 rfl) ?_
  refine W.objInit hx hb hown (hts _ k_32) (hts _ k_30) (hts _ kc_objInit) rfl (by rw [hml]; exact hl.1) rfl d_M_init_1 (Nat.le_of_ble_eq_true rfl) (Nat.le_of_ble_eq_true rfl) ?_
  refine W.eq (g2 := F0 m 4 ls []) rfl ?_
  refine lv_aload_n hx hb d_M_init_4 rfl (lv_at hl 0 rfl) ?_
  refine lv_iconst (v := (4 : Int32)) hx hb d_M_init_5 (by decide +kernel) ?_
  refine va_newa (atype := .int) (ty := .int) (n := (4 : Int32)) (N' := 4) (a0 := (4, .inl (fun _ => 0))) hx hb (hts _ k_31) rfl hK hP hD hS hA (fun _ => rfl) (by decide +kernel) (by decide +kernel) (by decide +kernel) (Nat.le_of_ble_eq_true rfl) (Nat.le_of_ble_eq_true rfl) d_M_init_6 (fun q1 a1 H hK hP hD hS => ?_)
  refine W.widen (k := 1) (n := 4) (by omega) (by omega) ?_
  have hP : va_P (dC, dI) classes ([(h0, .inr (1, [.null, .null, .null, .null, .null])), (q1, .inl (a1, 4, .inl (fun _ => 0)))] : va_W) H := hP
  have hD : va_D A ([(h0, .inr (1, [.null, .null, .null, .null, .null])), (q1, .inl (a1, 4, .inl (fun _ => 0)))] : va_W) := hD
  have hK : va_K (dC, dI) classes [(a1, .int)] s := hK
  refine va_putF (D := (dC, dI)) (ci := 1) (v := .ref q1) (ty := (.array .int)) (C := R_M) (T := F_M) (N := 5) hx hb hts i_M t_M t_M_ok n_M hown hK hP hD hS 0 rfl rfl 0 (by decide) (hts _ k_16) (fun _ h9 => h9) rfl hin rfl (by decide +kernel) rfl rfl (Nat.le_of_ble_eq_true rfl) d_M_init_8 (fun H locs hP hD hS => ?_)
  have hP : va_P (dC, dI) classes ([(h0, .inr (1, [.ref q1, .null, .null, .null, .null])), (q1, .inl (a1, 4, .inl (fun _ => 0)))] : va_W) H := hP
  have hD : va_D A ([(h0, .inr (1, [.ref q1, .null, .null, .null, .null])), (q1, .inl (a1, 4, .inl (fun _ => 0)))] : va_W) := hD
  refine lv_aload_n hx hb d_M_init_11 rfl (lv_at hl 0 rfl) ?_
  refine lv_iconst (v := (4 : Int32)) hx hb d_M_init_12 (by decide +kernel) ?_
  refine va_newa (atype := .int) (ty := .int) (n := (4 : Int32)) (N' := 4) (a0 := (4, .inl (fun _ => 0))) hx hb (hts _ k_31) rfl hK hP hD hS hA (fun _ => rfl) (by decide +kernel) (by decide +kernel) (by decide +kernel) (Nat.le_of_ble_eq_true rfl) (Nat.le_of_ble_eq_true rfl) d_M_init_13 (fun q2 a2 H hK hP hD hS => ?_)
  refine W.widen (k := 2) (n := 8) (by omega) (by omega) ?_
  have hP : va_P (dC, dI) classes ([(h0, .inr (1, [.ref q1, .null, .null, .null, .null])), (q1, .inl (a1, 4, .inl (fun _ => 0))), (q2, .inl (a2, 4, .inl (fun _ => 0)))] : va_W) H := hP
  have hD : va_D A ([(h0, .inr (1, [.ref q1, .null, .null, .null, .null])), (q1, .inl (a1, 4, .inl (fun _ => 0))), (q2, .inl (a2, 4, .inl (fun _ => 0)))] : va_W) := hD
  have hK : va_K (dC, dI) classes [(a1, .int), (a2, .int)] s := hK
  refine va_putF (D := (dC, dI)) (ci := 1) (v := .ref q2) (ty := (.array .int)) (C := R_M) (T := F_M) (N := 5) hx hb hts i_M t_M t_M_ok n_M hown hK hP hD hS 0 rfl rfl 1 (by decide) (hts _ k_18) (fun _ h9 => h9) rfl hin rfl (by decide +kernel) rfl rfl (Nat.le_of_ble_eq_true rfl) d_M_init_15 (fun H locs hP hD hS => ?_)
  have hP : va_P (dC, dI) classes ([(h0, .inr (1, [.ref q1, .ref q2, .null, .null, .null])), (q1, .inl (a1, 4, .inl (fun _ => 0))), (q2, .inl (a2, 4, .inl (fun _ => 0)))] : va_W) H := hP
  have hD : va_D A ([(h0, .inr (1, [.ref q1, .ref q2, .null, .null, .null])), (q1, .inl (a1, 4, .inl (fun _ => 0))), (q2, .inl (a2, 4, .inl (fun _ => 0)))] : va_W) := hD
  refine lv_aload_n hx hb d_M_init_18 rfl (lv_at hl 0 rfl) ?_
  refine lv_iconst (v := (4 : Int32)) hx hb d_M_init_19 (by decide +kernel) ?_
  refine va_newa (atype := .int) (ty := .int) (n := (4 : Int32)) (N' := 4) (a0 := (4, .inl (fun _ => 0))) hx hb (hts _ k_31) rfl hK hP hD hS hA (fun _ => rfl) (by decide +kernel) (by decide +kernel) (by decide +kernel) (Nat.le_of_ble_eq_true rfl) (Nat.le_of_ble_eq_true rfl) d_M_init_20 (fun q3 a3 H hK hP hD hS => ?_)
  refine W.widen (k := 3) (n := 12) (by omega) (by omega) ?_
  have hP : va_P (dC, dI) classes ([(h0, .inr (1, [.ref q1, .ref q2, .null, .null, .null])), (q1, .inl (a1, 4, .inl (fun _ => 0))), (q2, .inl (a2, 4, .inl (fun _ => 0))), (q3, .inl (a3, 4, .inl (fun _ => 0)))] : va_W) H := hP
  have hD : va_D A ([(h0, .inr (1, [.ref q1, .ref q2, .null, .null, .null])), (q1, .inl (a1, 4, .inl (fun _ => 0))), (q2, .inl (a2, 4, .inl (fun _ => 0))), (q3, .inl (a3, 4, .inl (fun _ => 0)))] : va_W) := hD
  have hK : va_K (dC, dI) classes [(a1, .int), (a2, .int), (a3, .int)] s := hK
  refine va_putF (D := (dC, dI)) (ci := 1) (v := .ref q3) (ty := (.array .int)) (C := R_M) (T := F_M) (N := 5) hx hb hts i_M t_M t_M_ok n_M hown hK hP hD hS 0 rfl rfl 2 (by decide) (hts _ k_17) (fun _ h9 => h9) rfl hin rfl (by decide +kernel) rfl rfl (Nat.le_of_ble_eq_true rfl) d_M_init_22 (fun H locs hP hD hS => ?_)
  have hP : va_P (dC, dI) classes ([(h0, .inr (1, [.ref q1, .ref q2, .ref q3, .null, .null])), (q1, .inl (a1, 4, .inl (fun _ => 0))), (q2, .inl (a2, 4, .inl (fun _ => 0))), (q3, .inl (a3, 4, .inl (fun _ => 0)))] : va_W) H := hP
  have hD : va_D A ([(h0, .inr (1, [.ref q1, .ref q2, .ref q3, .null, .null])), (q1, .inl (a1, 4, .inl (fun _ => 0))), (q2, .inl (a2, 4, .inl (fun _ => 0))), (q3, .inl (a3, 4, .inl (fun _ => 0)))] : va_W) := hD
  refine lv_aload_n hx hb d_M_init_25 rfl (lv_at hl 0 rfl) ?_
  refine lv_iconst (v := (4 : Int32)) hx hb d_M_init_26 (by decide +kernel) ?_
  refine va_newa (atype := .int) (ty := .int) (n := (4 : Int32)) (N' := 4) (a0 := (4, .inl (fun _ => 0))) hx hb (hts _ k_31) rfl hK hP hD hS hA (fun _ => rfl) (by decide +kernel) (by decide +kernel) (by decide +kernel) (Nat.le_of_ble_eq_true rfl) (Nat.le_of_ble_eq_true rfl) d_M_init_27 (fun q4 a4 H hK hP hD hS => ?_)
  refine W.widen (k := 4) (n := 16) (by omega) (by omega) ?_
  have hP : va_P (dC, dI) classes ([(h0, .inr (1, [.ref q1, .ref q2, .ref q3, .null, .null])), (q1, .inl (a1, 4, .inl (fun _ => 0))), (q2, .inl (a2, 4, .inl (fun _ => 0))), (q3, .inl (a3, 4, .inl (fun _ => 0))), (q4, .inl (a4, 4, .inl (fun _ => 0)))] : va_W) H := hP
  have hD : va_D A ([(h0, .inr (1, [.ref q1, .ref q2, .ref q3, .null, .null])), (q1, .inl (a1, 4, .inl (fun _ => 0))), (q2, .inl (a2, 4, .inl (fun _ => 0))), (q3, .inl (a3, 4, .inl (fun _ => 0))), (q4, .inl (a4, 4, .inl (fun _ => 0)))] : va_W) := hD
  have hK : va_K (dC, dI) classes [(a1, .int), (a2, .int), (a3, .int), (a4, .int)] s := hK
  refine va_putF (D := (dC, dI)) (ci := 1) (v := .ref q4) (ty := (.array .int)) (C := R_M) (T := F_M) (N := 5) hx hb hts i_M t_M t_M_ok n_M hown hK hP hD hS 0 rfl rfl 3 (by decide) (hts _ k_19) (fun _ h9 => h9) rfl hin rfl (by decide +kernel) rfl rfl (Nat.le_of_ble_eq_true rfl) d_M_init_29 (fun H locs hP hD hS => ?_)
  have hP : va_P (dC, dI) classes ([(h0, .inr (1, [.ref q1, .ref q2, .ref q3, .ref q4, .null])), (q1, .inl (a1, 4, .inl (fun _ => 0))), (q2, .inl (a2, 4, .inl (fun _ => 0))), (q3, .inl (a3, 4, .inl (fun _ => 0))), (q4, .inl (a4, 4, .inl (fun _ => 0)))] : va_W) H := hP
  have hD : va_D A ([(h0, .inr (1, [.ref q1, .ref q2, .ref q3, .ref q4, .null])), (q1, .inl (a1, 4, .inl (fun _ => 0))), (q2, .inl (a2, 4, .inl (fun _ => 0))), (q3, .inl (a3, 4, .inl (fun _ => 0))), (q4, .inl (a4, 4, .inl (fun _ => 0)))] : va_W) := hD
  refine lv_aload_n hx hb d_M_init_32 rfl (lv_at hl 0 rfl) ?_
  refine lv_bipush (v := (52 : Int32)) hx hb d_M_init_33 (by decide +kernel) ?_
  refine va_newa (atype := .int) (ty := .int) (n := (52 : Int32)) (N' := 52) (a0 := (52, .inl (fun _ => 0))) hx hb (hts _ k_31) rfl hK hP hD hS hA (fun _ => rfl) (by decide +kernel) (by decide +kernel) (by decide +kernel) (Nat.le_of_ble_eq_true rfl) (Nat.le_of_ble_eq_true rfl) d_M_init_35 (fun q5 a5 H hK hP hD hS => ?_)
  refine W.widen (k := 5) (n := 68) (by omega) (by omega) ?_
  have hP : va_P (dC, dI) classes ([(h0, .inr (1, [.ref q1, .ref q2, .ref q3, .ref q4, .null])), (q1, .inl (a1, 4, .inl (fun _ => 0))), (q2, .inl (a2, 4, .inl (fun _ => 0))), (q3, .inl (a3, 4, .inl (fun _ => 0))), (q4, .inl (a4, 4, .inl (fun _ => 0))), (q5, .inl (a5, 52, .inl (fun _ => 0)))] : va_W) H := hP
  have hD : va_D A ([(h0, .inr (1, [.ref q1, .ref q2, .ref q3, .ref q4, .null])), (q1, .inl (a1, 4, .inl (fun _ => 0))), (q2, .inl (a2, 4, .inl (fun _ => 0))), (q3, .inl (a3, 4, .inl (fun _ => 0))), (q4, .inl (a4, 4, .inl (fun _ => 0))), (q5, .inl (a5, 52, .inl (fun _ => 0)))] : va_W) := hD
  have hK : va_K (dC, dI) classes [(a1, .int), (a2, .int), (a3, .int), (a4, .int), (a5, .int)] s := hK
  refine va_putF (D := (dC, dI)) (ci := 1) (v := .ref q5) (ty := (.array .int)) (C := R_M) (T := F_M) (N := 5) hx hb hts i_M t_M t_M_ok n_M hown hK hP hD hS 0 rfl rfl 4 (by decide) (hts _ k_21) (fun _ h9 => h9) rfl hin rfl (by decide +kernel) rfl rfl (Nat.le_of_ble_eq_true rfl) d_M_init_37 (fun H locs hP hD hS => ?_)
  have hP : va_P (dC, dI) classes ([(h0, .inr (1, [.ref q1, .ref q2, .ref q3, .ref q4, .ref q5])), (q1, .inl (a1, 4, .inl (fun _ => 0))), (q2, .inl (a2, 4, .inl (fun _ => 0))), (q3, .inl (a3, 4, .inl (fun _ => 0))), (q4, .inl (a4, 4, .inl (fun _ => 0))), (q5, .inl (a5, 52, .inl (fun _ => 0)))] : va_W) H := hP
  have hD : va_D A ([(h0, .inr (1, [.ref q1, .ref q2, .ref q3, .ref q4, .ref q5])), (q1, .inl (a1, 4, .inl (fun _ => 0))), (q2, .inl (a2, 4, .inl (fun _ => 0))), (q3, .inl (a3, 4, .inl (fun _ => 0))), (q4, .inl (a4, 4, .inl (fun _ => 0))), (q5, .inl (a5, 52, .inl (fun _ => 0)))] : va_W) := hD
  have hP9 : va_P (dC, dI) classes (wM (vl_f [a1, a2, a3, a4, a5] a1) (vl_f [h0, q1, q2, q3, q4, q5] h0) m0) H := hP
  have hD9 : va_D A (wM (vl_f [a1, a2, a3, a4, a5] a1) (vl_f [h0, q1, q2, q3, q4, q5] h0) m0) := hD
  have hK9 : va_K (dC, dI) classes (tM (vl_f [a1, a2, a3, a4, a5] a1)) s := hK
  exact W.vret hx hb hr (fun t ht hW => ⟨⟨((vl_f [a1, a2, a3, a4, a5] a1), (vl_f [h0, q1, q2, q3, q4, q5] h0)), rfl, rfl, by rw [ht]; exact hP9, va_K.moved hW.alike hK9, hD9⟩, hS.F ht⟩) hS.2.2 d_M_init_40
set_option maxHeartbeats 4000000 in
set_option maxRecDepth 100000 in
theorem c_O_init (l : Launch) (dC : Nat → ClassId) (dI : Nat → Nat → Nat) (h0 sz : Nat) : Met l y_O_init w_O_init ({ frames := 2, cells := 19, slots := 273, locals := 32 } : Room) (mu_P dC dI (nO h0) [] sz [.ref h0]) (va_Qv (fun (_ : ((Nat → ClassId) × (Nat → ClassId) × (Nat → ClassId)) × ((Nat → Nat) × (Nat → Nat) × (Nat → Nat))) => True) (fun u t => va_P (dC, dI) classes (wO h0 u.1.1 u.1.2.1 u.1.2.2 u.2.1 u.2.2.1 u.2.2.2 v0 0) t.heap ∧ va_K (dC, dI) classes (tO u.1.1 u.1.2.1 u.1.2.2) t ∧ va_D (va_A (nO h0) sz) (wO h0 u.1.1 u.1.2.1 u.1.2.2 u.2.1 u.2.2.1 u.2.2.2 v0 0)) (va_A (nO h0) sz)) 19 273 (va_A (nO h0) sz) := by
  refine Met.ofW (cc := b_O_init) (maxL := 1) (ret := none) (by decide) rfl ?_
  intro p e s m args below meth c s₁ B hml hv
  obtain ⟨rfl, hsz, hP, hK, hN, hD0⟩ := hv
  have hx := B.exec
  have hb := B.bytes
  have hr := B.returns
  have hts := tl_of (atoms_spec (ws := w_O_init) B.pre)
  have hown : s.vm.findClass R_O = some m.cls := findClass_of_methodNamed B.named
  have hlocks := B.notSynchronized
  have hin : meth.name = "<init>" := (name_of_methodNamed B.named B.method).1
  subst hsz
  have hD := hD0.self (sz := s.heap.size)
  generalize hAe : va_A (nO h0) s.heap.size = A at hD ⊢
  have hA : ∀ q : Nat, s.heap.size ≤ q → A q := fun q h => by rw [← hAe]; exact Or.inr h
  have hS : va_S A s.heap s.heap [] := va_S.rf
  have hl := lv_entry ([.ref h0]) (n := 1) (Nat.le_of_ble_eq_true rfl)
  rw [lg_entry_eq]
  generalize (lg_sl ([.ref h0]) ++ List.replicate (1 - (lg_sl ([.ref h0])).length) Slot.unset).toArray = ls at hl ⊢
  have hl : lv_has ls 1 [(0, .ref h0)] := hl
  refine lv_aload_n hx hb d_O_init_0 rfl (lv_at hl 0 rfl) ?_
  refine W.objInit hx hb hown (hts _ k_33) (hts _ k_30) (hts _ kc_objInit) rfl (by rw [hml]; exact hl.1) rfl d_O_init_1 (Nat.le_of_ble_eq_true rfl) (Nat.le_of_ble_eq_true rfl) ?_
  refine W.eq (g2 := F0 m 4 ls []) rfl ?_
  refine lv_aload_n hx hb d_O_init_4 rfl (lv_at hl 0 rfl) ?_
  refine va_new (ci := 0) (fs := [.null, .null, .null, .null, .null, .null, .int 0, .int 0, .int 0, .int 0]) (C := R_W) (T := F_W) (N := 10) hx hb hts i_W t_W t_W_ok hown (hts _ k_34) (hts _ k_35) (hts _ k_36) hK hP hD hS hA rfl (fun j hj => by rcases (show j = 0 ∨ j = 1 ∨ j = 2 ∨ j = 3 ∨ j = 4 ∨ j = 5 ∨ j = 6 ∨ j = 7 ∨ j = 8 ∨ j = 9 by omega) with rfl | rfl | rfl | rfl | rfl | rfl | rfl | rfl | rfl | rfl <;> rfl) (Nat.le_of_ble_eq_true rfl) (Nat.le_of_ble_eq_true rfl) d_O_init_5 (fun nw H hP hD hS => ?_)
  refine W.widen (k := 1) (n := 10) (by omega) (by omega) ?_
  have hP : va_P (dC, dI) classes (((h0, .inr (2, [.null, .null, .null, .int 0])) :: [(nw, .inr (0, [.null, .null, .null, .null, .null, .null, .int 0, .int 0, .int 0, .int 0]))]) : va_W) H := hP
  have hD : va_D A (((h0, .inr (2, [.null, .null, .null, .int 0])) :: [(nw, .inr (0, [.null, .null, .null, .null, .null, .null, .int 0, .int 0, .int 0, .int 0]))]) : va_W) := hD
  refine lv_dup hx hb d_O_init_8 rfl ?_
  have hPc := hP.sub (ws' := nW nw) [1] rfl
  have hDc := hD.sub (ws' := nW nw) [1] (by decide) rfl
  have hFc := va_free (wc := nW nw) hD hS hA [1] rfl
  refine va_callv (va_runI (As := []) (rest := [.ref nw, .ref h0]) ⟨hx, hb, hml, hown, hts⟩ (c_W_init l dC dI nw H.size) (cwI 0 hts k_g67 rfl rfl rfl (hts _ k_36) (hts _ k_37) (hts _ k_38) rfl (by decide +kernel) ⟨Nat.le_of_ble_eq_true rfl, Nat.le_of_ble_eq_true rfl⟩) ⟨fb_mu, fun U hU hW => ⟨rfl, by rw [hU], by rw [hU]; exact hPc, va_K.moved hW.alike (hK.sub (tys' := []) [] rfl), NX.warm hW hN, hDc.weaken (fun _ _ _ _ => trivial)⟩⟩ rfl rfl hl.1 rfl (lv_room (Nat.le_of_ble_eq_true rfl)) d_O_init_9 ⟨Nat.le_of_ble_eq_true rfl, Nat.le_of_ble_eq_true rfl⟩) hS (fun q _ h => hFc q h) hFc (fun u t H1 locs ht hvm hpo hB hz1 hk1 hS => ?_)
  obtain ⟨kw, qw⟩ := u
  obtain ⟨hP1, hK1, hD1⟩ := hB
  have hpo : qw 0 = nw := hpo
  subst hpo
  rw [ht] at hP1
  have hK1 := va_K.moved hvm.symm hK1
  obtain ⟨hP, hD⟩ := va_join (wr := (((h0, .inr (2, [.null, .null, .null, .int 0])) :: []) : va_W)) (w1 := (wW kw qw w0)) hP hD [1] [0] rfl rfl (by decide) (by decide) hk1 hFc hP1 hD1
  have hK := (hK.sub (tys' := []) [] rfl).app hK1
  generalize H1 = H at hP hS ⊢
  have hP : va_P (dC, dI) classes (((h0, .inr (2, [.null, .null, .null, .int 0])) :: (wW kw qw w0)) : va_W) H := hP
  have hD : va_D A (((h0, .inr (2, [.null, .null, .null, .int 0])) :: (wW kw qw w0)) : va_W) := hD
  have hK : va_K (dC, dI) classes (tW kw) s := hK
  refine W.widen (k := 7) (n := 127) (by omega) (by omega) ?_
  refine va_putF (D := (dC, dI)) (ci := 2) (v := .ref (qw 0)) (ty := .object "MemberOracle$World") (C := R_O) (T := F_O) (N := 4) hx hb hts i_O t_O t_O_ok n_O hown hK hP hD hS 0 rfl rfl 0 (by decide) (hts _ k_22) (fun _ h9 => h9) rfl hin rfl (by decide +kernel) rfl rfl (Nat.le_of_ble_eq_true rfl) d_O_init_12 (fun H locs hP hD hS => ?_)
  have hP : va_P (dC, dI) classes (((h0, .inr (2, [.ref (qw 0), .null, .null, .int 0])) :: (wW kw qw w0)) : va_W) H := hP
  have hD : va_D A (((h0, .inr (2, [.ref (qw 0), .null, .null, .int 0])) :: (wW kw qw w0)) : va_W) := hD
  refine lv_aload_n hx hb d_O_init_15 rfl (lv_at hl 0 rfl) ?_
  refine va_new (ci := 1) (fs := [.null, .null, .null, .null, .null]) (C := R_M) (T := F_M) (N := 5) hx hb hts i_M t_M t_M_ok hown (hts _ k_39) (hts _ k_40) (hts _ k_41) hK hP hD hS hA rfl (fun j hj => by rcases (show j = 0 ∨ j = 1 ∨ j = 2 ∨ j = 3 ∨ j = 4 by omega) with rfl | rfl | rfl | rfl | rfl <;> rfl) (Nat.le_of_ble_eq_true rfl) (Nat.le_of_ble_eq_true rfl) d_O_init_16 (fun nf H hP hD hS => ?_)
  refine W.widen (k := 8) (n := 132) (by omega) (by omega) ?_
  have hP : va_P (dC, dI) classes (((h0, .inr (2, [.ref (qw 0), .null, .null, .int 0])) :: ((wW kw qw w0) ++ [(nf, .inr (1, [.null, .null, .null, .null, .null]))])) : va_W) H := hP
  have hD : va_D A (((h0, .inr (2, [.ref (qw 0), .null, .null, .int 0])) :: ((wW kw qw w0) ++ [(nf, .inr (1, [.null, .null, .null, .null, .null]))])) : va_W) := hD
  refine lv_dup hx hb d_O_init_19 rfl ?_
  have hPc := hP.sub (ws' := nM nf) [8] rfl
  have hDc := hD.sub (ws' := nM nf) [8] (by decide) rfl
  have hFc := va_free (wc := nM nf) hD hS hA [8] rfl
  refine va_callv (va_runI (As := []) (rest := [.ref nf, .ref h0]) ⟨hx, hb, hml, hown, hts⟩ (c_M_init l dC dI nf H.size) (cwI 0 hts k_g68 rfl rfl rfl (hts _ k_41) (hts _ k_42) (hts _ k_43) rfl (by decide +kernel) ⟨Nat.le_of_ble_eq_true rfl, Nat.le_of_ble_eq_true rfl⟩) ⟨fb_mu, fun U hU hW => ⟨rfl, by rw [hU], by rw [hU]; exact hPc, va_K.moved hW.alike (hK.sub (tys' := []) [] rfl), NX.warm hW hN, hDc.weaken (fun _ _ _ _ => trivial)⟩⟩ rfl rfl hl.1 rfl (lv_room (Nat.le_of_ble_eq_true rfl)) d_O_init_20 ⟨Nat.le_of_ble_eq_true rfl, Nat.le_of_ble_eq_true rfl⟩) hS (fun q _ h => hFc q h) hFc (fun u t H1 locs ht hvm hpo hB hz1 hk1 hS => ?_)
  obtain ⟨kf, qf⟩ := u
  obtain ⟨hP1, hK1, hD1⟩ := hB
  have hpo : qf 0 = nf := hpo
  subst hpo
  rw [ht] at hP1
  have hK1 := va_K.moved hvm.symm hK1
  obtain ⟨hP, hD⟩ := va_join (wr := (((h0, .inr (2, [.ref (qw 0), .null, .null, .int 0])) :: (wW kw qw w0)) : va_W)) (w1 := (wM kf qf m0)) hP hD [8] [0, 1, 2, 3, 4, 5, 6, 7] rfl rfl (by decide) (by decide) hk1 hFc hP1 hD1
  have hK := (hK.sub (tys' := tW kw) [0, 1, 2, 3, 4, 5] rfl).app hK1
  generalize H1 = H at hP hS ⊢
  have hP : va_P (dC, dI) classes (((h0, .inr (2, [.ref (qw 0), .null, .null, .int 0])) :: ((wW kw qw w0) ++ (wM kf qf m0))) : va_W) H := hP
  have hD : va_D A (((h0, .inr (2, [.ref (qw 0), .null, .null, .int 0])) :: ((wW kw qw w0) ++ (wM kf qf m0))) : va_W) := hD
  have hK : va_K (dC, dI) classes ((tW kw ++ tM kf)) s := hK
  refine W.widen (k := 13) (n := 200) (by omega) (by omega) ?_
  refine va_putF (D := (dC, dI)) (ci := 2) (v := .ref (qf 0)) (ty := .object "MemberOracle$Members") (C := R_O) (T := F_O) (N := 4) hx hb hts i_O t_O t_O_ok n_O hown hK hP hD hS 0 rfl rfl 1 (by decide) (hts _ k_27) (fun _ h9 => h9) rfl hin rfl (by decide +kernel) rfl rfl (Nat.le_of_ble_eq_true rfl) d_O_init_23 (fun H locs hP hD hS => ?_)
  have hP : va_P (dC, dI) classes (((h0, .inr (2, [.ref (qw 0), .ref (qf 0), .null, .int 0])) :: ((wW kw qw w0) ++ (wM kf qf m0))) : va_W) H := hP
  have hD : va_D A (((h0, .inr (2, [.ref (qw 0), .ref (qf 0), .null, .int 0])) :: ((wW kw qw w0) ++ (wM kf qf m0))) : va_W) := hD
  refine lv_aload_n hx hb d_O_init_26 rfl (lv_at hl 0 rfl) ?_
  refine va_new (ci := 1) (fs := [.null, .null, .null, .null, .null]) (C := R_M) (T := F_M) (N := 5) hx hb hts i_M t_M t_M_ok hown (hts _ k_39) (hts _ k_40) (hts _ k_41) hK hP hD hS hA rfl (fun j hj => by rcases (show j = 0 ∨ j = 1 ∨ j = 2 ∨ j = 3 ∨ j = 4 by omega) with rfl | rfl | rfl | rfl | rfl <;> rfl) (Nat.le_of_ble_eq_true rfl) (Nat.le_of_ble_eq_true rfl) d_O_init_27 (fun nm H hP hD hS => ?_)
  refine W.widen (k := 14) (n := 205) (by omega) (by omega) ?_
  have hP : va_P (dC, dI) classes (((h0, .inr (2, [.ref (qw 0), .ref (qf 0), .null, .int 0])) :: ((wW kw qw w0) ++ ((wM kf qf m0) ++ [(nm, .inr (1, [.null, .null, .null, .null, .null]))]))) : va_W) H := hP
  have hD : va_D A (((h0, .inr (2, [.ref (qw 0), .ref (qf 0), .null, .int 0])) :: ((wW kw qw w0) ++ ((wM kf qf m0) ++ [(nm, .inr (1, [.null, .null, .null, .null, .null]))]))) : va_W) := hD
  refine lv_dup hx hb d_O_init_30 rfl ?_
  have hPc := hP.sub (ws' := nM nm) [14] rfl
  have hDc := hD.sub (ws' := nM nm) [14] (by decide) rfl
  have hFc := va_free (wc := nM nm) hD hS hA [14] rfl
  refine va_callv (va_runI (As := []) (rest := [.ref nm, .ref h0]) ⟨hx, hb, hml, hown, hts⟩ (c_M_init l dC dI nm H.size) (cwI 0 hts k_g68 rfl rfl rfl (hts _ k_41) (hts _ k_42) (hts _ k_43) rfl (by decide +kernel) ⟨Nat.le_of_ble_eq_true rfl, Nat.le_of_ble_eq_true rfl⟩) ⟨fb_mu, fun U hU hW => ⟨rfl, by rw [hU], by rw [hU]; exact hPc, va_K.moved hW.alike (hK.sub (tys' := []) [] rfl), NX.warm hW hN, hDc.weaken (fun _ _ _ _ => trivial)⟩⟩ rfl rfl hl.1 rfl (lv_room (Nat.le_of_ble_eq_true rfl)) d_O_init_31 ⟨Nat.le_of_ble_eq_true rfl, Nat.le_of_ble_eq_true rfl⟩) hS (fun q _ h => hFc q h) hFc (fun u t H1 locs ht hvm hpo hB hz1 hk1 hS => ?_)
  obtain ⟨km, qm⟩ := u
  obtain ⟨hP1, hK1, hD1⟩ := hB
  have hpo : qm 0 = nm := hpo
  subst hpo
  rw [ht] at hP1
  have hK1 := va_K.moved hvm.symm hK1
  obtain ⟨hP, hD⟩ := va_join (wr := (((h0, .inr (2, [.ref (qw 0), .ref (qf 0), .null, .int 0])) :: ((wW kw qw w0) ++ (wM kf qf m0))) : va_W)) (w1 := (wM km qm m0)) hP hD [14] [0, 1, 2, 3, 4, 5, 6, 7, 8, 9, 10, 11, 12, 13] rfl rfl (by decide) (by decide) hk1 hFc hP1 hD1
  have hK := (hK.sub (tys' := (tW kw ++ tM kf)) [0, 1, 2, 3, 4, 5, 6, 7, 8, 9, 10] rfl).app hK1
  generalize H1 = H at hP hS ⊢
  have hP : va_P (dC, dI) classes (((h0, .inr (2, [.ref (qw 0), .ref (qf 0), .null, .int 0])) :: ((wW kw qw w0) ++ ((wM kf qf m0) ++ (wM km qm m0)))) : va_W) H := hP
  have hD : va_D A (((h0, .inr (2, [.ref (qw 0), .ref (qf 0), .null, .int 0])) :: ((wW kw qw w0) ++ ((wM kf qf m0) ++ (wM km qm m0)))) : va_W) := hD
  have hK : va_K (dC, dI) classes ((tW kw ++ (tM kf ++ tM km))) s := hK
  refine W.widen (k := 19) (n := 273) (by omega) (by omega) ?_
  refine va_putF (D := (dC, dI)) (ci := 2) (v := .ref (qm 0)) (ty := .object "MemberOracle$Members") (C := R_O) (T := F_O) (N := 4) hx hb hts i_O t_O t_O_ok n_O hown hK hP hD hS 0 rfl rfl 2 (by decide) (hts _ k_23) (fun _ h9 => h9) rfl hin rfl (by decide +kernel) rfl rfl (Nat.le_of_ble_eq_true rfl) d_O_init_34 (fun H locs hP hD hS => ?_)
  have hP : va_P (dC, dI) classes (((h0, .inr (2, [.ref (qw 0), .ref (qf 0), .ref (qm 0), .int 0])) :: ((wW kw qw w0) ++ ((wM kf qf m0) ++ (wM km qm m0)))) : va_W) H := hP
  have hD : va_D A (((h0, .inr (2, [.ref (qw 0), .ref (qf 0), .ref (qm 0), .int 0])) :: ((wW kw qw w0) ++ ((wM kf qf m0) ++ (wM km qm m0)))) : va_W) := hD
  refine lv_aload_n hx hb d_O_init_37 rfl (lv_at hl 0 rfl) ?_
  refine lv_iconst (v := (0 : Int32)) hx hb d_O_init_38 (by decide +kernel) ?_
  refine va_put (D := (dC, dI)) (ci := 2) (v := .int (0 : Int32)) (ty := .int) (C := R_O) (T := F_O) (N := 4) hx hb hts i_O t_O t_O_ok n_O hown hK hP hD hS 0 rfl rfl 3 (by decide) (hts _ k_28) (fun _ h9 => h9) rfl (by decide +kernel) rfl rfl (Nat.le_of_ble_eq_true rfl) d_O_init_39 (fun H locs hP hD hS => ?_)
  have hP9 : va_P (dC, dI) classes (wO h0 kw kf km qw qf qm v0 0) H := hP
  have hD9 : va_D A (wO h0 kw kf km qw qf qm v0 0) := hD
  have hK9 : va_K (dC, dI) classes (tO kw kf km) s := hK
  exact W.vret hx hb hr (fun t ht hW => ⟨⟨((kw, kf, km), (qw, qf, qm)), rfl, trivial, by rw [ht]; exact hP9, va_K.moved hW.alike hK9, hD9⟩, hS.F ht⟩) hS.2.2 d_O_init_42
