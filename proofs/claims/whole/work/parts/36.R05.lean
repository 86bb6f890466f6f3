set_option maxHeartbeats 1000000 in
set_option maxRecDepth 100000 in
theorem c_R_has (l : Launch) (dC : Nat → ClassId) (dI : Nat → Nat → Nat) (ka : Nat → ClassId) (qa : Nat → Nat) (sz : Nat) (b0 b1 : Int32) (a0 a1 a2 a3 a4 a5 a6 a7 a8 a9 a10 a11 a12 : Nat → Int32) (p1 p2 : Int32) (hp1 : vp_in p1 13) (hp2 : vp_in p2 4) : Met l y_R_has w_R_has ({ frames := 0, cells := 0, slots := 0, locals := 0 } : Room) (ro_P dC dI (wR ka qa b0 b1 a0 a1 a2 a3 a4 a5 a6 a7 a8 a9 a10 a11 a12) (tR ka) sz [.ref (qa 0), .int p1, .int p2]) (ro_Q sz (f_R_has a9 p1 p2)) 0 0 (fun z => sz ≤ z) := by
  refine Met.ofW (cc := b_R_has) (maxL := 3) (ret := (some .boolean)) (by decide) rfl ?_
  intro p e s m args below meth c s₁ B hml hv
  obtain ⟨rfl, hsz, hP, hK, hN⟩ := hv
  have hx := B.exec
  have hb := B.bytes
  have hr := B.returns
  have hts := tl_of (atoms_spec (ws := w_R_has) B.pre)
  have hown : s.vm.findClass R_R = some m.cls := findClass_of_methodNamed B.named
  have hlocks := B.notSynchronized
  subst hsz
  have hA : ∀ z : Nat, s.heap.size ≤ z → (fun z : Nat => s.heap.size ≤ z) z := fun _ h => h
  have hS : va_S (fun z : Nat => s.heap.size ≤ z) s.heap s.heap [] := va_S.rf
  have hl := lv_entry ([.ref (qa 0), .int p1, .int p2]) (n := 3) (Nat.le_of_ble_eq_true rfl)
  rw [lg_entry_eq]
  generalize (lg_sl ([.ref (qa 0), .int p1, .int p2]) ++ List.replicate (3 - (lg_sl ([.ref (qa 0), .int p1, .int p2])).length) Slot.unset).toArray = ls at hl ⊢
  have hl : lv_has ls 3 [(0, .ref (qa 0)), (1, .int p1), (2, .int p2)] := hl
  refine lv_aload_n hx hb d_R_has_0 rfl (lv_at hl 0 rfl) ?_
  refine va_get (D := (dC, dI)) (ci := 3) (v := .ref (qa 10)) (C := R_R) (T := F_R) (N := 15) hx hb hts i_R hown hK hP 0 rfl rfl 10 (by decide) (hts _ k_49) (fun _ h9 => h9) rfl d_R_has_1 ?_
  refine lv_iconst (v := (4 : Int32)) hx hb d_R_has_4 (by decide +kernel) ?_
  refine lv_iload_n hx hb d_R_has_5 rfl (lv_at hl 1 rfl) ?_
  refine lv_imul hx hb d_R_has_6 ?_
  refine lv_iload_n hx hb d_R_has_7 rfl (lv_at hl 2 rfl) ?_
  refine lv_iadd hx hb d_R_has_8 ?_
  have hi_1 : vp_in (((4 : Int32) * p1) + p2) 52 := by first | with_reducible assumption | exact jn_52 (by first | with_reducible assumption | exact rin_has hT (by with_reducible assumption)) (by first | with_reducible assumption | exact jn_name (by with_reducible assumption))
  refine va_iald (D := (dC, dI)) (f := a9) hx hb hK hP 10 9 rfl rfl hi_1 d_R_has_9 ?_
  refine lv_if_lt (tgt := 17) hx hb d_R_has_10 (by decide) (fun c_2 => ?_) (fun c_2 => ?_)
  · have c_2 : (a9 (((4 : Int32) * p1) + p2).toNatClampNeg) < (0 : Int32) := c_2
    refine lv_iconst (v := (0 : Int32)) hx hb d_R_has_17 (by decide +kernel) ?_
    exact W.zret (v := (0 : Int32)) hx hb hr (by decide +kernel) (fun t ht hW => ⟨⟨(0 : Int32), (), rfl, by unfold f_R_has; rw [if_pos c_2], trivial⟩, hS.F ht⟩) hS.2.2 d_R_has_18
  · have c_2 : ¬ ((a9 (((4 : Int32) * p1) + p2).toNatClampNeg) < (0 : Int32)) := c_2
    refine lv_iconst (v := (1 : Int32)) hx hb d_R_has_13 (by decide +kernel) ?_
    refine lv_goto (tgt := 18) hx hb d_R_has_14 (by decide) ?_
    exact W.zret (v := (1 : Int32)) hx hb hr (by decide +kernel) (fun t ht hW => ⟨⟨(1 : Int32), (), rfl, by unfold f_R_has; rw [if_neg c_2], trivial⟩, hS.F ht⟩) hS.2.2 d_R_has_18
