set_option maxHeartbeats 1000000 in
set_option maxRecDepth 100000 in
theorem c_R_is (l : Launch) (dC : Nat → ClassId) (dI : Nat → Nat → Nat) (ka : Nat → ClassId) (qa : Nat → Nat) (sz : Nat) (b0 b1 : Int32) (a0 a1 a2 a3 a4 a5 a6 a7 a8 a9 a10 a11 a12 : Nat → Int32) (p1 p2 : Int32) (hp1 : vp_in p1 13) : Met l y_R_is w_R_is ({ frames := 0, cells := 0, slots := 0, locals := 0 } : Room) (ro_P dC dI (wR ka qa b0 b1 a0 a1 a2 a3 a4 a5 a6 a7 a8 a9 a10 a11 a12) (tR ka) sz [.ref (qa 0), .int p1, .int p2]) (ro_Q sz (f_R_is a10 p1 p2)) 0 0 (fun z => sz ≤ z) := by
  refine Met.ofW (cc := b_R_is) (maxL := 3) (ret := (some .boolean)) (by decide) rfl ?_
  intro p e s m args below meth c s₁ B hml hv
  obtain ⟨rfl, hsz, hP, hK, hN⟩ := hv
  have hx := B.exec
  have hb := B.bytes
  have hr := B.returns
  have hts := tl_of (atoms_spec (ws := w_R_is) B.pre)
  have hown : s.vm.findClass R_R = some m.cls := findClass_of_methodNamed B.named
  have hlocks := B.notSynchronized
  subst hsz
  have hA : ∀ z : Nat, s.heap.size ≤ z → (fun z : Nat => s.heap.size ≤ z) z := fun _ h => h
  have hS : va_S (fun z : Nat => s.heap.size ≤ z) s.heap s.heap [] := va_S.rf
  have hl := lv_entry ([.ref (qa 0), .int p1, .int p2]) (n := 3) (Nat.le_of_ble_eq_true rfl)
  rw [lg_entry_eq]
  generalize (lg_sl ([.ref (qa 0), .int p1, .int p2]) ++ List.replicate (3 - (lg_sl ([.ref (qa 0), .int p1, .int p2])).length) Slot.unset).toArray = ls at hl ⊢
  have hl : lv_has ls 3 [(0, .ref (qa 0)), (1, .int p1), (2, .int p2)] := hl
  refine lv_iload_n hx hb d_R_is_0 rfl (lv_at hl 1 rfl) ?_
  refine lv_iload_n hx hb d_R_is_1 rfl (lv_at hl 2 rfl) ?_
  refine lv_icmp_eq (tgt := 18) hx hb d_R_is_2 (by decide) (fun c_1 => ?_) (fun c_1 => ?_)
  · have c_1 : p1 = p2 := c_1
    refine lv_iconst (v := (1 : Int32)) hx hb d_R_is_18 (by decide +kernel) ?_
    refine lv_goto (tgt := 23) hx hb d_R_is_19 (by decide) ?_
    exact W.zret (v := (1 : Int32)) hx hb hr (by decide +kernel) (fun t ht hW => ⟨⟨(1 : Int32), (), rfl, by unfold f_R_is; rw [if_pos c_1], trivial⟩, hS.F ht⟩) hS.2.2 d_R_is_23
  · have c_1 : ¬ (p1 = p2) := c_1
    refine lv_aload_n hx hb d_R_is_5 rfl (lv_at hl 0 rfl) ?_
    refine va_get (D := (dC, dI)) (ci := 3) (v := .ref (qa 11)) (C := R_R) (T := F_R) (N := 15) hx hb hts i_R hown hK hP 0 rfl rfl 11 (by decide) (hts _ k_45) (fun _ h9 => h9) rfl d_R_is_6 ?_
    refine lv_iload_n hx hb d_R_is_9 rfl (lv_at hl 1 rfl) ?_
    have hi_2 : vp_in p1 13 := by first | with_reducible assumption | exact rin_has hT (by with_reducible assumption)
    refine va_iald (D := (dC, dI)) (f := a10) hx hb hK hP 11 10 rfl rfl hi_2 d_R_is_10 ?_
    refine lv_iload_n hx hb d_R_is_11 rfl (lv_at hl 2 rfl) ?_
    refine lv_ishr hx hb d_R_is_12 ?_
    refine lv_iconst (v := (1 : Int32)) hx hb d_R_is_13 (by decide +kernel) ?_
    refine lv_iand hx hb d_R_is_14 ?_
    refine lv_if_eq (tgt := 22) hx hb d_R_is_15 (by decide) (fun c_3 => ?_) (fun c_3 => ?_)
    · have c_3 : (((a10 p1.toNatClampNeg) >>> (p2 &&& (31 : Int32))) &&& (1 : Int32)) = (0 : Int32) := c_3
      refine lv_iconst (v := (0 : Int32)) hx hb d_R_is_22 (by decide +kernel) ?_
      exact W.zret (v := (0 : Int32)) hx hb hr (by decide +kernel) (fun t ht hW => ⟨⟨(0 : Int32), (), rfl, by unfold f_R_is; rw [if_neg c_1, if_pos c_3], trivial⟩, hS.F ht⟩) hS.2.2 d_R_is_23
    · have c_3 : ¬ ((((a10 p1.toNatClampNeg) >>> (p2 &&& (31 : Int32))) &&& (1 : Int32)) = (0 : Int32)) := c_3
      refine lv_iconst (v := (1 : Int32)) hx hb d_R_is_18 (by decide +kernel) ?_
      refine lv_goto (tgt := 23) hx hb d_R_is_19 (by decide) ?_
      exact W.zret (v := (1 : Int32)) hx hb hr (by decide +kernel) (fun t ht hW => ⟨⟨(1 : Int32), (), rfl, by unfold f_R_is; rw [if_neg c_1, if_neg c_3], trivial⟩, hS.F ht⟩) hS.2.2 d_R_is_23
