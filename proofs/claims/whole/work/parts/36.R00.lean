set_option maxHeartbeats 1000000 in
set_option maxRecDepth 100000 in
theorem c_R_in (l : Launch) (dC : Nat → ClassId) (dI : Nat → Nat → Nat)  (sz : Nat)  (p1 p2 p3 : Int32)  : Met l y_R_in w_R_in ({ frames := 0, cells := 0, slots := 0, locals := 0 } : Room) (ro_P dC dI ([] : va_W) [] sz [.int p1, .int p2, .int p3]) (ro_Q sz (f_R_in  p1 p2 p3)) 0 0 (fun z => sz ≤ z) := by
  refine Met.ofW (cc := b_R_in) (maxL := 3) (ret := (some .boolean)) (by decide) rfl ?_
  intro p e s m args below meth c s₁ B hml hv
  obtain ⟨rfl, hsz, hP, hK, hN⟩ := hv
  have hx := B.exec
  have hb := B.bytes
  have hr := B.returns
  have hts := tl_of (atoms_spec (ws := w_R_in) B.pre)
  have hown : s.vm.findClass R_R = some m.cls := findClass_of_methodNamed B.named
  have hlocks := B.notSynchronized
  subst hsz
  have hA : ∀ z : Nat, s.heap.size ≤ z → (fun z : Nat => s.heap.size ≤ z) z := fun _ h => h
  have hS : va_S (fun z : Nat => s.heap.size ≤ z) s.heap s.heap [] := va_S.rf
  have hl := lv_entry ([.int p1, .int p2, .int p3]) (n := 3) (Nat.le_of_ble_eq_true rfl)
  rw [lg_entry_eq]
  generalize (lg_sl ([.int p1, .int p2, .int p3]) ++ List.replicate (3 - (lg_sl ([.int p1, .int p2, .int p3])).length) Slot.unset).toArray = ls at hl ⊢
  have hl : lv_has ls 3 [(0, .int p1), (1, .int p2), (2, .int p3)] := hl
  refine lv_iload_n hx hb d_R_in_0 rfl (lv_at hl 0 rfl) ?_
  refine lv_iload_n hx hb d_R_in_1 rfl (lv_at hl 1 rfl) ?_
  refine lv_icmp_lt (tgt := 14) hx hb d_R_in_2 (by decide) (fun c_1 => ?_) (fun c_1 => ?_)
  · have c_1 : p1 < p2 := c_1
    refine lv_iconst (v := (0 : Int32)) hx hb d_R_in_14 (by decide +kernel) ?_
    exact W.zret (v := (0 : Int32)) hx hb hr (by decide +kernel) (fun t ht hW => ⟨⟨(0 : Int32), (), rfl, by unfold f_R_in; rw [if_pos c_1], trivial⟩, hS.F ht⟩) hS.2.2 d_R_in_15
  · have c_1 : ¬ (p1 < p2) := c_1
    refine lv_iload_n hx hb d_R_in_5 rfl (lv_at hl 0 rfl) ?_
    refine lv_iload_n hx hb d_R_in_6 rfl (lv_at hl 2 rfl) ?_
    refine lv_icmp_gt (tgt := 14) hx hb d_R_in_7 (by decide) (fun c_2 => ?_) (fun c_2 => ?_)
    · have c_2 : p3 < p1 := c_2
      refine lv_iconst (v := (0 : Int32)) hx hb d_R_in_14 (by decide +kernel) ?_
      exact W.zret (v := (0 : Int32)) hx hb hr (by decide +kernel) (fun t ht hW => ⟨⟨(0 : Int32), (), rfl, by unfold f_R_in; rw [if_neg c_1, if_pos c_2], trivial⟩, hS.F ht⟩) hS.2.2 d_R_in_15
    · have c_2 : ¬ (p3 < p1) := c_2
      refine lv_iconst (v := (1 : Int32)) hx hb d_R_in_10 (by decide +kernel) ?_
      refine lv_goto (tgt := 15) hx hb d_R_in_11 (by decide) ?_
      exact W.zret (v := (1 : Int32)) hx hb hr (by decide +kernel) (fun t ht hW => ⟨⟨(1 : Int32), (), rfl, by unfold f_R_in; rw [if_neg c_1, if_neg c_2], trivial⟩, hS.F ht⟩) hS.2.2 d_R_in_15
