set_option maxHeartbeats 1000000 in
set_option maxRecDepth 100000 in
theorem c_R_withCode (l : Launch) (dC : Nat → ClassId) (dI : Nat → Nat → Nat) (ka : Nat → ClassId) (qa : Nat → Nat) (sz : Nat) (b0 b1 : Int32) (a0 a1 a2 a3 a4 a5 a6 a7 a8 a9 a10 a11 a12 : Nat → Int32) (p1 p2 : Int32) (hp1 : ¬ p1 ≤ (0 : Int32) → vp_in p1 13) (hp2 : vp_in p2 4) : Met l y_R_withCode w_R_withCode ({ frames := 1, cells := 0, slots := 0, locals := 22 } : Room) (ro_P dC dI (wR ka qa b0 b1 a0 a1 a2 a3 a4 a5 a6 a7 a8 a9 a10 a11 a12) (tR ka) sz [.ref (qa 0), .int p1, .int p2]) (ro_Q sz (f_R_withCode a9 p1 p2)) 0 0 (fun z => sz ≤ z) := by
  refine Met.ofW (cc := b_R_withCode) (maxL := 3) (ret := (some .int)) (by decide) rfl ?_
  intro p e s m args below meth c s₁ B hml hv
  obtain ⟨rfl, hsz, hP, hK, hN⟩ := hv
  have hx := B.exec
  have hb := B.bytes
  have hr := B.returns
  have hts := tl_of (atoms_spec (ws := w_R_withCode) B.pre)
  have hown : s.vm.findClass R_R = some m.cls := findClass_of_methodNamed B.named
  have hlocks := B.notSynchronized
  subst hsz
  have hA : ∀ z : Nat, s.heap.size ≤ z → (fun z : Nat => s.heap.size ≤ z) z := fun _ h => h
  have hS : va_S (fun z : Nat => s.heap.size ≤ z) s.heap s.heap [] := va_S.rf
  have hl := lv_entry ([.ref (qa 0), .int p1, .int p2]) (n := 3) (Nat.le_of_ble_eq_true rfl)
  rw [lg_entry_eq]
  generalize (lg_sl ([.ref (qa 0), .int p1, .int p2]) ++ List.replicate (3 - (lg_sl ([.ref (qa 0), .int p1, .int p2])).length) Slot.unset).toArray = ls at hl ⊢
  have hl : lv_has ls 3 [(0, .ref (qa 0)), (1, .int p1), (2, .int p2)] := hl
  refine lv_iload_n hx hb d_R_withCode_0 rfl (lv_at hl 1 rfl) ?_
  refine lv_if_le (tgt := 18) hx hb d_R_withCode_1 (by decide) (fun c_1 => ?_) (fun c_1 => ?_)
  · have c_1 : p1 ≤ (0 : Int32) := c_1
    refine lv_iload_n hx hb d_R_withCode_18 rfl (lv_at hl 1 rfl) ?_
    exact W.iret (v := p1) hx hb hr (fun t ht hW => ⟨⟨p1, (), rfl, by unfold f_R_withCode; rw [if_pos c_1], trivial⟩, hS.F ht⟩) hS.2.2 d_R_withCode_19
  · have c_1 : ¬ (p1 ≤ (0 : Int32)) := c_1
    refine lv_aload_n hx hb d_R_withCode_4 rfl (lv_at hl 0 rfl) ?_
    refine lv_iload_n hx hb d_R_withCode_5 rfl (lv_at hl 1 rfl) ?_
    refine lv_iload_n hx hb d_R_withCode_6 rfl (lv_at hl 2 rfl) ?_
    have hq_2 : vp_in p1 13 := by exact hp1 (by with_reducible assumption)
    have hq_3 : vp_in p2 4 := by first | with_reducible assumption | exact jn_name (by with_reducible assumption)
    refine va_calli (va_runV (As := [.int p1, .int p2]) (rest := []) ⟨hx, hb, hml, hown, hts⟩ (c_R_isAbstract l dC dI ka qa s.heap.size b0 b1 a0 a1 a2 a3 a4 a5 a6 a7 a8 a9 a10 a11 a12 p1 p2 hq_2 hq_3) (cwV 2 hts k_g76 rfl rfl rfl (by decide +kernel) ⟨Nat.le_of_ble_eq_true rfl, Nat.le_of_ble_eq_true rfl⟩) ⟨fb_ro, va_recv hK hP (ci := 3) (q0 := 0) rfl rfl, fun U hU hW => ⟨rfl, by rw [hU], by rw [hU]; exact hP, va_K.moved hW.alike (hK), NX.warm hW hN⟩⟩ rfl rfl hl.1 rfl (lv_room (Nat.le_of_ble_eq_true rfl)) d_R_withCode_7 ⟨Nat.zero_le _, Nat.zero_le _⟩) hS (fun z h1 h2 => absurd h1 (Nat.not_lt.mpr h2)) (fun z h => hA z (Nat.le_trans hS.1 h)) (fun r u t H1 locs ht hvm hpo hB hz1 hk1 hS => ?_)
    subst hpo
    have hP := kp_P hP hk1
    generalize H1 = H at hP hS ⊢
    refine lv_if_eq (tgt := 18) hx hb d_R_withCode_10 (by decide) (fun c_4 => ?_) (fun c_4 => ?_)
    · have c_4 : (f_R_isAbstract a9 p1 p2) = (0 : Int32) := c_4
      refine lv_iload_n hx hb d_R_withCode_18 rfl (lv_at hl 1 rfl) ?_
      exact W.iret (v := p1) hx hb hr (fun t ht hW => ⟨⟨p1, (), rfl, by unfold f_R_withCode; rw [if_neg c_1, if_pos c_4], trivial⟩, hS.F ht⟩) hS.2.2 d_R_withCode_19
    · have c_4 : ¬ ((f_R_isAbstract a9 p1 p2) = (0 : Int32)) := c_4
      refine lv_bipush (v := (-7 : Int32)) hx hb d_R_withCode_13 (by decide +kernel) ?_
      refine lv_goto (tgt := 19) hx hb d_R_withCode_15 (by decide) ?_
      exact W.iret (v := (-7 : Int32)) hx hb hr (fun t ht hW => ⟨⟨(-7 : Int32), (), rfl, by unfold f_R_withCode; rw [if_neg c_1, if_neg c_4], trivial⟩, hS.F ht⟩) hS.2.2 d_R_withCode_19
