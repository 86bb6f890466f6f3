set_option maxHeartbeats 1000000 in
set_option maxRecDepth 100000 in
theorem c_R_coded (l : Launch) (dC : Nat → ClassId) (dI : Nat → Nat → Nat) (ka : Nat → ClassId) (qa : Nat → Nat) (sz : Nat) (b0 b1 : Int32) (a0 a1 a2 a3 a4 a5 a6 a7 a8 a9 a10 a11 a12 : Nat → Int32) (p1 p2 : Int32) (hT : vT b0) (hp2 : vp_in p2 4) : Met l y_R_coded w_R_coded ({ frames := 2, cells := 0, slots := 0, locals := 47 } : Room) (ro_P dC dI (wR ka qa b0 b1 a0 a1 a2 a3 a4 a5 a6 a7 a8 a9 a10 a11 a12) (tR ka) sz [.ref (qa 0), .int p1, .int p2]) (ro_Q sz (f_R_coded b0 a9 p1 p2)) 0 0 (fun z => sz ≤ z) := by
  refine Met.ofW (cc := b_R_coded) (maxL := 4) (ret := (some .int)) (by decide) rfl ?_
  intro p e s m args below meth c s₁ B hml hv
  obtain ⟨rfl, hsz, hP, hK, hN⟩ := hv
  have hx := B.exec
  have hb := B.bytes
  have hr := B.returns
  have hts := tl_of (atoms_spec (ws := w_R_coded) B.pre)
  have hown : s.vm.findClass R_R = some m.cls := findClass_of_methodNamed B.named
  have hlocks := B.notSynchronized
  subst hsz
  have hA : ∀ z : Nat, s.heap.size ≤ z → (fun z : Nat => s.heap.size ≤ z) z := fun _ h => h
  have hS : va_S (fun z : Nat => s.heap.size ≤ z) s.heap s.heap [] := va_S.rf
  have hl := lv_entry ([.ref (qa 0), .int p1, .int p2]) (n := 4) (Nat.le_of_ble_eq_true rfl)
  rw [lg_entry_eq]
  generalize (lg_sl ([.ref (qa 0), .int p1, .int p2]) ++ List.replicate (4 - (lg_sl ([.ref (qa 0), .int p1, .int p2])).length) Slot.unset).toArray = ls at hl ⊢
  have hl : lv_has ls 4 [(0, .ref (qa 0)), (1, .int p1), (2, .int p2)] := hl
  refine lv_aload_n hx hb d_R_coded_0 rfl (lv_at hl 0 rfl) ?_
  refine lv_iload_n hx hb d_R_coded_1 rfl (lv_at hl 1 rfl) ?_
  refine lv_iload_n hx hb d_R_coded_2 rfl (lv_at hl 2 rfl) ?_
  have hq_1 : vT b0 := by with_reducible assumption
  have hq_2 : vp_in p2 4 := by first | with_reducible assumption | exact jn_name (by with_reducible assumption)
  refine va_calli (va_runV (As := [.int p1, .int p2]) (rest := []) ⟨hx, hb, hml, hown, hts⟩ (c_R_only l dC dI ka qa s.heap.size b0 b1 a0 a1 a2 a3 a4 a5 a6 a7 a8 a9 a10 a11 a12 p1 p2 hq_1 hq_2) (cwV 2 hts k_g77 rfl rfl rfl (by decide +kernel) ⟨Nat.le_of_ble_eq_true rfl, Nat.le_of_ble_eq_true rfl⟩) ⟨fb_ro, va_recv hK hP (ci := 3) (q0 := 0) rfl rfl, fun U hU hW => ⟨rfl, by rw [hU], by rw [hU]; exact hP, va_K.moved hW.alike (hK), NX.warm hW hN⟩⟩ rfl rfl hl.1 rfl (lv_room (Nat.le_of_ble_eq_true rfl)) d_R_coded_3 ⟨Nat.zero_le _, Nat.zero_le _⟩) hS (fun z h1 h2 => absurd h1 (Nat.not_lt.mpr h2)) (fun z h => hA z (Nat.le_trans hS.1 h)) (fun r u t H1 locs ht hvm hpo hB hz1 hk1 hS => ?_)
  subst hpo
  have hP := kp_P hP hk1
  generalize H1 = H at hP hS ⊢
  refine lv_istore_n (lv' := [(3, .int (f_R_only b0 a9 p1 p2)), (0, .ref (qa 0)), (1, .int p1), (2, .int p2)]) hx hb d_R_coded_6 rfl hl (by decide) rfl (fun ls hl => ?_)
  refine lv_iload_n hx hb d_R_coded_7 rfl (lv_at hl 0 rfl) ?_
  refine lv_if_le (tgt := 15) hx hb d_R_coded_8 (by decide) (fun c_3 => ?_) (fun c_3 => ?_)
  · have c_3 : (f_R_only b0 a9 p1 p2) ≤ (0 : Int32) := c_3
    refine lv_iload_n hx hb d_R_coded_15 rfl (lv_at hl 0 rfl) ?_
    refine lv_if_ne (tgt := 24) hx hb d_R_coded_16 (by decide) (fun c_4 => ?_) (fun c_4 => ?_)
    · have c_4 : ¬ ((f_R_only b0 a9 p1 p2) = (0 : Int32)) := c_4
      refine lv_bipush (v := (-6 : Int32)) hx hb d_R_coded_24 (by decide +kernel) ?_
      exact W.iret (v := (-6 : Int32)) hx hb hr (fun t ht hW => ⟨⟨(-6 : Int32), (), rfl, by unfold f_R_coded; rw [if_pos c_3, if_neg c_4], trivial⟩, hS.F ht⟩) hS.2.2 d_R_coded_26
    · have c_4 : (f_R_only b0 a9 p1 p2) = (0 : Int32) := c_4
      refine lv_bipush (v := (-7 : Int32)) hx hb d_R_coded_19 (by decide +kernel) ?_
      refine lv_goto (tgt := 26) hx hb d_R_coded_21 (by decide) ?_
      exact W.iret (v := (-7 : Int32)) hx hb hr (fun t ht hW => ⟨⟨(-7 : Int32), (), rfl, by unfold f_R_coded; rw [if_pos c_3, if_pos c_4], trivial⟩, hS.F ht⟩) hS.2.2 d_R_coded_26
  · have c_3 : ¬ ((f_R_only b0 a9 p1 p2) ≤ (0 : Int32)) := c_3
    refine lv_iload_n hx hb d_R_coded_11 rfl (lv_at hl 0 rfl) ?_
    refine lv_goto (tgt := 26) hx hb d_R_coded_12 (by decide) ?_
    exact W.iret (v := (f_R_only b0 a9 p1 p2)) hx hb hr (fun t ht hW => ⟨⟨(f_R_only b0 a9 p1 p2), (), rfl, by unfold f_R_coded; rw [if_neg c_3], trivial⟩, hS.F ht⟩) hS.2.2 d_R_coded_26
