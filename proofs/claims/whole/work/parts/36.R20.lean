set_option maxHeartbeats 1000000 in
set_option maxRecDepth 100000 in
theorem c_R_only (l : Launch) (dC : Nat → ClassId) (dI : Nat → Nat → Nat) (ka : Nat → ClassId) (qa : Nat → Nat) (sz : Nat) (b0 b1 : Int32) (a0 a1 a2 a3 a4 a5 a6 a7 a8 a9 a10 a11 a12 : Nat → Int32) (p1 p2 : Int32) (hT : vT b0) (hp2 : vp_in p2 4) : Met l y_R_only w_R_only ({ frames := 1, cells := 0, slots := 0, locals := 22 } : Room) (ro_P dC dI (wR ka qa b0 b1 a0 a1 a2 a3 a4 a5 a6 a7 a8 a9 a10 a11 a12) (tR ka) sz [.ref (qa 0), .int p1, .int p2]) (ro_Q sz (f_R_only b0 a9 p1 p2)) 0 0 (fun z => sz ≤ z) := by
  refine Met.ofW (cc := b_R_only) (maxL := 6) (ret := (some .int)) (by decide) rfl ?_
  intro p e s m args below meth c s₁ B hml hv
  obtain ⟨rfl, hsz, hP, hK, hN⟩ := hv
  have hx := B.exec
  have hb := B.bytes
  have hr := B.returns
  have hts := tl_of (atoms_spec (ws := w_R_only) B.pre)
  have hown : s.vm.findClass R_R = some m.cls := findClass_of_methodNamed B.named
  have hlocks := B.notSynchronized
  subst hsz
  have hA : ∀ z : Nat, s.heap.size ≤ z → (fun z : Nat => s.heap.size ≤ z) z := fun _ h => h
  have hS : va_S (fun z : Nat => s.heap.size ≤ z) s.heap s.heap [] := va_S.rf
  have hl := lv_entry ([.ref (qa 0), .int p1, .int p2]) (n := 6) (Nat.le_of_ble_eq_true rfl)
  rw [lg_entry_eq]
  generalize (lg_sl ([.ref (qa 0), .int p1, .int p2]) ++ List.replicate (6 - (lg_sl ([.ref (qa 0), .int p1, .int p2])).length) Slot.unset).toArray = ls at hl ⊢
  have hl : lv_has ls 6 [(0, .ref (qa 0)), (1, .int p1), (2, .int p2)] := hl
  refine lv_iconst (v := (0 : Int32)) hx hb d_R_only_0 (by decide +kernel) ?_
  refine lv_istore_n (lv' := [(3, .int (0 : Int32)), (0, .ref (qa 0)), (1, .int p1), (2, .int p2)]) hx hb d_R_only_1 rfl hl (by decide) rfl (fun ls hl => ?_)
  refine lv_iconst (v := (0 : Int32)) hx hb d_R_only_2 (by decide +kernel) ?_
  refine lv_istore (lv' := [(4, .int (0 : Int32)), (3, .int (0 : Int32)), (0, .ref (qa 0)), (1, .int p1), (2, .int p2)]) hx hb d_R_only_3 hl (by decide) rfl (fun ls hl => ?_)
  refine lv_iconst (v := (1 : Int32)) hx hb d_R_only_5 (by decide +kernel) ?_
  refine lv_istore (lv' := [(5, .int (1 : Int32)), (4, .int (0 : Int32)), (3, .int (0 : Int32)), (0, .ref (qa 0)), (1, .int p1), (2, .int p2)]) hx hb d_R_only_6 hl (by decide) rfl (fun ls hl => ?_)
  have LOOP_8 : ∀ (n k : Nat) (x3 : Int32) (x4 : Int32) (x5 : Int32) (H : Heap) (locs : List Loc) (ls : Array Slot), x5 = nI k → 14 ≤ k + n → k ≤ 13 → lr_R_only_8 b0 a9 p1 p2  n x3 x4 x5 = (f_R_only b0 a9 p1 p2) → va_P (dC, dI) classes (wR ka qa b0 b1 a0 a1 a2 a3 a4 a5 a6 a7 a8 a9 a10 a11 a12) H → va_S (fun z : Nat => s.heap.size ≤ z) s.heap H locs → lv_has ls 6 [(3, .int x3), (4, .int x4), (5, .int x5), (0, .ref (qa 0)), (1, .int p1), (2, .int p2)] → W p l e (headSpec w_R_only ({ frames := 1, cells := 0, slots := 0, locals := 22 } : Room)).room s m ([.ref (qa 0), .int p1, .int p2] : List Value).toArray below meth c H locs 0 0 (MQ below (ro_Q s.heap.size (f_R_only b0 a9 p1 p2)) ([.ref (qa 0), .int p1, .int p2] : List Value).toArray s 0 0 (fun z => s.heap.size ≤ z)) (F0 m 8 ls []) := by
    intro n
    induction n with
    | zero =>
      intro k x3 x4 x5 H locs ls et h1 h2
      exfalso; omega
    | succ n ih =>
      intro k x3 x4 x5 H locs ls et h1 h2 hF hP hS hl
      refine lv_iload hx hb d_R_only_8 (lv_at hl 2 rfl) ?_
      refine lv_aload_n hx hb d_R_only_10 rfl (lv_at hl 3 rfl) ?_
      refine va_get (D := (dC, dI)) (ci := 3) (v := .int b0) (C := R_R) (T := F_R) (N := 15) hx hb hts i_R hown hK hP 0 rfl rfl 0 (by decide) (hts _ k_44) (fun _ h9 => h9) rfl d_R_only_11 ?_
      refine lv_icmp_gt (tgt := 52) hx hb d_R_only_14 (by decide) (fun c_1 => ?_) (fun c_1 => ?_)
      · have c_1 : b0 < x5 := c_1
        refine lv_iload_n hx hb d_R_only_52 rfl (lv_at hl 0 rfl) ?_
        refine lv_iconst (v := (1 : Int32)) hx hb d_R_only_53 (by decide +kernel) ?_
        refine lv_icmp_ne (tgt := 62) hx hb d_R_only_54 (by decide) (fun c_2 => ?_) (fun c_2 => ?_)
        · have c_2 : ¬ (x3 = (1 : Int32)) := c_2
          refine lv_iload_n hx hb d_R_only_62 rfl (lv_at hl 0 rfl) ?_
          refine lv_ineg hx hb d_R_only_63 ?_
          exact W.iret (v := (-x3)) hx hb hr (fun t ht hW => ⟨⟨(-x3), (), rfl, by rw [← hF, lr_R_only_8_s, if_pos c_1, if_neg c_2], trivial⟩, hS.F ht⟩) hS.2.2 d_R_only_64
        · have c_2 : x3 = (1 : Int32) := c_2
          refine lv_iload hx hb d_R_only_57 (lv_at hl 1 rfl) ?_
          refine lv_goto (tgt := 64) hx hb d_R_only_59 (by decide) ?_
          exact W.iret (v := x4) hx hb hr (fun t ht hW => ⟨⟨x4, (), rfl, by rw [← hF, lr_R_only_8_s, if_pos c_1, if_pos c_2], trivial⟩, hS.F ht⟩) hS.2.2 d_R_only_64
      · have c_1 : ¬ (b0 < x5) := c_1
        refine lv_iload_n hx hb d_R_only_17 rfl (lv_at hl 4 rfl) ?_
        refine lv_iload hx hb d_R_only_18 (lv_at hl 2 rfl) ?_
        refine lv_ishr hx hb d_R_only_20 ?_
        refine lv_iconst (v := (1 : Int32)) hx hb d_R_only_21 (by decide +kernel) ?_
        refine lv_iand hx hb d_R_only_22 ?_
        refine lv_if_eq (tgt := 46) hx hb d_R_only_23 (by decide) (fun c_3 => ?_) (fun c_3 => ?_)
        · have c_3 : ((p1 >>> (x5 &&& (31 : Int32))) &&& (1 : Int32)) = (0 : Int32) := c_3
          refine lv_iinc (v := (x5 + (1 : Int32))) (lv' := [(5, .int (x5 + (1 : Int32))), (3, .int x3), (4, .int x4), (0, .ref (qa 0)), (1, .int p1), (2, .int p2)]) hx hb d_R_only_46 hl (k := 2) rfl (by rw [of_p1]) (by decide) rfl (fun ls hl => ?_)
          refine lv_goto (tgt := 8) hx hb d_R_only_49 (by decide) ?_
          exact ih (k + 1) x3 x4 (x5 + (1 : Int32)) _ _ _ (by rw [et]; exact nI_1 k) (by omega) (by first | exact Nat.succ_le_succ (leT hT et h2 (by with_reducible assumption)) | exact Nat.succ_le_succ (Nat.le_trans (Nat.le_of_lt (rltDc hdc et h2 (by with_reducible assumption) (by with_reducible assumption))) (by decide))) (by rw [← hF, lr_R_only_8_s, if_neg c_1, if_pos c_3]) hP hS (lv_sub hl [1, 2, 0, 3, 4, 5] rfl)
        · have c_3 : ¬ (((p1 >>> (x5 &&& (31 : Int32))) &&& (1 : Int32)) = (0 : Int32)) := c_3
          refine lv_aload_n hx hb d_R_only_26 rfl (lv_at hl 3 rfl) ?_
          refine lv_iload hx hb d_R_only_27 (lv_at hl 2 rfl) ?_
          refine lv_iload_n hx hb d_R_only_29 rfl (lv_at hl 5 rfl) ?_
          have hq_4 : vp_in x5 13 := by first | with_reducible assumption | exact in_et et (leT hT et h2 (by with_reducible assumption)) | exact in_et et h2 | exact in_et eu (leT hT eu u2 (by with_reducible assumption)) | exact in_et eu u2
          have hq_5 : vp_in p2 4 := by first | with_reducible assumption | exact jn_name (by with_reducible assumption)
          refine va_calli (va_runV (As := [.int x5, .int p2]) (rest := []) ⟨hx, hb, hml, hown, hts⟩ (c_R_isAbstract l dC dI ka qa H.size b0 b1 a0 a1 a2 a3 a4 a5 a6 a7 a8 a9 a10 a11 a12 x5 p2 hq_4 hq_5) (cwV 2 hts k_g76 rfl rfl rfl (by decide +kernel) ⟨Nat.le_of_ble_eq_true rfl, Nat.le_of_ble_eq_true rfl⟩) ⟨fb_ro, va_recv hK hP (ci := 3) (q0 := 0) rfl rfl, fun U hU hW => ⟨rfl, by rw [hU], by rw [hU]; exact hP, va_K.moved hW.alike (hK), NX.warm hW hN⟩⟩ rfl rfl hl.1 rfl (lv_room (Nat.le_of_ble_eq_true rfl)) d_R_only_30 ⟨Nat.zero_le _, Nat.zero_le _⟩) hS (fun z h1 h2 => absurd h1 (Nat.not_lt.mpr h2)) (fun z h => hA z (Nat.le_trans hS.1 h)) (fun r u t H1 locs ht hvm hpo hB hz1 hk1 hS => ?_)
          subst hpo
          have hP := kp_P hP hk1
          generalize H1 = H at hP hS ⊢
          refine lv_if_eq (tgt := 39) hx hb d_R_only_33 (by decide) (fun c_6 => ?_) (fun c_6 => ?_)
          · have c_6 : (f_R_isAbstract a9 x5 p2) = (0 : Int32) := c_6
            refine lv_iinc (v := (x3 + (1 : Int32))) (lv' := [(3, .int (x3 + (1 : Int32))), (4, .int x4), (5, .int x5), (0, .ref (qa 0)), (1, .int p1), (2, .int p2)]) hx hb d_R_only_39 hl (k := 0) rfl (by rw [of_p1]) (by decide) rfl (fun ls hl => ?_)
            refine lv_iload hx hb d_R_only_42 (lv_at hl 2 rfl) ?_
            refine lv_istore (lv' := [(4, .int x5), (3, .int (x3 + (1 : Int32))), (5, .int x5), (0, .ref (qa 0)), (1, .int p1), (2, .int p2)]) hx hb d_R_only_44 hl (by decide) rfl (fun ls hl => ?_)
            refine lv_iinc (v := (x5 + (1 : Int32))) (lv' := [(5, .int (x5 + (1 : Int32))), (4, .int x5), (3, .int (x3 + (1 : Int32))), (0, .ref (qa 0)), (1, .int p1), (2, .int p2)]) hx hb d_R_only_46 hl (k := 2) rfl (by rw [of_p1]) (by decide) rfl (fun ls hl => ?_)
            refine lv_goto (tgt := 8) hx hb d_R_only_49 (by decide) ?_
            exact ih (k + 1) (x3 + (1 : Int32)) x5 (x5 + (1 : Int32)) _ _ _ (by rw [et]; exact nI_1 k) (by omega) (by first | exact Nat.succ_le_succ (leT hT et h2 (by with_reducible assumption)) | exact Nat.succ_le_succ (Nat.le_trans (Nat.le_of_lt (rltDc hdc et h2 (by with_reducible assumption) (by with_reducible assumption))) (by decide))) (by rw [← hF, lr_R_only_8_s, if_neg c_1, if_neg c_3, if_pos c_6]) hP hS (lv_sub hl [2, 1, 0, 3, 4, 5] rfl)
          · have c_6 : ¬ ((f_R_isAbstract a9 x5 p2) = (0 : Int32)) := c_6
            refine lv_goto (tgt := 46) hx hb d_R_only_36 (by decide) ?_
            refine lv_iinc (v := (x5 + (1 : Int32))) (lv' := [(5, .int (x5 + (1 : Int32))), (3, .int x3), (4, .int x4), (0, .ref (qa 0)), (1, .int p1), (2, .int p2)]) hx hb d_R_only_46 hl (k := 2) rfl (by rw [of_p1]) (by decide) rfl (fun ls hl => ?_)
            refine lv_goto (tgt := 8) hx hb d_R_only_49 (by decide) ?_
            exact ih (k + 1) x3 x4 (x5 + (1 : Int32)) _ _ _ (by rw [et]; exact nI_1 k) (by omega) (by first | exact Nat.succ_le_succ (leT hT et h2 (by with_reducible assumption)) | exact Nat.succ_le_succ (Nat.le_trans (Nat.le_of_lt (rltDc hdc et h2 (by with_reducible assumption) (by with_reducible assumption))) (by decide))) (by rw [← hF, lr_R_only_8_s, if_neg c_1, if_neg c_3, if_neg c_6]) hP hS (lv_sub hl [1, 2, 0, 3, 4, 5] rfl)
  exact LOOP_8 14 1 (0 : Int32) (0 : Int32) (1 : Int32) _ _ _ (rfl) (by omega) (by omega) (rfl) hP hS (lv_sub hl [2, 1, 0, 3, 4, 5] rfl)
