set_option maxHeartbeats 1000000 in
set_option maxRecDepth 100000 in
theorem c_R_maximals (l : Launch) (dC : Nat → ClassId) (dI : Nat → Nat → Nat) (ka : Nat → ClassId) (qa : Nat → Nat) (sz : Nat) (b0 b1 : Int32) (a0 a1 a2 a3 a4 a5 a6 a7 a8 a9 a10 a11 a12 : Nat → Int32) (p1 p2 : Int32) (hT : vT b0) (hp1 : vp_in p1 13) (hp2 : vp_in p2 4) : Met l y_R_maximals w_R_maximals ({ frames := 2, cells := 0, slots := 0, locals := 46 } : Room) (ro_P dC dI (wR ka qa b0 b1 a0 a1 a2 a3 a4 a5 a6 a7 a8 a9 a10 a11 a12) (tR ka) sz [.ref (qa 0), .int p1, .int p2]) (ro_Q sz (f_R_maximals b0 a0 a9 a10 p1 p2)) 0 0 (fun z => sz ≤ z) := by
  refine Met.ofW (cc := b_R_maximals) (maxL := 7) (ret := (some .int)) (by decide) rfl ?_
  intro p e s m args below meth c s₁ B hml hv
  obtain ⟨rfl, hsz, hP, hK, hN⟩ := hv
  have hx := B.exec
  have hb := B.bytes
  have hr := B.returns
  have hts := tl_of (atoms_spec (ws := w_R_maximals) B.pre)
  have hown : s.vm.findClass R_R = some m.cls := findClass_of_methodNamed B.named
  have hlocks := B.notSynchronized
  subst hsz
  have hA : ∀ z : Nat, s.heap.size ≤ z → (fun z : Nat => s.heap.size ≤ z) z := fun _ h => h
  have hS : va_S (fun z : Nat => s.heap.size ≤ z) s.heap s.heap [] := va_S.rf
  have hl := lv_entry ([.ref (qa 0), .int p1, .int p2]) (n := 7) (Nat.le_of_ble_eq_true rfl)
  rw [lg_entry_eq]
  generalize (lg_sl ([.ref (qa 0), .int p1, .int p2]) ++ List.replicate (7 - (lg_sl ([.ref (qa 0), .int p1, .int p2])).length) Slot.unset).toArray = ls at hl ⊢
  have hl : lv_has ls 7 [(0, .ref (qa 0)), (1, .int p1), (2, .int p2)] := hl
  refine lv_aload_n hx hb d_R_maximals_0 rfl (lv_at hl 0 rfl) ?_
  refine lv_iload_n hx hb d_R_maximals_1 rfl (lv_at hl 1 rfl) ?_
  refine lv_iload_n hx hb d_R_maximals_2 rfl (lv_at hl 2 rfl) ?_
  have hq_1 : vT b0 := by with_reducible assumption
  have hq_2 : vp_in p1 13 := by first | with_reducible assumption | exact rin_has hT (by with_reducible assumption)
  have hq_3 : vp_in p2 4 := by first | with_reducible assumption | exact jn_name (by with_reducible assumption)
  refine va_calli (va_runV (As := [.int p1, .int p2]) (rest := []) ⟨hx, hb, hml, hown, hts⟩ (c_R_candidates l dC dI ka qa s.heap.size b0 b1 a0 a1 a2 a3 a4 a5 a6 a7 a8 a9 a10 a11 a12 p1 p2 hq_1 hq_2 hq_3) (cwV 2 hts k_g78 rfl rfl rfl (by decide +kernel) ⟨Nat.le_of_ble_eq_true rfl, Nat.le_of_ble_eq_true rfl⟩) ⟨fb_ro, va_recv hK hP (ci := 3) (q0 := 0) rfl rfl, fun U hU hW => ⟨rfl, by rw [hU], by rw [hU]; exact hP, va_K.moved hW.alike (hK), NX.warm hW hN⟩⟩ rfl rfl hl.1 rfl (lv_room (Nat.le_of_ble_eq_true rfl)) d_R_maximals_3 ⟨Nat.zero_le _, Nat.zero_le _⟩) hS (fun z h1 h2 => absurd h1 (Nat.not_lt.mpr h2)) (fun z h => hA z (Nat.le_trans hS.1 h)) (fun r u t H1 locs ht hvm hpo hB hz1 hk1 hS => ?_)
  subst hpo
  have hP := kp_P hP hk1
  generalize H1 = H at hP hS ⊢
  refine lv_istore_n (lv' := [(3, .int (f_R_candidates b0 a0 a9 a10 p1 p2)), (0, .ref (qa 0)), (1, .int p1), (2, .int p2)]) hx hb d_R_maximals_6 rfl hl (by decide) rfl (fun ls hl => ?_)
  refine lv_iload_n hx hb d_R_maximals_7 rfl (lv_at hl 0 rfl) ?_
  refine lv_istore (lv' := [(4, .int (f_R_candidates b0 a0 a9 a10 p1 p2)), (3, .int (f_R_candidates b0 a0 a9 a10 p1 p2)), (0, .ref (qa 0)), (1, .int p1), (2, .int p2)]) hx hb d_R_maximals_8 hl (by decide) rfl (fun ls hl => ?_)
  refine lv_iconst (v := (1 : Int32)) hx hb d_R_maximals_10 (by decide +kernel) ?_
  refine lv_istore (lv' := [(5, .int (1 : Int32)), (4, .int (f_R_candidates b0 a0 a9 a10 p1 p2)), (3, .int (f_R_candidates b0 a0 a9 a10 p1 p2)), (0, .ref (qa 0)), (1, .int p1), (2, .int p2)]) hx hb d_R_maximals_11 hl (by decide) rfl (fun ls hl => ?_)
  have LOOP_13 : ∀ (n k : Nat) (x4 : Int32) (x5 : Int32) (H : Heap) (locs : List Loc) (ls : Array Slot), x5 = nI k → 14 ≤ k + n → k ≤ 13 → lr_R_maximals_13 b0 a0 a9 a10 p1 p2  n x4 x5 = (f_R_maximals b0 a0 a9 a10 p1 p2) → va_P (dC, dI) classes (wR ka qa b0 b1 a0 a1 a2 a3 a4 a5 a6 a7 a8 a9 a10 a11 a12) H → va_S (fun z : Nat => s.heap.size ≤ z) s.heap H locs → lv_has ls 7 [(4, .int x4), (5, .int x5), (3, .int (f_R_candidates b0 a0 a9 a10 p1 p2)), (0, .ref (qa 0)), (1, .int p1), (2, .int p2)] → W p l e (headSpec w_R_maximals ({ frames := 2, cells := 0, slots := 0, locals := 46 } : Room)).room s m ([.ref (qa 0), .int p1, .int p2] : List Value).toArray below meth c H locs 0 0 (MQ below (ro_Q s.heap.size (f_R_maximals b0 a0 a9 a10 p1 p2)) ([.ref (qa 0), .int p1, .int p2] : List Value).toArray s 0 0 (fun z => s.heap.size ≤ z)) (F0 m 13 ls []) := by
    intro n
    induction n with
    | zero =>
      intro k x4 x5 H locs ls et h1 h2
      exfalso; omega
    | succ n ih =>
      intro k x4 x5 H locs ls et h1 h2 hF hP hS hl
      refine lv_iload hx hb d_R_maximals_13 (lv_at hl 1 rfl) ?_
      refine lv_aload_n hx hb d_R_maximals_15 rfl (lv_at hl 3 rfl) ?_
      refine va_get (D := (dC, dI)) (ci := 3) (v := .int b0) (C := R_R) (T := F_R) (N := 15) hx hb hts i_R hown hK hP 0 rfl rfl 0 (by decide) (hts _ k_44) (fun _ h9 => h9) rfl d_R_maximals_16 ?_
      refine lv_icmp_gt (tgt := 84) hx hb d_R_maximals_19 (by decide) (fun c_4 => ?_) (fun c_4 => ?_)
      · have c_4 : b0 < x5 := c_4
        refine lv_iload hx hb d_R_maximals_84 (lv_at hl 0 rfl) ?_
        exact W.iret (v := x4) hx hb hr (fun t ht hW => ⟨⟨x4, (), rfl, by rw [← hF, lr_R_maximals_13_s, if_pos c_4], trivial⟩, hS.F ht⟩) hS.2.2 d_R_maximals_86
      · have c_4 : ¬ (b0 < x5) := c_4
        refine lv_iconst (v := (1 : Int32)) hx hb d_R_maximals_22 (by decide +kernel) ?_
        refine lv_istore (lv' := [(6, .int (1 : Int32)), (4, .int x4), (5, .int x5), (3, .int (f_R_candidates b0 a0 a9 a10 p1 p2)), (0, .ref (qa 0)), (1, .int p1), (2, .int p2)]) hx hb d_R_maximals_23 hl (by decide) rfl (fun ls hl => ?_)
        have LOOP_25 : ∀ (FF : Int32 × Int32) (n k : Nat) (x4 : Int32) (x6 : Int32) (H : Heap) (locs : List Loc) (ls : Array Slot), x6 = nI k → 14 ≤ k + n → k ≤ 13 → lfin_R_maximals_25 b0 a0 a9 a10 p1 p2 x5 n x4 x6 = FF → va_P (dC, dI) classes (wR ka qa b0 b1 a0 a1 a2 a3 a4 a5 a6 a7 a8 a9 a10 a11 a12) H → va_S (fun z : Nat => s.heap.size ≤ z) s.heap H locs → lv_has ls 7 [(4, .int x4), (6, .int x6), (5, .int x5), (3, .int (f_R_candidates b0 a0 a9 a10 p1 p2)), (0, .ref (qa 0)), (1, .int p1), (2, .int p2)] → (∀ (H : Heap) (locs : List Loc) (ls : Array Slot), va_P (dC, dI) classes (wR ka qa b0 b1 a0 a1 a2 a3 a4 a5 a6 a7 a8 a9 a10 a11 a12) H → va_S (fun z : Nat => s.heap.size ≤ z) s.heap H locs → lv_has ls 7 [(4, .int FF.1), (6, .int FF.2), (5, .int x5), (3, .int (f_R_candidates b0 a0 a9 a10 p1 p2)), (0, .ref (qa 0)), (1, .int p1), (2, .int p2)] → W p l e (headSpec w_R_maximals ({ frames := 2, cells := 0, slots := 0, locals := 46 } : Room)).room s m ([.ref (qa 0), .int p1, .int p2] : List Value).toArray below meth c H locs 0 0 (MQ below (ro_Q s.heap.size (f_R_maximals b0 a0 a9 a10 p1 p2)) ([.ref (qa 0), .int p1, .int p2] : List Value).toArray s 0 0 (fun z => s.heap.size ≤ z)) (F0 m 78 ls [])) → W p l e (headSpec w_R_maximals ({ frames := 2, cells := 0, slots := 0, locals := 46 } : Room)).room s m ([.ref (qa 0), .int p1, .int p2] : List Value).toArray below meth c H locs 0 0 (MQ below (ro_Q s.heap.size (f_R_maximals b0 a0 a9 a10 p1 p2)) ([.ref (qa 0), .int p1, .int p2] : List Value).toArray s 0 0 (fun z => s.heap.size ≤ z)) (F0 m 25 ls []) := by
          intro FF n
          induction n with
          | zero =>
            intro k x4 x6 H locs ls eu u1 u2
            exfalso; omega
          | succ n ih =>
            intro k x4 x6 H locs ls eu u1 u2 hF hP hS hl KK
            refine lv_iload hx hb d_R_maximals_25 (lv_at hl 1 rfl) ?_
            refine lv_aload_n hx hb d_R_maximals_27 rfl (lv_at hl 4 rfl) ?_
            refine va_get (D := (dC, dI)) (ci := 3) (v := .int b0) (C := R_R) (T := F_R) (N := 15) hx hb hts i_R hown hK hP 0 rfl rfl 0 (by decide) (hts _ k_44) (fun _ h9 => h9) rfl d_R_maximals_28 ?_
            refine lv_icmp_gt (tgt := 78) hx hb d_R_maximals_31 (by decide) (fun c_5 => ?_) (fun c_5 => ?_)
            · have c_5 : b0 < x6 := c_5
              obtain rfl : FF = (x4, x6) := by rw [← hF, lfin_R_maximals_25_s, if_pos c_5]
              exact KK _ _ _ hP hS (lv_sub hl [0, 1, 2, 3, 4, 5, 6] rfl)
            · have c_5 : ¬ (b0 < x6) := c_5
              refine lv_iload_n hx hb d_R_maximals_34 rfl (lv_at hl 3 rfl) ?_
              refine lv_iload hx hb d_R_maximals_35 (lv_at hl 1 rfl) ?_
              refine lv_ishr hx hb d_R_maximals_37 ?_
              refine lv_iconst (v := (1 : Int32)) hx hb d_R_maximals_38 (by decide +kernel) ?_
              refine lv_iand hx hb d_R_maximals_39 ?_
              refine lv_if_eq (tgt := 72) hx hb d_R_maximals_40 (by decide) (fun c_6 => ?_) (fun c_6 => ?_)
              · have c_6 : (((f_R_candidates b0 a0 a9 a10 p1 p2) >>> (x6 &&& (31 : Int32))) &&& (1 : Int32)) = (0 : Int32) := c_6
                refine lv_iinc (v := (x6 + (1 : Int32))) (lv' := [(6, .int (x6 + (1 : Int32))), (4, .int x4), (5, .int x5), (3, .int (f_R_candidates b0 a0 a9 a10 p1 p2)), (0, .ref (qa 0)), (1, .int p1), (2, .int p2)]) hx hb d_R_maximals_72 hl (k := 1) rfl (by rw [of_p1]) (by decide) rfl (fun ls hl => ?_)
                refine lv_goto (tgt := 25) hx hb d_R_maximals_75 (by decide) ?_
                exact ih (k + 1) x4 (x6 + (1 : Int32)) _ _ _ (by rw [eu]; exact nI_1 k) (by omega) (Nat.succ_le_succ (leT hT eu u2 (by with_reducible assumption))) (by rw [← hF, lfin_R_maximals_25_s, if_neg c_5, if_pos c_6]) hP hS (lv_sub hl [1, 0, 2, 3, 4, 5, 6] rfl) KK
              · have c_6 : ¬ ((((f_R_candidates b0 a0 a9 a10 p1 p2) >>> (x6 &&& (31 : Int32))) &&& (1 : Int32)) = (0 : Int32)) := c_6
                refine lv_iload hx hb d_R_maximals_43 (lv_at hl 1 rfl) ?_
                refine lv_iload hx hb d_R_maximals_45 (lv_at hl 2 rfl) ?_
                refine lv_icmp_eq (tgt := 72) hx hb d_R_maximals_47 (by decide) (fun c_7 => ?_) (fun c_7 => ?_)
                · have c_7 : x6 = x5 := c_7
                  refine lv_iinc (v := (x6 + (1 : Int32))) (lv' := [(6, .int (x6 + (1 : Int32))), (4, .int x4), (5, .int x5), (3, .int (f_R_candidates b0 a0 a9 a10 p1 p2)), (0, .ref (qa 0)), (1, .int p1), (2, .int p2)]) hx hb d_R_maximals_72 hl (k := 1) rfl (by rw [of_p1]) (by decide) rfl (fun ls hl => ?_)
                  refine lv_goto (tgt := 25) hx hb d_R_maximals_75 (by decide) ?_
                  exact ih (k + 1) x4 (x6 + (1 : Int32)) _ _ _ (by rw [eu]; exact nI_1 k) (by omega) (Nat.succ_le_succ (leT hT eu u2 (by with_reducible assumption))) (by rw [← hF, lfin_R_maximals_25_s, if_neg c_5, if_neg c_6, if_pos c_7]) hP hS (lv_sub hl [1, 0, 2, 3, 4, 5, 6] rfl) KK
                · have c_7 : ¬ (x6 = x5) := c_7
                  refine lv_aload_n hx hb d_R_maximals_50 rfl (lv_at hl 4 rfl) ?_
                  refine lv_iload hx hb d_R_maximals_51 (lv_at hl 1 rfl) ?_
                  refine lv_iload hx hb d_R_maximals_53 (lv_at hl 2 rfl) ?_
                  have hq_8 : vp_in x6 13 := by first | with_reducible assumption | exact in_et et (leT hT et h2 (by with_reducible assumption)) | exact in_et et h2 | exact in_et eu (leT hT eu u2 (by with_reducible assumption)) | exact in_et eu u2
                  refine va_calli (va_runV (As := [.int x6, .int x5]) (rest := []) ⟨hx, hb, hml, hown, hts⟩ (c_R_is l dC dI ka qa H.size b0 b1 a0 a1 a2 a3 a4 a5 a6 a7 a8 a9 a10 a11 a12 x6 x5 hq_8) (cwV 2 hts k_g70 rfl rfl rfl (by decide +kernel) ⟨Nat.le_of_ble_eq_true rfl, Nat.le_of_ble_eq_true rfl⟩) ⟨fb_ro, va_recv hK hP (ci := 3) (q0 := 0) rfl rfl, fun U hU hW => ⟨rfl, by rw [hU], by rw [hU]; exact hP, va_K.moved hW.alike (hK), NX.warm hW hN⟩⟩ rfl rfl hl.1 rfl (lv_room (Nat.le_of_ble_eq_true rfl)) d_R_maximals_55 ⟨Nat.zero_le _, Nat.zero_le _⟩) hS (fun z h1 h2 => absurd h1 (Nat.not_lt.mpr h2)) (fun z h => hA z (Nat.le_trans hS.1 h)) (fun r u t H1 locs ht hvm hpo hB hz1 hk1 hS => ?_)
                  subst hpo
                  have hP := kp_P hP hk1
                  generalize H1 = H at hP hS ⊢
                  refine lv_if_eq (tgt := 72) hx hb d_R_maximals_58 (by decide) (fun c_9 => ?_) (fun c_9 => ?_)
                  · have c_9 : (f_R_is a10 x6 x5) = (0 : Int32) := c_9
                    refine lv_iinc (v := (x6 + (1 : Int32))) (lv' := [(6, .int (x6 + (1 : Int32))), (4, .int x4), (5, .int x5), (3, .int (f_R_candidates b0 a0 a9 a10 p1 p2)), (0, .ref (qa 0)), (1, .int p1), (2, .int p2)]) hx hb d_R_maximals_72 hl (k := 1) rfl (by rw [of_p1]) (by decide) rfl (fun ls hl => ?_)
                    refine lv_goto (tgt := 25) hx hb d_R_maximals_75 (by decide) ?_
                    exact ih (k + 1) x4 (x6 + (1 : Int32)) _ _ _ (by rw [eu]; exact nI_1 k) (by omega) (Nat.succ_le_succ (leT hT eu u2 (by with_reducible assumption))) (by rw [← hF, lfin_R_maximals_25_s, if_neg c_5, if_neg c_6, if_neg c_7, if_pos c_9]) hP hS (lv_sub hl [1, 0, 2, 3, 4, 5, 6] rfl) KK
                  · have c_9 : ¬ ((f_R_is a10 x6 x5) = (0 : Int32)) := c_9
                    refine lv_iload hx hb d_R_maximals_61 (lv_at hl 0 rfl) ?_
                    refine lv_iconst (v := (1 : Int32)) hx hb d_R_maximals_63 (by decide +kernel) ?_
                    refine lv_iload hx hb d_R_maximals_64 (lv_at hl 2 rfl) ?_
                    refine lv_ishl hx hb d_R_maximals_66 ?_
                    refine lv_iconst (v := (-1 : Int32)) hx hb d_R_maximals_67 (by decide +kernel) ?_
                    refine lv_ixor hx hb d_R_maximals_68 ?_
                    refine lv_iand hx hb d_R_maximals_69 ?_
                    refine lv_istore (lv' := [(4, .int (x4 &&& (((1 : Int32) <<< (x5 &&& (31 : Int32))) ^^^ (-1 : Int32)))), (6, .int x6), (5, .int x5), (3, .int (f_R_candidates b0 a0 a9 a10 p1 p2)), (0, .ref (qa 0)), (1, .int p1), (2, .int p2)]) hx hb d_R_maximals_70 hl (by decide) rfl (fun ls hl => ?_)
                    refine lv_iinc (v := (x6 + (1 : Int32))) (lv' := [(6, .int (x6 + (1 : Int32))), (4, .int (x4 &&& (((1 : Int32) <<< (x5 &&& (31 : Int32))) ^^^ (-1 : Int32)))), (5, .int x5), (3, .int (f_R_candidates b0 a0 a9 a10 p1 p2)), (0, .ref (qa 0)), (1, .int p1), (2, .int p2)]) hx hb d_R_maximals_72 hl (k := 1) rfl (by rw [of_p1]) (by decide) rfl (fun ls hl => ?_)
                    refine lv_goto (tgt := 25) hx hb d_R_maximals_75 (by decide) ?_
                    exact ih (k + 1) (x4 &&& (((1 : Int32) <<< (x5 &&& (31 : Int32))) ^^^ (-1 : Int32))) (x6 + (1 : Int32)) _ _ _ (by rw [eu]; exact nI_1 k) (by omega) (Nat.succ_le_succ (leT hT eu u2 (by with_reducible assumption))) (by rw [← hF, lfin_R_maximals_25_s, if_neg c_5, if_neg c_6, if_neg c_7, if_neg c_9]) hP hS (lv_sub hl [1, 0, 2, 3, 4, 5, 6] rfl) KK
        obtain ⟨g_10, hg_10⟩ : ∃ z, z = (lfin_R_maximals_25 b0 a0 a9 a10 p1 p2 x5 14 x4 (1 : Int32)) := ⟨_, rfl⟩
        refine LOOP_25 g_10 14 1 x4 (1 : Int32) _ _ _ (rfl) (by omega) (by omega) hg_10.symm hP hS (lv_sub hl [1, 0, 2, 3, 4, 5, 6] rfl) (fun H locs ls hP hS hl => ?_)
        refine lv_iinc (v := (x5 + (1 : Int32))) (lv' := [(5, .int (x5 + (1 : Int32))), (4, .int (g_10.1)), (6, .int (g_10.2)), (3, .int (f_R_candidates b0 a0 a9 a10 p1 p2)), (0, .ref (qa 0)), (1, .int p1), (2, .int p2)]) hx hb d_R_maximals_78 hl (k := 2) rfl (by rw [of_p1]) (by decide) rfl (fun ls hl => ?_)
        refine lv_goto (tgt := 13) hx hb d_R_maximals_81 (by decide) ?_
        exact ih (k + 1) (g_10.1) (x5 + (1 : Int32)) _ _ _ (by rw [et]; exact nI_1 k) (by omega) (by first | exact Nat.succ_le_succ (leT hT et h2 (by with_reducible assumption)) | exact Nat.succ_le_succ (Nat.le_trans (Nat.le_of_lt (rltDc hdc et h2 (by with_reducible assumption) (by with_reducible assumption))) (by decide))) (by subst hg_10; rw [← hF, lr_R_maximals_13_s, if_neg c_4]) hP hS (lv_sub hl [1, 0, 3, 4, 5, 6] rfl)
  exact LOOP_13 14 1 (f_R_candidates b0 a0 a9 a10 p1 p2) (1 : Int32) _ _ _ (rfl) (by omega) (by omega) (rfl) hP hS (lv_sub hl [1, 0, 2, 3, 4, 5] rfl)
