set_option maxHeartbeats 1000000 in
set_option maxRecDepth 100000 in
theorem c_R_candidates (l : Launch) (dC : Nat → ClassId) (dI : Nat → Nat → Nat) (ka : Nat → ClassId) (qa : Nat → Nat) (sz : Nat) (b0 b1 : Int32) (a0 a1 a2 a3 a4 a5 a6 a7 a8 a9 a10 a11 a12 : Nat → Int32) (p1 p2 : Int32) (hT : vT b0) (hp1 : vp_in p1 13) (hp2 : vp_in p2 4) : Met l y_R_candidates w_R_candidates ({ frames := 1, cells := 0, slots := 0, locals := 22 } : Room) (ro_P dC dI (wR ka qa b0 b1 a0 a1 a2 a3 a4 a5 a6 a7 a8 a9 a10 a11 a12) (tR ka) sz [.ref (qa 0), .int p1, .int p2]) (ro_Q sz (f_R_candidates b0 a0 a9 a10 p1 p2)) 0 0 (fun z => sz ≤ z) := by
  refine Met.ofW (cc := b_R_candidates) (maxL := 5) (ret := (some .int)) (by decide) rfl ?_
  intro p e s m args below meth c s₁ B hml hv
  obtain ⟨rfl, hsz, hP, hK, hN⟩ := hv
  have hx := B.exec
  have hb := B.bytes
  have hr := B.returns
  have hts := tl_of (atoms_spec (ws := w_R_candidates) B.pre)
  have hown : s.vm.findClass R_R = some m.cls := findClass_of_methodNamed B.named
  have hlocks := B.notSynchronized
  subst hsz
  have hA : ∀ z : Nat, s.heap.size ≤ z → (fun z : Nat => s.heap.size ≤ z) z := fun _ h => h
  have hS : va_S (fun z : Nat => s.heap.size ≤ z) s.heap s.heap [] := va_S.rf
  have hl := lv_entry ([.ref (qa 0), .int p1, .int p2]) (n := 5) (Nat.le_of_ble_eq_true rfl)
  rw [lg_entry_eq]
  generalize (lg_sl ([.ref (qa 0), .int p1, .int p2]) ++ List.replicate (5 - (lg_sl ([.ref (qa 0), .int p1, .int p2])).length) Slot.unset).toArray = ls at hl ⊢
  have hl : lv_has ls 5 [(0, .ref (qa 0)), (1, .int p1), (2, .int p2)] := hl
  refine lv_iconst (v := (0 : Int32)) hx hb d_R_candidates_0 (by decide +kernel) ?_
  refine lv_istore_n (lv' := [(3, .int (0 : Int32)), (0, .ref (qa 0)), (1, .int p1), (2, .int p2)]) hx hb d_R_candidates_1 rfl hl (by decide) rfl (fun ls hl => ?_)
  refine lv_iconst (v := (1 : Int32)) hx hb d_R_candidates_2 (by decide +kernel) ?_
  refine lv_istore (lv' := [(4, .int (1 : Int32)), (3, .int (0 : Int32)), (0, .ref (qa 0)), (1, .int p1), (2, .int p2)]) hx hb d_R_candidates_3 hl (by decide) rfl (fun ls hl => ?_)
  have LOOP_5 : ∀ (n k : Nat) (x3 : Int32) (x4 : Int32) (H : Heap) (locs : List Loc) (ls : Array Slot), x4 = nI k → 14 ≤ k + n → k ≤ 13 → lr_R_candidates_5 b0 a0 a9 a10 p1 p2  n x3 x4 = (f_R_candidates b0 a0 a9 a10 p1 p2) → va_P (dC, dI) classes (wR ka qa b0 b1 a0 a1 a2 a3 a4 a5 a6 a7 a8 a9 a10 a11 a12) H → va_S (fun z : Nat => s.heap.size ≤ z) s.heap H locs → lv_has ls 5 [(3, .int x3), (4, .int x4), (0, .ref (qa 0)), (1, .int p1), (2, .int p2)] → W p l e (headSpec w_R_candidates ({ frames := 1, cells := 0, slots := 0, locals := 22 } : Room)).room s m ([.ref (qa 0), .int p1, .int p2] : List Value).toArray below meth c H locs 0 0 (MQ below (ro_Q s.heap.size (f_R_candidates b0 a0 a9 a10 p1 p2)) ([.ref (qa 0), .int p1, .int p2] : List Value).toArray s 0 0 (fun z => s.heap.size ≤ z)) (F0 m 5 ls []) := by
    intro n
    induction n with
    | zero =>
      intro k x3 x4 H locs ls et h1 h2
      exfalso; omega
    | succ n ih =>
      intro k x3 x4 H locs ls et h1 h2 hF hP hS hl
      refine lv_iload hx hb d_R_candidates_5 (lv_at hl 1 rfl) ?_
      refine lv_aload_n hx hb d_R_candidates_7 rfl (lv_at hl 2 rfl) ?_
      refine va_get (D := (dC, dI)) (ci := 3) (v := .int b0) (C := R_R) (T := F_R) (N := 15) hx hb hts i_R hown hK hP 0 rfl rfl 0 (by decide) (hts _ k_44) (fun _ h9 => h9) rfl d_R_candidates_8 ?_
      refine lv_icmp_gt (tgt := 81) hx hb d_R_candidates_11 (by decide) (fun c_1 => ?_) (fun c_1 => ?_)
      · have c_1 : b0 < x4 := c_1
        refine lv_iload_n hx hb d_R_candidates_81 rfl (lv_at hl 0 rfl) ?_
        exact W.iret (v := x3) hx hb hr (fun t ht hW => ⟨⟨x3, (), rfl, by rw [← hF, lr_R_candidates_5_s, if_pos c_1], trivial⟩, hS.F ht⟩) hS.2.2 d_R_candidates_82
      · have c_1 : ¬ (b0 < x4) := c_1
        refine lv_aload_n hx hb d_R_candidates_14 rfl (lv_at hl 2 rfl) ?_
        refine va_get (D := (dC, dI)) (ci := 3) (v := .ref (qa 11)) (C := R_R) (T := F_R) (N := 15) hx hb hts i_R hown hK hP 0 rfl rfl 11 (by decide) (hts _ k_45) (fun _ h9 => h9) rfl d_R_candidates_15 ?_
        refine lv_iload_n hx hb d_R_candidates_18 rfl (lv_at hl 3 rfl) ?_
        have hi_2 : vp_in p1 13 := by first | with_reducible assumption | exact rin_has hT (by with_reducible assumption)
        refine va_iald (D := (dC, dI)) (f := a10) hx hb hK hP 11 10 rfl rfl hi_2 d_R_candidates_19 ?_
        refine lv_iload hx hb d_R_candidates_20 (lv_at hl 1 rfl) ?_
        refine lv_ishr hx hb d_R_candidates_22 ?_
        refine lv_iconst (v := (1 : Int32)) hx hb d_R_candidates_23 (by decide +kernel) ?_
        refine lv_iand hx hb d_R_candidates_24 ?_
        refine lv_if_eq (tgt := 75) hx hb d_R_candidates_25 (by decide) (fun c_3 => ?_) (fun c_3 => ?_)
        · have c_3 : (((a10 p1.toNatClampNeg) >>> (x4 &&& (31 : Int32))) &&& (1 : Int32)) = (0 : Int32) := c_3
          refine lv_iinc (v := (x4 + (1 : Int32))) (lv' := [(4, .int (x4 + (1 : Int32))), (3, .int x3), (0, .ref (qa 0)), (1, .int p1), (2, .int p2)]) hx hb d_R_candidates_75 hl (k := 1) rfl (by rw [of_p1]) (by decide) rfl (fun ls hl => ?_)
          refine lv_goto (tgt := 5) hx hb d_R_candidates_78 (by decide) ?_
          exact ih (k + 1) x3 (x4 + (1 : Int32)) _ _ _ (by rw [et]; exact nI_1 k) (by omega) (by first | exact Nat.succ_le_succ (leT hT et h2 (by with_reducible assumption)) | exact Nat.succ_le_succ (Nat.le_trans (Nat.le_of_lt (rltDc hdc et h2 (by with_reducible assumption) (by with_reducible assumption))) (by decide))) (by rw [← hF, lr_R_candidates_5_s, if_neg c_1, if_pos c_3]) hP hS (lv_sub hl [1, 0, 2, 3, 4] rfl)
        · have c_3 : ¬ ((((a10 p1.toNatClampNeg) >>> (x4 &&& (31 : Int32))) &&& (1 : Int32)) = (0 : Int32)) := c_3
          refine lv_aload_n hx hb d_R_candidates_28 rfl (lv_at hl 2 rfl) ?_
          refine va_get (D := (dC, dI)) (ci := 3) (v := .ref (qa 1)) (C := R_R) (T := F_R) (N := 15) hx hb hts i_R hown hK hP 0 rfl rfl 1 (by decide) (hts _ k_52) (fun _ h9 => h9) rfl d_R_candidates_29 ?_
          refine lv_iload hx hb d_R_candidates_32 (lv_at hl 1 rfl) ?_
          have hi_4 : vp_in x4 13 := by first | with_reducible assumption | exact in_et et (leT hT et h2 (by with_reducible assumption)) | exact in_et et h2 | exact in_et eu (leT hT eu u2 (by with_reducible assumption)) | exact in_et eu u2
          refine va_zald (D := (dC, dI)) (f := a0) hx hb hK hP 1 0 rfl rfl hi_4 d_R_candidates_34 ?_
          refine lv_if_eq (tgt := 75) hx hb d_R_candidates_35 (by decide) (fun c_5 => ?_) (fun c_5 => ?_)
          · have c_5 : (a0 x4.toNatClampNeg) = (0 : Int32) := c_5
            refine lv_iinc (v := (x4 + (1 : Int32))) (lv' := [(4, .int (x4 + (1 : Int32))), (3, .int x3), (0, .ref (qa 0)), (1, .int p1), (2, .int p2)]) hx hb d_R_candidates_75 hl (k := 1) rfl (by rw [of_p1]) (by decide) rfl (fun ls hl => ?_)
            refine lv_goto (tgt := 5) hx hb d_R_candidates_78 (by decide) ?_
            exact ih (k + 1) x3 (x4 + (1 : Int32)) _ _ _ (by rw [et]; exact nI_1 k) (by omega) (by first | exact Nat.succ_le_succ (leT hT et h2 (by with_reducible assumption)) | exact Nat.succ_le_succ (Nat.le_trans (Nat.le_of_lt (rltDc hdc et h2 (by with_reducible assumption) (by with_reducible assumption))) (by decide))) (by rw [← hF, lr_R_candidates_5_s, if_neg c_1, if_neg c_3, if_pos c_5]) hP hS (lv_sub hl [1, 0, 2, 3, 4] rfl)
          · have c_5 : ¬ ((a0 x4.toNatClampNeg) = (0 : Int32)) := c_5
            refine lv_aload_n hx hb d_R_candidates_38 rfl (lv_at hl 2 rfl) ?_
            refine lv_iload hx hb d_R_candidates_39 (lv_at hl 1 rfl) ?_
            refine lv_iload_n hx hb d_R_candidates_41 rfl (lv_at hl 4 rfl) ?_
            have hq_6 : vp_in x4 13 := by first | with_reducible assumption | exact in_et et (leT hT et h2 (by with_reducible assumption)) | exact in_et et h2 | exact in_et eu (leT hT eu u2 (by with_reducible assumption)) | exact in_et eu u2
            have hq_7 : vp_in p2 4 := by first | with_reducible assumption | exact jn_name (by with_reducible assumption)
            refine va_calli (va_runV (As := [.int x4, .int p2]) (rest := []) ⟨hx, hb, hml, hown, hts⟩ (c_R_has l dC dI ka qa H.size b0 b1 a0 a1 a2 a3 a4 a5 a6 a7 a8 a9 a10 a11 a12 x4 p2 hq_6 hq_7) (cwV 2 hts k_g73 rfl rfl rfl (by decide +kernel) ⟨Nat.le_of_ble_eq_true rfl, Nat.le_of_ble_eq_true rfl⟩) ⟨fb_ro, va_recv hK hP (ci := 3) (q0 := 0) rfl rfl, fun U hU hW => ⟨rfl, by rw [hU], by rw [hU]; exact hP, va_K.moved hW.alike (hK), NX.warm hW hN⟩⟩ rfl rfl hl.1 rfl (lv_room (Nat.le_of_ble_eq_true rfl)) d_R_candidates_42 ⟨Nat.zero_le _, Nat.zero_le _⟩) hS (fun z h1 h2 => absurd h1 (Nat.not_lt.mpr h2)) (fun z h => hA z (Nat.le_trans hS.1 h)) (fun r u t H1 locs ht hvm hpo hB hz1 hk1 hS => ?_)
            subst hpo
            have hP := kp_P hP hk1
            generalize H1 = H at hP hS ⊢
            refine lv_if_eq (tgt := 75) hx hb d_R_candidates_45 (by decide) (fun c_8 => ?_) (fun c_8 => ?_)
            · have c_8 : (f_R_has a9 x4 p2) = (0 : Int32) := c_8
              refine lv_iinc (v := (x4 + (1 : Int32))) (lv' := [(4, .int (x4 + (1 : Int32))), (3, .int x3), (0, .ref (qa 0)), (1, .int p1), (2, .int p2)]) hx hb d_R_candidates_75 hl (k := 1) rfl (by rw [of_p1]) (by decide) rfl (fun ls hl => ?_)
              refine lv_goto (tgt := 5) hx hb d_R_candidates_78 (by decide) ?_
              exact ih (k + 1) x3 (x4 + (1 : Int32)) _ _ _ (by rw [et]; exact nI_1 k) (by omega) (by first | exact Nat.succ_le_succ (leT hT et h2 (by with_reducible assumption)) | exact Nat.succ_le_succ (Nat.le_trans (Nat.le_of_lt (rltDc hdc et h2 (by with_reducible assumption) (by with_reducible assumption))) (by decide))) (by rw [← hF, lr_R_candidates_5_s, if_neg c_1, if_neg c_3, if_neg c_5, if_pos c_8]) hP hS (lv_sub hl [1, 0, 2, 3, 4] rfl)
            · have c_8 : ¬ ((f_R_has a9 x4 p2) = (0 : Int32)) := c_8
              refine lv_aload_n hx hb d_R_candidates_48 rfl (lv_at hl 2 rfl) ?_
              refine lv_iload hx hb d_R_candidates_49 (lv_at hl 1 rfl) ?_
              refine lv_iload_n hx hb d_R_candidates_51 rfl (lv_at hl 4 rfl) ?_
              have hq_9 : vp_in x4 13 := by first | with_reducible assumption | exact in_et et (leT hT et h2 (by with_reducible assumption)) | exact in_et et h2 | exact in_et eu (leT hT eu u2 (by with_reducible assumption)) | exact in_et eu u2
              have hq_10 : vp_in p2 4 := by first | with_reducible assumption | exact jn_name (by with_reducible assumption)
              refine va_calli (va_runV (As := [.int x4, .int p2]) (rest := []) ⟨hx, hb, hml, hown, hts⟩ (c_R_isStatic l dC dI ka qa H.size b0 b1 a0 a1 a2 a3 a4 a5 a6 a7 a8 a9 a10 a11 a12 x4 p2 hq_9 hq_10) (cwV 2 hts k_g74 rfl rfl rfl (by decide +kernel) ⟨Nat.le_of_ble_eq_true rfl, Nat.le_of_ble_eq_true rfl⟩) ⟨fb_ro, va_recv hK hP (ci := 3) (q0 := 0) rfl rfl, fun U hU hW => ⟨rfl, by rw [hU], by rw [hU]; exact hP, va_K.moved hW.alike (hK), NX.warm hW hN⟩⟩ rfl rfl hl.1 rfl (lv_room (Nat.le_of_ble_eq_true rfl)) d_R_candidates_52 ⟨Nat.zero_le _, Nat.zero_le _⟩) hS (fun z h1 h2 => absurd h1 (Nat.not_lt.mpr h2)) (fun z h => hA z (Nat.le_trans hS.1 h)) (fun r u t H1 locs ht hvm hpo hB hz1 hk1 hS => ?_)
              subst hpo
              have hP := kp_P hP hk1
              generalize H1 = H at hP hS ⊢
              refine lv_if_ne (tgt := 75) hx hb d_R_candidates_55 (by decide) (fun c_11 => ?_) (fun c_11 => ?_)
              · have c_11 : ¬ ((f_R_isStatic a9 x4 p2) = (0 : Int32)) := c_11
                refine lv_iinc (v := (x4 + (1 : Int32))) (lv' := [(4, .int (x4 + (1 : Int32))), (3, .int x3), (0, .ref (qa 0)), (1, .int p1), (2, .int p2)]) hx hb d_R_candidates_75 hl (k := 1) rfl (by rw [of_p1]) (by decide) rfl (fun ls hl => ?_)
                refine lv_goto (tgt := 5) hx hb d_R_candidates_78 (by decide) ?_
                exact ih (k + 1) x3 (x4 + (1 : Int32)) _ _ _ (by rw [et]; exact nI_1 k) (by omega) (by first | exact Nat.succ_le_succ (leT hT et h2 (by with_reducible assumption)) | exact Nat.succ_le_succ (Nat.le_trans (Nat.le_of_lt (rltDc hdc et h2 (by with_reducible assumption) (by with_reducible assumption))) (by decide))) (by rw [← hF, lr_R_candidates_5_s, if_neg c_1, if_neg c_3, if_neg c_5, if_neg c_8, if_neg c_11]) hP hS (lv_sub hl [1, 0, 2, 3, 4] rfl)
              · have c_11 : (f_R_isStatic a9 x4 p2) = (0 : Int32) := c_11
                refine lv_aload_n hx hb d_R_candidates_58 rfl (lv_at hl 2 rfl) ?_
                refine lv_iload hx hb d_R_candidates_59 (lv_at hl 1 rfl) ?_
                refine lv_iload_n hx hb d_R_candidates_61 rfl (lv_at hl 4 rfl) ?_
                have hq_12 : vp_in x4 13 := by first | with_reducible assumption | exact in_et et (leT hT et h2 (by with_reducible assumption)) | exact in_et et h2 | exact in_et eu (leT hT eu u2 (by with_reducible assumption)) | exact in_et eu u2
                have hq_13 : vp_in p2 4 := by first | with_reducible assumption | exact jn_name (by with_reducible assumption)
                refine va_calli (va_runV (As := [.int x4, .int p2]) (rest := []) ⟨hx, hb, hml, hown, hts⟩ (c_R_isPrivate l dC dI ka qa H.size b0 b1 a0 a1 a2 a3 a4 a5 a6 a7 a8 a9 a10 a11 a12 x4 p2 hq_12 hq_13) (cwV 2 hts k_g75 rfl rfl rfl (by decide +kernel) ⟨Nat.le_of_ble_eq_true rfl, Nat.le_of_ble_eq_true rfl⟩) ⟨fb_ro, va_recv hK hP (ci := 3) (q0 := 0) rfl rfl, fun U hU hW => ⟨rfl, by rw [hU], by rw [hU]; exact hP, va_K.moved hW.alike (hK), NX.warm hW hN⟩⟩ rfl rfl hl.1 rfl (lv_room (Nat.le_of_ble_eq_true rfl)) d_R_candidates_62 ⟨Nat.zero_le _, Nat.zero_le _⟩) hS (fun z h1 h2 => absurd h1 (Nat.not_lt.mpr h2)) (fun z h => hA z (Nat.le_trans hS.1 h)) (fun r u t H1 locs ht hvm hpo hB hz1 hk1 hS => ?_)
                subst hpo
                have hP := kp_P hP hk1
                generalize H1 = H at hP hS ⊢
                refine lv_if_ne (tgt := 75) hx hb d_R_candidates_65 (by decide) (fun c_14 => ?_) (fun c_14 => ?_)
                · have c_14 : ¬ ((f_R_isPrivate a9 x4 p2) = (0 : Int32)) := c_14
                  refine lv_iinc (v := (x4 + (1 : Int32))) (lv' := [(4, .int (x4 + (1 : Int32))), (3, .int x3), (0, .ref (qa 0)), (1, .int p1), (2, .int p2)]) hx hb d_R_candidates_75 hl (k := 1) rfl (by rw [of_p1]) (by decide) rfl (fun ls hl => ?_)
                  refine lv_goto (tgt := 5) hx hb d_R_candidates_78 (by decide) ?_
                  exact ih (k + 1) x3 (x4 + (1 : Int32)) _ _ _ (by rw [et]; exact nI_1 k) (by omega) (by first | exact Nat.succ_le_succ (leT hT et h2 (by with_reducible assumption)) | exact Nat.succ_le_succ (Nat.le_trans (Nat.le_of_lt (rltDc hdc et h2 (by with_reducible assumption) (by with_reducible assumption))) (by decide))) (by rw [← hF, lr_R_candidates_5_s, if_neg c_1, if_neg c_3, if_neg c_5, if_neg c_8, if_pos c_11, if_neg c_14]) hP hS (lv_sub hl [1, 0, 2, 3, 4] rfl)
                · have c_14 : (f_R_isPrivate a9 x4 p2) = (0 : Int32) := c_14
                  refine lv_iload_n hx hb d_R_candidates_68 rfl (lv_at hl 0 rfl) ?_
                  refine lv_iconst (v := (1 : Int32)) hx hb d_R_candidates_69 (by decide +kernel) ?_
                  refine lv_iload hx hb d_R_candidates_70 (lv_at hl 1 rfl) ?_
                  refine lv_ishl hx hb d_R_candidates_72 ?_
                  refine lv_ior hx hb d_R_candidates_73 ?_
                  refine lv_istore_n (lv' := [(3, .int (x3 ||| ((1 : Int32) <<< (x4 &&& (31 : Int32))))), (4, .int x4), (0, .ref (qa 0)), (1, .int p1), (2, .int p2)]) hx hb d_R_candidates_74 rfl hl (by decide) rfl (fun ls hl => ?_)
                  refine lv_iinc (v := (x4 + (1 : Int32))) (lv' := [(4, .int (x4 + (1 : Int32))), (3, .int (x3 ||| ((1 : Int32) <<< (x4 &&& (31 : Int32))))), (0, .ref (qa 0)), (1, .int p1), (2, .int p2)]) hx hb d_R_candidates_75 hl (k := 1) rfl (by rw [of_p1]) (by decide) rfl (fun ls hl => ?_)
                  refine lv_goto (tgt := 5) hx hb d_R_candidates_78 (by decide) ?_
                  exact ih (k + 1) (x3 ||| ((1 : Int32) <<< (x4 &&& (31 : Int32)))) (x4 + (1 : Int32)) _ _ _ (by rw [et]; exact nI_1 k) (by omega) (by first | exact Nat.succ_le_succ (leT hT et h2 (by with_reducible assumption)) | exact Nat.succ_le_succ (Nat.le_trans (Nat.le_of_lt (rltDc hdc et h2 (by with_reducible assumption) (by with_reducible assumption))) (by decide))) (by rw [← hF, lr_R_candidates_5_s, if_neg c_1, if_neg c_3, if_neg c_5, if_neg c_8, if_pos c_11, if_pos c_14]) hP hS (lv_sub hl [1, 0, 2, 3, 4] rfl)
  exact LOOP_5 14 1 (0 : Int32) (1 : Int32) _ _ _ (rfl) (by omega) (by omega) (rfl) hP hS (lv_sub hl [1, 0, 2, 3, 4] rfl)
