set_option maxHeartbeats 1000000 in
set_option maxRecDepth 100000 in
theorem c_R_special (l : Launch) (dC : Nat → ClassId) (dI : Nat → Nat → Nat) (ka : Nat → ClassId) (qa : Nat → Nat) (sz : Nat) (b0 b1 : Int32) (a0 a1 a2 a3 a4 a5 a6 a7 a8 a9 a10 a11 a12 : Nat → Int32) (p1 p2 p3 : Int32) (hT : vT b0) (hpa : vPar a4) (hp1 : vp_in p1 13) (hp2 : vp_in p2 13) (hp3 : vp_in p3 4) : Met l y_R_special w_R_special ({ frames := 3, cells := 0, slots := 0, locals := 72 } : Room) (ro_P dC dI (wR ka qa b0 b1 a0 a1 a2 a3 a4 a5 a6 a7 a8 a9 a10 a11 a12) (tR ka) sz [.ref (qa 0), .int p1, .int p2, .int p3]) (ro_Q sz (f_R_special b0 a0 a4 a9 a10 p1 p2 p3)) 0 0 (fun z => sz ≤ z) := by
  refine Met.ofW (cc := b_R_special) (maxL := 6) (ret := (some .int)) (by decide) rfl ?_
  intro p e s m args below meth c s₁ B hml hv
  obtain ⟨rfl, hsz, hP, hK, hN⟩ := hv
  have hx := B.exec
  have hb := B.bytes
  have hr := B.returns
  have hts := tl_of (atoms_spec (ws := w_R_special) B.pre)
  have hown : s.vm.findClass R_R = some m.cls := findClass_of_methodNamed B.named
  have hlocks := B.notSynchronized
  subst hsz
  have hA : ∀ z : Nat, s.heap.size ≤ z → (fun z : Nat => s.heap.size ≤ z) z := fun _ h => h
  have hS : va_S (fun z : Nat => s.heap.size ≤ z) s.heap s.heap [] := va_S.rf
  have hl := lv_entry ([.ref (qa 0), .int p1, .int p2, .int p3]) (n := 6) (Nat.le_of_ble_eq_true rfl)
  rw [lg_entry_eq]
  generalize (lg_sl ([.ref (qa 0), .int p1, .int p2, .int p3]) ++ List.replicate (6 - (lg_sl ([.ref (qa 0), .int p1, .int p2, .int p3])).length) Slot.unset).toArray = ls at hl ⊢
  have hl : lv_has ls 6 [(0, .ref (qa 0)), (1, .int p1), (2, .int p2), (3, .int p3)] := hl
  refine lv_aload_n hx hb d_R_special_0 rfl (lv_at hl 0 rfl) ?_
  refine va_get (D := (dC, dI)) (ci := 3) (v := .ref (qa 1)) (C := R_R) (T := F_R) (N := 15) hx hb hts i_R hown hK hP 0 rfl rfl 1 (by decide) (hts _ k_52) (fun _ h9 => h9) rfl d_R_special_1 ?_
  refine lv_iload_n hx hb d_R_special_4 rfl (lv_at hl 2 rfl) ?_
  have hi_1 : vp_in p2 13 := by first | with_reducible assumption | exact rin_has hT (by with_reducible assumption)
  refine va_zald (D := (dC, dI)) (f := a0) hx hb hK hP 1 0 rfl rfl hi_1 d_R_special_5 ?_
  refine lv_if_ne (tgt := 41) hx hb d_R_special_6 (by decide) (fun c_2 => ?_) (fun c_2 => ?_)
  · have c_2 : ¬ ((a0 p2.toNatClampNeg) = (0 : Int32)) := c_2
    refine lv_iload_n hx hb d_R_special_41 rfl (lv_at hl 1 rfl) ?_
    refine lv_topi (fun x4 hx4 => ?_)
    have hx4i : vp_in x4 13 := by rw [hx4]; (first | with_reducible assumption | exact rin_has hT (by with_reducible assumption))
    refine lv_istore (lv' := [(4, .int x4), (0, .ref (qa 0)), (1, .int p1), (2, .int p2), (3, .int p3)]) hx hb d_R_special_42 hl (by decide) rfl (fun ls hl => ?_)
    refine lv_iload hx hb d_R_special_44 (lv_at hl 0 rfl) ?_
    refine lv_istore (lv' := [(5, .int x4), (4, .int x4), (0, .ref (qa 0)), (1, .int p1), (2, .int p2), (3, .int p3)]) hx hb d_R_special_46 hl (by decide) rfl (fun ls hl => ?_)
    have LOOP_48 : ∀ (n k : Nat) (x5 : Int32) (H : Heap) (locs : List Loc) (ls : Array Slot), x5 = nI k → k + 1 ≤ n → k ≤ 12 → lr_R_special_48 b0 a0 a4 a9 a10 p1 p2 p3 x4 n x5 = (f_R_special b0 a0 a4 a9 a10 p1 p2 p3) → va_P (dC, dI) classes (wR ka qa b0 b1 a0 a1 a2 a3 a4 a5 a6 a7 a8 a9 a10 a11 a12) H → va_S (fun z : Nat => s.heap.size ≤ z) s.heap H locs → lv_has ls 6 [(5, .int x5), (4, .int x4), (0, .ref (qa 0)), (1, .int p1), (2, .int p2), (3, .int p3)] → W p l e (headSpec w_R_special ({ frames := 3, cells := 0, slots := 0, locals := 72 } : Room)).room s m ([.ref (qa 0), .int p1, .int p2, .int p3] : List Value).toArray below meth c H locs 0 0 (MQ below (ro_Q s.heap.size (f_R_special b0 a0 a4 a9 a10 p1 p2 p3)) ([.ref (qa 0), .int p1, .int p2, .int p3] : List Value).toArray s 0 0 (fun z => s.heap.size ≤ z)) (F0 m 48 ls []) := by
      intro n
      induction n with
      | zero =>
        intro k x5 H locs ls et h1 h2
        exfalso; omega
      | succ n ih =>
        intro k x5 H locs ls et h1 h2 hF hP hS hl
        refine lv_iload hx hb d_R_special_48 (lv_at hl 0 rfl) ?_
        refine lv_if_le (tgt := 107) hx hb d_R_special_50 (by decide) (fun c_3 => ?_) (fun c_3 => ?_)
        · have c_3 : x5 ≤ (0 : Int32) := c_3
          refine lv_aload_n hx hb d_R_special_107 rfl (lv_at hl 2 rfl) ?_
          refine lv_aload_n hx hb d_R_special_108 rfl (lv_at hl 2 rfl) ?_
          refine lv_iload hx hb d_R_special_109 (lv_at hl 1 rfl) ?_
          refine lv_iload_n hx hb d_R_special_111 rfl (lv_at hl 5 rfl) ?_
          have hq_4 : vT b0 := by with_reducible assumption
          have hq_5 : vp_in x4 13 := by first | with_reducible assumption | exact in_et et (leT hT et h2 (by with_reducible assumption)) | exact in_et et h2 | exact in_et eu (leT hT eu u2 (by with_reducible assumption)) | exact in_et eu u2
          have hq_6 : vp_in p3 4 := by first | with_reducible assumption | exact jn_name (by with_reducible assumption)
          refine va_calli (va_runV (As := [.int x4, .int p3]) (rest := [.ref (qa 0)]) ⟨hx, hb, hml, hown, hts⟩ (c_R_maximals l dC dI ka qa H.size b0 b1 a0 a1 a2 a3 a4 a5 a6 a7 a8 a9 a10 a11 a12 x4 p3 hq_4 hq_5 hq_6) (cwV 2 hts k_g79 rfl rfl rfl (by decide +kernel) ⟨Nat.le_of_ble_eq_true rfl, Nat.le_of_ble_eq_true rfl⟩) ⟨fb_ro, va_recv hK hP (ci := 3) (q0 := 0) rfl rfl, fun U hU hW => ⟨rfl, by rw [hU], by rw [hU]; exact hP, va_K.moved hW.alike (hK), NX.warm hW hN⟩⟩ rfl rfl hl.1 rfl (lv_room (Nat.le_of_ble_eq_true rfl)) d_R_special_112 ⟨Nat.zero_le _, Nat.zero_le _⟩) hS (fun z h1 h2 => absurd h1 (Nat.not_lt.mpr h2)) (fun z h => hA z (Nat.le_trans hS.1 h)) (fun r u t H1 locs ht hvm hpo hB hz1 hk1 hS => ?_)
          subst hpo
          have hP := kp_P hP hk1
          generalize H1 = H at hP hS ⊢
          refine lv_iload_n hx hb d_R_special_115 rfl (lv_at hl 5 rfl) ?_
          have hq_7 : vT b0 := by with_reducible assumption
          have hq_8 : vp_in p3 4 := by first | with_reducible assumption | exact jn_name (by with_reducible assumption)
          refine va_calli (va_runV (As := [.int (f_R_maximals b0 a0 a9 a10 x4 p3), .int p3]) (rest := []) ⟨hx, hb, hml, hown, hts⟩ (c_R_coded l dC dI ka qa H.size b0 b1 a0 a1 a2 a3 a4 a5 a6 a7 a8 a9 a10 a11 a12 (f_R_maximals b0 a0 a9 a10 x4 p3) p3 hq_7 hq_8) (cwV 2 hts k_g84 rfl rfl rfl (by decide +kernel) ⟨Nat.le_of_ble_eq_true rfl, Nat.le_of_ble_eq_true rfl⟩) ⟨fb_ro, va_recv hK hP (ci := 3) (q0 := 0) rfl rfl, fun U hU hW => ⟨rfl, by rw [hU], by rw [hU]; exact hP, va_K.moved hW.alike (hK), NX.warm hW hN⟩⟩ rfl rfl hl.1 rfl (lv_room (Nat.le_of_ble_eq_true rfl)) d_R_special_116 ⟨Nat.zero_le _, Nat.zero_le _⟩) hS (fun z h1 h2 => absurd h1 (Nat.not_lt.mpr h2)) (fun z h => hA z (Nat.le_trans hS.1 h)) (fun r u t H1 locs ht hvm hpo hB hz1 hk1 hS => ?_)
          subst hpo
          have hP := kp_P hP hk1
          generalize H1 = H at hP hS ⊢
          exact W.iret (v := (f_R_coded b0 a9 (f_R_maximals b0 a0 a9 a10 x4 p3) p3)) hx hb hr (fun t ht hW => ⟨⟨(f_R_coded b0 a9 (f_R_maximals b0 a0 a9 a10 x4 p3) p3), (), rfl, by subst hx4; rw [← hF, lr_R_special_48_s, if_pos c_3], trivial⟩, hS.F ht⟩) hS.2.2 d_R_special_119
        · have c_3 : ¬ (x5 ≤ (0 : Int32)) := c_3
          refine lv_aload_n hx hb d_R_special_53 rfl (lv_at hl 2 rfl) ?_
          refine lv_iload hx hb d_R_special_54 (lv_at hl 0 rfl) ?_
          refine lv_iload_n hx hb d_R_special_56 rfl (lv_at hl 5 rfl) ?_
          have hq_9 : vp_in x5 13 := by first | with_reducible assumption | exact in_et et (leT hT et h2 (by with_reducible assumption)) | exact in_et et h2 | exact in_et eu (leT hT eu u2 (by with_reducible assumption)) | exact in_et eu u2
          have hq_10 : vp_in p3 4 := by first | with_reducible assumption | exact jn_name (by with_reducible assumption)
          refine va_calli (va_runV (As := [.int x5, .int p3]) (rest := []) ⟨hx, hb, hml, hown, hts⟩ (c_R_has l dC dI ka qa H.size b0 b1 a0 a1 a2 a3 a4 a5 a6 a7 a8 a9 a10 a11 a12 x5 p3 hq_9 hq_10) (cwV 2 hts k_g73 rfl rfl rfl (by decide +kernel) ⟨Nat.le_of_ble_eq_true rfl, Nat.le_of_ble_eq_true rfl⟩) ⟨fb_ro, va_recv hK hP (ci := 3) (q0 := 0) rfl rfl, fun U hU hW => ⟨rfl, by rw [hU], by rw [hU]; exact hP, va_K.moved hW.alike (hK), NX.warm hW hN⟩⟩ rfl rfl hl.1 rfl (lv_room (Nat.le_of_ble_eq_true rfl)) d_R_special_57 ⟨Nat.zero_le _, Nat.zero_le _⟩) hS (fun z h1 h2 => absurd h1 (Nat.not_lt.mpr h2)) (fun z h => hA z (Nat.le_trans hS.1 h)) (fun r u t H1 locs ht hvm hpo hB hz1 hk1 hS => ?_)
          subst hpo
          have hP := kp_P hP hk1
          generalize H1 = H at hP hS ⊢
          refine lv_if_eq (tgt := 81) hx hb d_R_special_60 (by decide) (fun c_11 => ?_) (fun c_11 => ?_)
          · have c_11 : (f_R_has a9 x5 p3) = (0 : Int32) := c_11
            refine lv_aload_n hx hb d_R_special_81 rfl (lv_at hl 2 rfl) ?_
            refine va_get (D := (dC, dI)) (ci := 3) (v := .ref (qa 1)) (C := R_R) (T := F_R) (N := 15) hx hb hts i_R hown hK hP 0 rfl rfl 1 (by decide) (hts _ k_52) (fun _ h9 => h9) rfl d_R_special_82 ?_
            refine lv_iload hx hb d_R_special_85 (lv_at hl 1 rfl) ?_
            have hi_12 : vp_in x4 13 := by exact hx4i
            refine va_zald (D := (dC, dI)) (f := a0) hx hb hK hP 1 0 rfl rfl hi_12 d_R_special_87 ?_
            refine lv_if_eq (tgt := 95) hx hb d_R_special_88 (by decide) (fun c_13 => ?_) (fun c_13 => ?_)
            · have c_13 : (a0 x4.toNatClampNeg) = (0 : Int32) := c_13
              refine lv_aload_n hx hb d_R_special_95 rfl (lv_at hl 2 rfl) ?_
              refine va_get (D := (dC, dI)) (ci := 3) (v := .ref (qa 5)) (C := R_R) (T := F_R) (N := 15) hx hb hts i_R hown hK hP 0 rfl rfl 5 (by decide) (hts _ k_50) (fun _ h9 => h9) rfl d_R_special_96 ?_
              refine lv_iload hx hb d_R_special_99 (lv_at hl 0 rfl) ?_
              have hi_14 : vp_in x5 13 := by first | with_reducible assumption | exact in_et et (leT hT et h2 (by with_reducible assumption)) | exact in_et et h2 | exact in_et eu (leT hT eu u2 (by with_reducible assumption)) | exact in_et eu u2
              refine va_iald (D := (dC, dI)) (f := a4) hx hb hK hP 5 4 rfl rfl hi_14 d_R_special_101 ?_
              refine lv_istore (lv' := [(5, .int (a4 x5.toNatClampNeg)), (4, .int x4), (0, .ref (qa 0)), (1, .int p1), (2, .int p2), (3, .int p3)]) hx hb d_R_special_102 hl (by decide) rfl (fun ls hl => ?_)
              refine lv_goto (tgt := 48) hx hb d_R_special_104 (by decide) ?_
              exact ih ((a4 x5.toNatClampNeg).toNatClampNeg) (a4 x5.toNatClampNeg) _ _ _ (par_et hpa (in_et et h2)) (par_h1 hpa et h2 h1 (by with_reducible assumption)) (par_h2 hpa (in_et et h2)) (by subst hx4; rw [← hF, lr_R_special_48_s, if_neg c_3, if_pos c_11, if_pos c_13]) hP hS (lv_sub hl [0, 1, 2, 3, 4, 5] rfl)
            · have c_13 : ¬ ((a0 x4.toNatClampNeg) = (0 : Int32)) := c_13
              refine lv_iconst (v := (0 : Int32)) hx hb d_R_special_91 (by decide +kernel) ?_
              refine lv_goto (tgt := 102) hx hb d_R_special_92 (by decide) ?_
              refine lv_istore (lv' := [(5, .int (0 : Int32)), (4, .int x4), (0, .ref (qa 0)), (1, .int p1), (2, .int p2), (3, .int p3)]) hx hb d_R_special_102 hl (by decide) rfl (fun ls hl => ?_)
              refine lv_goto (tgt := 48) hx hb d_R_special_104 (by decide) ?_
              exact ih 0 (0 : Int32) _ _ _ (rfl) (dz_h0 et h2 h1 (by with_reducible assumption)) (by omega) (by subst hx4; rw [← hF, lr_R_special_48_s, if_neg c_3, if_pos c_11, if_neg c_13]) hP hS (lv_sub hl [0, 1, 2, 3, 4, 5] rfl)
          · have c_11 : ¬ ((f_R_has a9 x5 p3) = (0 : Int32)) := c_11
            refine lv_aload_n hx hb d_R_special_63 rfl (lv_at hl 2 rfl) ?_
            refine lv_iload hx hb d_R_special_64 (lv_at hl 0 rfl) ?_
            refine lv_iload_n hx hb d_R_special_66 rfl (lv_at hl 5 rfl) ?_
            have hq_15 : vp_in x5 13 := by first | with_reducible assumption | exact in_et et (leT hT et h2 (by with_reducible assumption)) | exact in_et et h2 | exact in_et eu (leT hT eu u2 (by with_reducible assumption)) | exact in_et eu u2
            have hq_16 : vp_in p3 4 := by first | with_reducible assumption | exact jn_name (by with_reducible assumption)
            refine va_calli (va_runV (As := [.int x5, .int p3]) (rest := []) ⟨hx, hb, hml, hown, hts⟩ (c_R_isStatic l dC dI ka qa H.size b0 b1 a0 a1 a2 a3 a4 a5 a6 a7 a8 a9 a10 a11 a12 x5 p3 hq_15 hq_16) (cwV 2 hts k_g74 rfl rfl rfl (by decide +kernel) ⟨Nat.le_of_ble_eq_true rfl, Nat.le_of_ble_eq_true rfl⟩) ⟨fb_ro, va_recv hK hP (ci := 3) (q0 := 0) rfl rfl, fun U hU hW => ⟨rfl, by rw [hU], by rw [hU]; exact hP, va_K.moved hW.alike (hK), NX.warm hW hN⟩⟩ rfl rfl hl.1 rfl (lv_room (Nat.le_of_ble_eq_true rfl)) d_R_special_67 ⟨Nat.zero_le _, Nat.zero_le _⟩) hS (fun z h1 h2 => absurd h1 (Nat.not_lt.mpr h2)) (fun z h => hA z (Nat.le_trans hS.1 h)) (fun r u t H1 locs ht hvm hpo hB hz1 hk1 hS => ?_)
            subst hpo
            have hP := kp_P hP hk1
            generalize H1 = H at hP hS ⊢
            refine lv_if_ne (tgt := 81) hx hb d_R_special_70 (by decide) (fun c_17 => ?_) (fun c_17 => ?_)
            · have c_17 : ¬ ((f_R_isStatic a9 x5 p3) = (0 : Int32)) := c_17
              refine lv_aload_n hx hb d_R_special_81 rfl (lv_at hl 2 rfl) ?_
              refine va_get (D := (dC, dI)) (ci := 3) (v := .ref (qa 1)) (C := R_R) (T := F_R) (N := 15) hx hb hts i_R hown hK hP 0 rfl rfl 1 (by decide) (hts _ k_52) (fun _ h9 => h9) rfl d_R_special_82 ?_
              refine lv_iload hx hb d_R_special_85 (lv_at hl 1 rfl) ?_
              have hi_18 : vp_in x4 13 := by exact hx4i
              refine va_zald (D := (dC, dI)) (f := a0) hx hb hK hP 1 0 rfl rfl hi_18 d_R_special_87 ?_
              refine lv_if_eq (tgt := 95) hx hb d_R_special_88 (by decide) (fun c_19 => ?_) (fun c_19 => ?_)
              · have c_19 : (a0 x4.toNatClampNeg) = (0 : Int32) := c_19
                refine lv_aload_n hx hb d_R_special_95 rfl (lv_at hl 2 rfl) ?_
                refine va_get (D := (dC, dI)) (ci := 3) (v := .ref (qa 5)) (C := R_R) (T := F_R) (N := 15) hx hb hts i_R hown hK hP 0 rfl rfl 5 (by decide) (hts _ k_50) (fun _ h9 => h9) rfl d_R_special_96 ?_
                refine lv_iload hx hb d_R_special_99 (lv_at hl 0 rfl) ?_
                have hi_20 : vp_in x5 13 := by first | with_reducible assumption | exact in_et et (leT hT et h2 (by with_reducible assumption)) | exact in_et et h2 | exact in_et eu (leT hT eu u2 (by with_reducible assumption)) | exact in_et eu u2
                refine va_iald (D := (dC, dI)) (f := a4) hx hb hK hP 5 4 rfl rfl hi_20 d_R_special_101 ?_
                refine lv_istore (lv' := [(5, .int (a4 x5.toNatClampNeg)), (4, .int x4), (0, .ref (qa 0)), (1, .int p1), (2, .int p2), (3, .int p3)]) hx hb d_R_special_102 hl (by decide) rfl (fun ls hl => ?_)
                refine lv_goto (tgt := 48) hx hb d_R_special_104 (by decide) ?_
                exact ih ((a4 x5.toNatClampNeg).toNatClampNeg) (a4 x5.toNatClampNeg) _ _ _ (par_et hpa (in_et et h2)) (par_h1 hpa et h2 h1 (by with_reducible assumption)) (par_h2 hpa (in_et et h2)) (by subst hx4; rw [← hF, lr_R_special_48_s, if_neg c_3, if_neg c_11, if_neg c_17, if_pos c_19]) hP hS (lv_sub hl [0, 1, 2, 3, 4, 5] rfl)
              · have c_19 : ¬ ((a0 x4.toNatClampNeg) = (0 : Int32)) := c_19
                refine lv_iconst (v := (0 : Int32)) hx hb d_R_special_91 (by decide +kernel) ?_
                refine lv_goto (tgt := 102) hx hb d_R_special_92 (by decide) ?_
                refine lv_istore (lv' := [(5, .int (0 : Int32)), (4, .int x4), (0, .ref (qa 0)), (1, .int p1), (2, .int p2), (3, .int p3)]) hx hb d_R_special_102 hl (by decide) rfl (fun ls hl => ?_)
                refine lv_goto (tgt := 48) hx hb d_R_special_104 (by decide) ?_
                exact ih 0 (0 : Int32) _ _ _ (rfl) (dz_h0 et h2 h1 (by with_reducible assumption)) (by omega) (by subst hx4; rw [← hF, lr_R_special_48_s, if_neg c_3, if_neg c_11, if_neg c_17, if_neg c_19]) hP hS (lv_sub hl [0, 1, 2, 3, 4, 5] rfl)
            · have c_17 : (f_R_isStatic a9 x5 p3) = (0 : Int32) := c_17
              refine lv_aload_n hx hb d_R_special_73 rfl (lv_at hl 2 rfl) ?_
              refine lv_iload hx hb d_R_special_74 (lv_at hl 0 rfl) ?_
              refine lv_iload_n hx hb d_R_special_76 rfl (lv_at hl 5 rfl) ?_
              have hq_21 : ¬ x5 ≤ (0 : Int32) → vp_in x5 13 := by exact fun _ => in_et et h2
              have hq_22 : vp_in p3 4 := by first | with_reducible assumption | exact jn_name (by with_reducible assumption)
              refine va_calli (va_runV (As := [.int x5, .int p3]) (rest := []) ⟨hx, hb, hml, hown, hts⟩ (c_R_withCode l dC dI ka qa H.size b0 b1 a0 a1 a2 a3 a4 a5 a6 a7 a8 a9 a10 a11 a12 x5 p3 hq_21 hq_22) (cwV 2 hts k_g85 rfl rfl rfl (by decide +kernel) ⟨Nat.le_of_ble_eq_true rfl, Nat.le_of_ble_eq_true rfl⟩) ⟨fb_ro, va_recv hK hP (ci := 3) (q0 := 0) rfl rfl, fun U hU hW => ⟨rfl, by rw [hU], by rw [hU]; exact hP, va_K.moved hW.alike (hK), NX.warm hW hN⟩⟩ rfl rfl hl.1 rfl (lv_room (Nat.le_of_ble_eq_true rfl)) d_R_special_77 ⟨Nat.zero_le _, Nat.zero_le _⟩) hS (fun z h1 h2 => absurd h1 (Nat.not_lt.mpr h2)) (fun z h => hA z (Nat.le_trans hS.1 h)) (fun r u t H1 locs ht hvm hpo hB hz1 hk1 hS => ?_)
              subst hpo
              have hP := kp_P hP hk1
              generalize H1 = H at hP hS ⊢
              exact W.iret (v := (f_R_withCode a9 x5 p3)) hx hb hr (fun t ht hW => ⟨⟨(f_R_withCode a9 x5 p3), (), rfl, by subst hx4; rw [← hF, lr_R_special_48_s, if_neg c_3, if_neg c_11, if_pos c_17], trivial⟩, hS.F ht⟩) hS.2.2 d_R_special_80
    exact LOOP_48 14 x4.toNatClampNeg x4 _ _ _ (in_k hx4i) (by have := Nat.le_of_lt_succ (in_lt hx4i); omega) (Nat.le_of_lt_succ (in_lt hx4i)) (by subst hx4; unfold f_R_special; rw [if_neg c_2]) hP hS (lv_sub hl [0, 1, 2, 3, 4, 5] rfl)
  · have c_2 : (a0 p2.toNatClampNeg) = (0 : Int32) := c_2
    refine lv_aload_n hx hb d_R_special_9 rfl (lv_at hl 0 rfl) ?_
    refine va_get (D := (dC, dI)) (ci := 3) (v := .ref (qa 1)) (C := R_R) (T := F_R) (N := 15) hx hb hts i_R hown hK hP 0 rfl rfl 1 (by decide) (hts _ k_52) (fun _ h9 => h9) rfl d_R_special_10 ?_
    refine lv_iload_n hx hb d_R_special_13 rfl (lv_at hl 1 rfl) ?_
    have hi_23 : vp_in p1 13 := by first | with_reducible assumption | exact rin_has hT (by with_reducible assumption)
    refine va_zald (D := (dC, dI)) (f := a0) hx hb hK hP 1 0 rfl rfl hi_23 d_R_special_14 ?_
    refine lv_if_ne (tgt := 41) hx hb d_R_special_15 (by decide) (fun c_24 => ?_) (fun c_24 => ?_)
    · have c_24 : ¬ ((a0 p1.toNatClampNeg) = (0 : Int32)) := c_24
      refine lv_iload_n hx hb d_R_special_41 rfl (lv_at hl 1 rfl) ?_
      refine lv_topi (fun x4 hx4 => ?_)
      have hx4i : vp_in x4 13 := by rw [hx4]; (first | with_reducible assumption | exact rin_has hT (by with_reducible assumption))
      refine lv_istore (lv' := [(4, .int x4), (0, .ref (qa 0)), (1, .int p1), (2, .int p2), (3, .int p3)]) hx hb d_R_special_42 hl (by decide) rfl (fun ls hl => ?_)
      refine lv_iload hx hb d_R_special_44 (lv_at hl 0 rfl) ?_
      refine lv_istore (lv' := [(5, .int x4), (4, .int x4), (0, .ref (qa 0)), (1, .int p1), (2, .int p2), (3, .int p3)]) hx hb d_R_special_46 hl (by decide) rfl (fun ls hl => ?_)
      have LOOP_48 : ∀ (n k : Nat) (x5 : Int32) (H : Heap) (locs : List Loc) (ls : Array Slot), x5 = nI k → k + 1 ≤ n → k ≤ 12 → lr_R_special_48 b0 a0 a4 a9 a10 p1 p2 p3 x4 n x5 = (f_R_special b0 a0 a4 a9 a10 p1 p2 p3) → va_P (dC, dI) classes (wR ka qa b0 b1 a0 a1 a2 a3 a4 a5 a6 a7 a8 a9 a10 a11 a12) H → va_S (fun z : Nat => s.heap.size ≤ z) s.heap H locs → lv_has ls 6 [(5, .int x5), (4, .int x4), (0, .ref (qa 0)), (1, .int p1), (2, .int p2), (3, .int p3)] → W p l e (headSpec w_R_special ({ frames := 3, cells := 0, slots := 0, locals := 72 } : Room)).room s m ([.ref (qa 0), .int p1, .int p2, .int p3] : List Value).toArray below meth c H locs 0 0 (MQ below (ro_Q s.heap.size (f_R_special b0 a0 a4 a9 a10 p1 p2 p3)) ([.ref (qa 0), .int p1, .int p2, .int p3] : List Value).toArray s 0 0 (fun z => s.heap.size ≤ z)) (F0 m 48 ls []) := by
        intro n
        induction n with
        | zero =>
          intro k x5 H locs ls et h1 h2
          exfalso; omega
        | succ n ih =>
          intro k x5 H locs ls et h1 h2 hF hP hS hl
          refine lv_iload hx hb d_R_special_48 (lv_at hl 0 rfl) ?_
          refine lv_if_le (tgt := 107) hx hb d_R_special_50 (by decide) (fun c_25 => ?_) (fun c_25 => ?_)
          · have c_25 : x5 ≤ (0 : Int32) := c_25
            refine lv_aload_n hx hb d_R_special_107 rfl (lv_at hl 2 rfl) ?_
            refine lv_aload_n hx hb d_R_special_108 rfl (lv_at hl 2 rfl) ?_
            refine lv_iload hx hb d_R_special_109 (lv_at hl 1 rfl) ?_
            refine lv_iload_n hx hb d_R_special_111 rfl (lv_at hl 5 rfl) ?_
            have hq_26 : vT b0 := by with_reducible assumption
            have hq_27 : vp_in x4 13 := by first | with_reducible assumption | exact in_et et (leT hT et h2 (by with_reducible assumption)) | exact in_et et h2 | exact in_et eu (leT hT eu u2 (by with_reducible assumption)) | exact in_et eu u2
            have hq_28 : vp_in p3 4 := by first | with_reducible assumption | exact jn_name (by with_reducible assumption)
            refine va_calli (va_runV (As := [.int x4, .int p3]) (rest := [.ref (qa 0)]) ⟨hx, hb, hml, hown, hts⟩ (c_R_maximals l dC dI ka qa H.size b0 b1 a0 a1 a2 a3 a4 a5 a6 a7 a8 a9 a10 a11 a12 x4 p3 hq_26 hq_27 hq_28) (cwV 2 hts k_g79 rfl rfl rfl (by decide +kernel) ⟨Nat.le_of_ble_eq_true rfl, Nat.le_of_ble_eq_true rfl⟩) ⟨fb_ro, va_recv hK hP (ci := 3) (q0 := 0) rfl rfl, fun U hU hW => ⟨rfl, by rw [hU], by rw [hU]; exact hP, va_K.moved hW.alike (hK), NX.warm hW hN⟩⟩ rfl rfl hl.1 rfl (lv_room (Nat.le_of_ble_eq_true rfl)) d_R_special_112 ⟨Nat.zero_le _, Nat.zero_le _⟩) hS (fun z h1 h2 => absurd h1 (Nat.not_lt.mpr h2)) (fun z h => hA z (Nat.le_trans hS.1 h)) (fun r u t H1 locs ht hvm hpo hB hz1 hk1 hS => ?_)
            subst hpo
            have hP := kp_P hP hk1
            generalize H1 = H at hP hS ⊢
            refine lv_iload_n hx hb d_R_special_115 rfl (lv_at hl 5 rfl) ?_
            have hq_29 : vT b0 := by with_reducible assumption
            have hq_30 : vp_in p3 4 := by first | with_reducible assumption | exact jn_name (by with_reducible assumption)
            refine va_calli (va_runV (As := [.int (f_R_maximals b0 a0 a9 a10 x4 p3), .int p3]) (rest := []) ⟨hx, hb, hml, hown, hts⟩ (c_R_coded l dC dI ka qa H.size b0 b1 a0 a1 a2 a3 a4 a5 a6 a7 a8 a9 a10 a11 a12 (f_R_maximals b0 a0 a9 a10 x4 p3) p3 hq_29 hq_30) (cwV 2 hts k_g84 rfl rfl rfl (by decide +kernel) ⟨Nat.le_of_ble_eq_true rfl, Nat.le_of_ble_eq_true rfl⟩) ⟨fb_ro, va_recv hK hP (ci := 3) (q0 := 0) rfl rfl, fun U hU hW => ⟨rfl, by rw [hU], by rw [hU]; exact hP, va_K.moved hW.alike (hK), NX.warm hW hN⟩⟩ rfl rfl hl.1 rfl (lv_room (Nat.le_of_ble_eq_true rfl)) d_R_special_116 ⟨Nat.zero_le _, Nat.zero_le _⟩) hS (fun z h1 h2 => absurd h1 (Nat.not_lt.mpr h2)) (fun z h => hA z (Nat.le_trans hS.1 h)) (fun r u t H1 locs ht hvm hpo hB hz1 hk1 hS => ?_)
            subst hpo
            have hP := kp_P hP hk1
            generalize H1 = H at hP hS ⊢
            exact W.iret (v := (f_R_coded b0 a9 (f_R_maximals b0 a0 a9 a10 x4 p3) p3)) hx hb hr (fun t ht hW => ⟨⟨(f_R_coded b0 a9 (f_R_maximals b0 a0 a9 a10 x4 p3) p3), (), rfl, by subst hx4; rw [← hF, lr_R_special_48_s, if_pos c_25], trivial⟩, hS.F ht⟩) hS.2.2 d_R_special_119
          · have c_25 : ¬ (x5 ≤ (0 : Int32)) := c_25
            refine lv_aload_n hx hb d_R_special_53 rfl (lv_at hl 2 rfl) ?_
            refine lv_iload hx hb d_R_special_54 (lv_at hl 0 rfl) ?_
            refine lv_iload_n hx hb d_R_special_56 rfl (lv_at hl 5 rfl) ?_
            have hq_31 : vp_in x5 13 := by first | with_reducible assumption | exact in_et et (leT hT et h2 (by with_reducible assumption)) | exact in_et et h2 | exact in_et eu (leT hT eu u2 (by with_reducible assumption)) | exact in_et eu u2
            have hq_32 : vp_in p3 4 := by first | with_reducible assumption | exact jn_name (by with_reducible assumption)
            refine va_calli (va_runV (As := [.int x5, .int p3]) (rest := []) ⟨hx, hb, hml, hown, hts⟩ (c_R_has l dC dI ka qa H.size b0 b1 a0 a1 a2 a3 a4 a5 a6 a7 a8 a9 a10 a11 a12 x5 p3 hq_31 hq_32) (cwV 2 hts k_g73 rfl rfl rfl (by decide +kernel) ⟨Nat.le_of_ble_eq_true rfl, Nat.le_of_ble_eq_true rfl⟩) ⟨fb_ro, va_recv hK hP (ci := 3) (q0 := 0) rfl rfl, fun U hU hW => ⟨rfl, by rw [hU], by rw [hU]; exact hP, va_K.moved hW.alike (hK), NX.warm hW hN⟩⟩ rfl rfl hl.1 rfl (lv_room (Nat.le_of_ble_eq_true rfl)) d_R_special_57 ⟨Nat.zero_le _, Nat.zero_le _⟩) hS (fun z h1 h2 => absurd h1 (Nat.not_lt.mpr h2)) (fun z h => hA z (Nat.le_trans hS.1 h)) (fun r u t H1 locs ht hvm hpo hB hz1 hk1 hS => ?_)
            subst hpo
            have hP := kp_P hP hk1
            generalize H1 = H at hP hS ⊢
            refine lv_if_eq (tgt := 81) hx hb d_R_special_60 (by decide) (fun c_33 => ?_) (fun c_33 => ?_)
            · have c_33 : (f_R_has a9 x5 p3) = (0 : Int32) := c_33
              refine lv_aload_n hx hb d_R_special_81 rfl (lv_at hl 2 rfl) ?_
              refine va_get (D := (dC, dI)) (ci := 3) (v := .ref (qa 1)) (C := R_R) (T := F_R) (N := 15) hx hb hts i_R hown hK hP 0 rfl rfl 1 (by decide) (hts _ k_52) (fun _ h9 => h9) rfl d_R_special_82 ?_
              refine lv_iload hx hb d_R_special_85 (lv_at hl 1 rfl) ?_
              have hi_34 : vp_in x4 13 := by exact hx4i
              refine va_zald (D := (dC, dI)) (f := a0) hx hb hK hP 1 0 rfl rfl hi_34 d_R_special_87 ?_
              refine lv_if_eq (tgt := 95) hx hb d_R_special_88 (by decide) (fun c_35 => ?_) (fun c_35 => ?_)
              · have c_35 : (a0 x4.toNatClampNeg) = (0 : Int32) := c_35
                refine lv_aload_n hx hb d_R_special_95 rfl (lv_at hl 2 rfl) ?_
                refine va_get (D := (dC, dI)) (ci := 3) (v := .ref (qa 5)) (C := R_R) (T := F_R) (N := 15) hx hb hts i_R hown hK hP 0 rfl rfl 5 (by decide) (hts _ k_50) (fun _ h9 => h9) rfl d_R_special_96 ?_
                refine lv_iload hx hb d_R_special_99 (lv_at hl 0 rfl) ?_
                have hi_36 : vp_in x5 13 := by first | with_reducible assumption | exact in_et et (leT hT et h2 (by with_reducible assumption)) | exact in_et et h2 | exact in_et eu (leT hT eu u2 (by with_reducible assumption)) | exact in_et eu u2
                refine va_iald (D := (dC, dI)) (f := a4) hx hb hK hP 5 4 rfl rfl hi_36 d_R_special_101 ?_
                refine lv_istore (lv' := [(5, .int (a4 x5.toNatClampNeg)), (4, .int x4), (0, .ref (qa 0)), (1, .int p1), (2, .int p2), (3, .int p3)]) hx hb d_R_special_102 hl (by decide) rfl (fun ls hl => ?_)
                refine lv_goto (tgt := 48) hx hb d_R_special_104 (by decide) ?_
                exact ih ((a4 x5.toNatClampNeg).toNatClampNeg) (a4 x5.toNatClampNeg) _ _ _ (par_et hpa (in_et et h2)) (par_h1 hpa et h2 h1 (by with_reducible assumption)) (par_h2 hpa (in_et et h2)) (by subst hx4; rw [← hF, lr_R_special_48_s, if_neg c_25, if_pos c_33, if_pos c_35]) hP hS (lv_sub hl [0, 1, 2, 3, 4, 5] rfl)
              · have c_35 : ¬ ((a0 x4.toNatClampNeg) = (0 : Int32)) := c_35
                refine lv_iconst (v := (0 : Int32)) hx hb d_R_special_91 (by decide +kernel) ?_
                refine lv_goto (tgt := 102) hx hb d_R_special_92 (by decide) ?_
                refine lv_istore (lv' := [(5, .int (0 : Int32)), (4, .int x4), (0, .ref (qa 0)), (1, .int p1), (2, .int p2), (3, .int p3)]) hx hb d_R_special_102 hl (by decide) rfl (fun ls hl => ?_)
                refine lv_goto (tgt := 48) hx hb d_R_special_104 (by decide) ?_
                exact ih 0 (0 : Int32) _ _ _ (rfl) (dz_h0 et h2 h1 (by with_reducible assumption)) (by omega) (by subst hx4; rw [← hF, lr_R_special_48_s, if_neg c_25, if_pos c_33, if_neg c_35]) hP hS (lv_sub hl [0, 1, 2, 3, 4, 5] rfl)
            · have c_33 : ¬ ((f_R_has a9 x5 p3) = (0 : Int32)) := c_33
              refine lv_aload_n hx hb d_R_special_63 rfl (lv_at hl 2 rfl) ?_
              refine lv_iload hx hb d_R_special_64 (lv_at hl 0 rfl) ?_
              refine lv_iload_n hx hb d_R_special_66 rfl (lv_at hl 5 rfl) ?_
              have hq_37 : vp_in x5 13 := by first | with_reducible assumption | exact in_et et (leT hT et h2 (by with_reducible assumption)) | exact in_et et h2 | exact in_et eu (leT hT eu u2 (by with_reducible assumption)) | exact in_et eu u2
              have hq_38 : vp_in p3 4 := by first | with_reducible assumption | exact jn_name (by with_reducible assumption)
              refine va_calli (va_runV (As := [.int x5, .int p3]) (rest := []) ⟨hx, hb, hml, hown, hts⟩ (c_R_isStatic l dC dI ka qa H.size b0 b1 a0 a1 a2 a3 a4 a5 a6 a7 a8 a9 a10 a11 a12 x5 p3 hq_37 hq_38) (cwV 2 hts k_g74 rfl rfl rfl (by decide +kernel) ⟨Nat.le_of_ble_eq_true rfl, Nat.le_of_ble_eq_true rfl⟩) ⟨fb_ro, va_recv hK hP (ci := 3) (q0 := 0) rfl rfl, fun U hU hW => ⟨rfl, by rw [hU], by rw [hU]; exact hP, va_K.moved hW.alike (hK), NX.warm hW hN⟩⟩ rfl rfl hl.1 rfl (lv_room (Nat.le_of_ble_eq_true rfl)) d_R_special_67 ⟨Nat.zero_le _, Nat.zero_le _⟩) hS (fun z h1 h2 => absurd h1 (Nat.not_lt.mpr h2)) (fun z h => hA z (Nat.le_trans hS.1 h)) (fun r u t H1 locs ht hvm hpo hB hz1 hk1 hS => ?_)
              subst hpo
              have hP := kp_P hP hk1
              generalize H1 = H at hP hS ⊢
              refine lv_if_ne (tgt := 81) hx hb d_R_special_70 (by decide) (fun c_39 => ?_) (fun c_39 => ?_)
              · have c_39 : ¬ ((f_R_isStatic a9 x5 p3) = (0 : Int32)) := c_39
                refine lv_aload_n hx hb d_R_special_81 rfl (lv_at hl 2 rfl) ?_
                refine va_get (D := (dC, dI)) (ci := 3) (v := .ref (qa 1)) (C := R_R) (T := F_R) (N := 15) hx hb hts i_R hown hK hP 0 rfl rfl 1 (by decide) (hts _ k_52) (fun _ h9 => h9) rfl d_R_special_82 ?_
                refine lv_iload hx hb d_R_special_85 (lv_at hl 1 rfl) ?_
                have hi_40 : vp_in x4 13 := by exact hx4i
                refine va_zald (D := (dC, dI)) (f := a0) hx hb hK hP 1 0 rfl rfl hi_40 d_R_special_87 ?_
                refine lv_if_eq (tgt := 95) hx hb d_R_special_88 (by decide) (fun c_41 => ?_) (fun c_41 => ?_)
                · have c_41 : (a0 x4.toNatClampNeg) = (0 : Int32) := c_41
                  refine lv_aload_n hx hb d_R_special_95 rfl (lv_at hl 2 rfl) ?_
                  refine va_get (D := (dC, dI)) (ci := 3) (v := .ref (qa 5)) (C := R_R) (T := F_R) (N := 15) hx hb hts i_R hown hK hP 0 rfl rfl 5 (by decide) (hts _ k_50) (fun _ h9 => h9) rfl d_R_special_96 ?_
                  refine lv_iload hx hb d_R_special_99 (lv_at hl 0 rfl) ?_
                  have hi_42 : vp_in x5 13 := by first | with_reducible assumption | exact in_et et (leT hT et h2 (by with_reducible assumption)) | exact in_et et h2 | exact in_et eu (leT hT eu u2 (by with_reducible assumption)) | exact in_et eu u2
                  refine va_iald (D := (dC, dI)) (f := a4) hx hb hK hP 5 4 rfl rfl hi_42 d_R_special_101 ?_
                  refine lv_istore (lv' := [(5, .int (a4 x5.toNatClampNeg)), (4, .int x4), (0, .ref (qa 0)), (1, .int p1), (2, .int p2), (3, .int p3)]) hx hb d_R_special_102 hl (by decide) rfl (fun ls hl => ?_)
                  refine lv_goto (tgt := 48) hx hb d_R_special_104 (by decide) ?_
                  exact ih ((a4 x5.toNatClampNeg).toNatClampNeg) (a4 x5.toNatClampNeg) _ _ _ (par_et hpa (in_et et h2)) (par_h1 hpa et h2 h1 (by with_reducible assumption)) (par_h2 hpa (in_et et h2)) (by subst hx4; rw [← hF, lr_R_special_48_s, if_neg c_25, if_neg c_33, if_neg c_39, if_pos c_41]) hP hS (lv_sub hl [0, 1, 2, 3, 4, 5] rfl)
                · have c_41 : ¬ ((a0 x4.toNatClampNeg) = (0 : Int32)) := c_41
                  refine lv_iconst (v := (0 : Int32)) hx hb d_R_special_91 (by decide +kernel) ?_
                  refine lv_goto (tgt := 102) hx hb d_R_special_92 (by decide) ?_
                  refine lv_istore (lv' := [(5, .int (0 : Int32)), (4, .int x4), (0, .ref (qa 0)), (1, .int p1), (2, .int p2), (3, .int p3)]) hx hb d_R_special_102 hl (by decide) rfl (fun ls hl => ?_)
                  refine lv_goto (tgt := 48) hx hb d_R_special_104 (by decide) ?_
                  exact ih 0 (0 : Int32) _ _ _ (rfl) (dz_h0 et h2 h1 (by with_reducible assumption)) (by omega) (by subst hx4; rw [← hF, lr_R_special_48_s, if_neg c_25, if_neg c_33, if_neg c_39, if_neg c_41]) hP hS (lv_sub hl [0, 1, 2, 3, 4, 5] rfl)
              · have c_39 : (f_R_isStatic a9 x5 p3) = (0 : Int32) := c_39
                refine lv_aload_n hx hb d_R_special_73 rfl (lv_at hl 2 rfl) ?_
                refine lv_iload hx hb d_R_special_74 (lv_at hl 0 rfl) ?_
                refine lv_iload_n hx hb d_R_special_76 rfl (lv_at hl 5 rfl) ?_
                have hq_43 : ¬ x5 ≤ (0 : Int32) → vp_in x5 13 := by exact fun _ => in_et et h2
                have hq_44 : vp_in p3 4 := by first | with_reducible assumption | exact jn_name (by with_reducible assumption)
                refine va_calli (va_runV (As := [.int x5, .int p3]) (rest := []) ⟨hx, hb, hml, hown, hts⟩ (c_R_withCode l dC dI ka qa H.size b0 b1 a0 a1 a2 a3 a4 a5 a6 a7 a8 a9 a10 a11 a12 x5 p3 hq_43 hq_44) (cwV 2 hts k_g85 rfl rfl rfl (by decide +kernel) ⟨Nat.le_of_ble_eq_true rfl, Nat.le_of_ble_eq_true rfl⟩) ⟨fb_ro, va_recv hK hP (ci := 3) (q0 := 0) rfl rfl, fun U hU hW => ⟨rfl, by rw [hU], by rw [hU]; exact hP, va_K.moved hW.alike (hK), NX.warm hW hN⟩⟩ rfl rfl hl.1 rfl (lv_room (Nat.le_of_ble_eq_true rfl)) d_R_special_77 ⟨Nat.zero_le _, Nat.zero_le _⟩) hS (fun z h1 h2 => absurd h1 (Nat.not_lt.mpr h2)) (fun z h => hA z (Nat.le_trans hS.1 h)) (fun r u t H1 locs ht hvm hpo hB hz1 hk1 hS => ?_)
                subst hpo
                have hP := kp_P hP hk1
                generalize H1 = H at hP hS ⊢
                exact W.iret (v := (f_R_withCode a9 x5 p3)) hx hb hr (fun t ht hW => ⟨⟨(f_R_withCode a9 x5 p3), (), rfl, by subst hx4; rw [← hF, lr_R_special_48_s, if_neg c_25, if_neg c_33, if_pos c_39], trivial⟩, hS.F ht⟩) hS.2.2 d_R_special_80
      exact LOOP_48 14 x4.toNatClampNeg x4 _ _ _ (in_k hx4i) (by have := Nat.le_of_lt_succ (in_lt hx4i); omega) (Nat.le_of_lt_succ (in_lt hx4i)) (by subst hx4; unfold f_R_special; rw [if_pos c_2, if_neg c_24]) hP hS (lv_sub hl [0, 1, 2, 3, 4, 5] rfl)
    · have c_24 : (a0 p1.toNatClampNeg) = (0 : Int32) := c_24
      refine lv_iload_n hx hb d_R_special_18 rfl (lv_at hl 1 rfl) ?_
      refine lv_iload_n hx hb d_R_special_19 rfl (lv_at hl 2 rfl) ?_
      refine lv_icmp_eq (tgt := 41) hx hb d_R_special_20 (by decide) (fun c_45 => ?_) (fun c_45 => ?_)
      · have c_45 : p1 = p2 := c_45
        refine lv_iload_n hx hb d_R_special_41 rfl (lv_at hl 1 rfl) ?_
        refine lv_topi (fun x4 hx4 => ?_)
        have hx4i : vp_in x4 13 := by rw [hx4]; (first | with_reducible assumption | exact rin_has hT (by with_reducible assumption))
        refine lv_istore (lv' := [(4, .int x4), (0, .ref (qa 0)), (1, .int p1), (2, .int p2), (3, .int p3)]) hx hb d_R_special_42 hl (by decide) rfl (fun ls hl => ?_)
        refine lv_iload hx hb d_R_special_44 (lv_at hl 0 rfl) ?_
        refine lv_istore (lv' := [(5, .int x4), (4, .int x4), (0, .ref (qa 0)), (1, .int p1), (2, .int p2), (3, .int p3)]) hx hb d_R_special_46 hl (by decide) rfl (fun ls hl => ?_)
        have LOOP_48 : ∀ (n k : Nat) (x5 : Int32) (H : Heap) (locs : List Loc) (ls : Array Slot), x5 = nI k → k + 1 ≤ n → k ≤ 12 → lr_R_special_48 b0 a0 a4 a9 a10 p1 p2 p3 x4 n x5 = (f_R_special b0 a0 a4 a9 a10 p1 p2 p3) → va_P (dC, dI) classes (wR ka qa b0 b1 a0 a1 a2 a3 a4 a5 a6 a7 a8 a9 a10 a11 a12) H → va_S (fun z : Nat => s.heap.size ≤ z) s.heap H locs → lv_has ls 6 [(5, .int x5), (4, .int x4), (0, .ref (qa 0)), (1, .int p1), (2, .int p2), (3, .int p3)] → W p l e (headSpec w_R_special ({ frames := 3, cells := 0, slots := 0, locals := 72 } : Room)).room s m ([.ref (qa 0), .int p1, .int p2, .int p3] : List Value).toArray below meth c H locs 0 0 (MQ below (ro_Q s.heap.size (f_R_special b0 a0 a4 a9 a10 p1 p2 p3)) ([.ref (qa 0), .int p1, .int p2, .int p3] : List Value).toArray s 0 0 (fun z => s.heap.size ≤ z)) (F0 m 48 ls []) := by
          intro n
          induction n with
          | zero =>
            intro k x5 H locs ls et h1 h2
            exfalso; omega
          | succ n ih =>
            intro k x5 H locs ls et h1 h2 hF hP hS hl
            refine lv_iload hx hb d_R_special_48 (lv_at hl 0 rfl) ?_
            refine lv_if_le (tgt := 107) hx hb d_R_special_50 (by decide) (fun c_46 => ?_) (fun c_46 => ?_)
            · have c_46 : x5 ≤ (0 : Int32) := c_46
              refine lv_aload_n hx hb d_R_special_107 rfl (lv_at hl 2 rfl) ?_
              refine lv_aload_n hx hb d_R_special_108 rfl (lv_at hl 2 rfl) ?_
              refine lv_iload hx hb d_R_special_109 (lv_at hl 1 rfl) ?_
              refine lv_iload_n hx hb d_R_special_111 rfl (lv_at hl 5 rfl) ?_
              have hq_47 : vT b0 := by with_reducible assumption
              have hq_48 : vp_in x4 13 := by first | with_reducible assumption | exact in_et et (leT hT et h2 (by with_reducible assumption)) | exact in_et et h2 | exact in_et eu (leT hT eu u2 (by with_reducible assumption)) | exact in_et eu u2
              have hq_49 : vp_in p3 4 := by first | with_reducible assumption | exact jn_name (by with_reducible assumption)
              refine va_calli (va_runV (As := [.int x4, .int p3]) (rest := [.ref (qa 0)]) ⟨hx, hb, hml, hown, hts⟩ (c_R_maximals l dC dI ka qa H.size b0 b1 a0 a1 a2 a3 a4 a5 a6 a7 a8 a9 a10 a11 a12 x4 p3 hq_47 hq_48 hq_49) (cwV 2 hts k_g79 rfl rfl rfl (by decide +kernel) ⟨Nat.le_of_ble_eq_true rfl, Nat.le_of_ble_eq_true rfl⟩) ⟨fb_ro, va_recv hK hP (ci := 3) (q0 := 0) rfl rfl, fun U hU hW => ⟨rfl, by rw [hU], by rw [hU]; exact hP, va_K.moved hW.alike (hK), NX.warm hW hN⟩⟩ rfl rfl hl.1 rfl (lv_room (Nat.le_of_ble_eq_true rfl)) d_R_special_112 ⟨Nat.zero_le _, Nat.zero_le _⟩) hS (fun z h1 h2 => absurd h1 (Nat.not_lt.mpr h2)) (fun z h => hA z (Nat.le_trans hS.1 h)) (fun r u t H1 locs ht hvm hpo hB hz1 hk1 hS => ?_)
              subst hpo
              have hP := kp_P hP hk1
              generalize H1 = H at hP hS ⊢
              refine lv_iload_n hx hb d_R_special_115 rfl (lv_at hl 5 rfl) ?_
              have hq_50 : vT b0 := by with_reducible assumption
              have hq_51 : vp_in p3 4 := by first | with_reducible assumption | exact jn_name (by with_reducible assumption)
              refine va_calli (va_runV (As := [.int (f_R_maximals b0 a0 a9 a10 x4 p3), .int p3]) (rest := []) ⟨hx, hb, hml, hown, hts⟩ (c_R_coded l dC dI ka qa H.size b0 b1 a0 a1 a2 a3 a4 a5 a6 a7 a8 a9 a10 a11 a12 (f_R_maximals b0 a0 a9 a10 x4 p3) p3 hq_50 hq_51) (cwV 2 hts k_g84 rfl rfl rfl (by decide +kernel) ⟨Nat.le_of_ble_eq_true rfl, Nat.le_of_ble_eq_true rfl⟩) ⟨fb_ro, va_recv hK hP (ci := 3) (q0 := 0) rfl rfl, fun U hU hW => ⟨rfl, by rw [hU], by rw [hU]; exact hP, va_K.moved hW.alike (hK), NX.warm hW hN⟩⟩ rfl rfl hl.1 rfl (lv_room (Nat.le_of_ble_eq_true rfl)) d_R_special_116 ⟨Nat.zero_le _, Nat.zero_le _⟩) hS (fun z h1 h2 => absurd h1 (Nat.not_lt.mpr h2)) (fun z h => hA z (Nat.le_trans hS.1 h)) (fun r u t H1 locs ht hvm hpo hB hz1 hk1 hS => ?_)
              subst hpo
              have hP := kp_P hP hk1
              generalize H1 = H at hP hS ⊢
              exact W.iret (v := (f_R_coded b0 a9 (f_R_maximals b0 a0 a9 a10 x4 p3) p3)) hx hb hr (fun t ht hW => ⟨⟨(f_R_coded b0 a9 (f_R_maximals b0 a0 a9 a10 x4 p3) p3), (), rfl, by subst hx4; rw [← hF, lr_R_special_48_s, if_pos c_46], trivial⟩, hS.F ht⟩) hS.2.2 d_R_special_119
            · have c_46 : ¬ (x5 ≤ (0 : Int32)) := c_46
              refine lv_aload_n hx hb d_R_special_53 rfl (lv_at hl 2 rfl) ?_
              refine lv_iload hx hb d_R_special_54 (lv_at hl 0 rfl) ?_
              refine lv_iload_n hx hb d_R_special_56 rfl (lv_at hl 5 rfl) ?_
              have hq_52 : vp_in x5 13 := by first | with_reducible assumption | exact in_et et (leT hT et h2 (by with_reducible assumption)) | exact in_et et h2 | exact in_et eu (leT hT eu u2 (by with_reducible assumption)) | exact in_et eu u2
              have hq_53 : vp_in p3 4 := by first | with_reducible assumption | exact jn_name (by with_reducible assumption)
              refine va_calli (va_runV (As := [.int x5, .int p3]) (rest := []) ⟨hx, hb, hml, hown, hts⟩ (c_R_has l dC dI ka qa H.size b0 b1 a0 a1 a2 a3 a4 a5 a6 a7 a8 a9 a10 a11 a12 x5 p3 hq_52 hq_53) (cwV 2 hts k_g73 rfl rfl rfl (by decide +kernel) ⟨Nat.le_of_ble_eq_true rfl, Nat.le_of_ble_eq_true rfl⟩) ⟨fb_ro, va_recv hK hP (ci := 3) (q0 := 0) rfl rfl, fun U hU hW => ⟨rfl, by rw [hU], by rw [hU]; exact hP, va_K.moved hW.alike (hK), NX.warm hW hN⟩⟩ rfl rfl hl.1 rfl (lv_room (Nat.le_of_ble_eq_true rfl)) d_R_special_57 ⟨Nat.zero_le _, Nat.zero_le _⟩) hS (fun z h1 h2 => absurd h1 (Nat.not_lt.mpr h2)) (fun z h => hA z (Nat.le_trans hS.1 h)) (fun r u t H1 locs ht hvm hpo hB hz1 hk1 hS => ?_)
              subst hpo
              have hP := kp_P hP hk1
              generalize H1 = H at hP hS ⊢
              refine lv_if_eq (tgt := 81) hx hb d_R_special_60 (by decide) (fun c_54 => ?_) (fun c_54 => ?_)
              · have c_54 : (f_R_has a9 x5 p3) = (0 : Int32) := c_54
                refine lv_aload_n hx hb d_R_special_81 rfl (lv_at hl 2 rfl) ?_
                refine va_get (D := (dC, dI)) (ci := 3) (v := .ref (qa 1)) (C := R_R) (T := F_R) (N := 15) hx hb hts i_R hown hK hP 0 rfl rfl 1 (by decide) (hts _ k_52) (fun _ h9 => h9) rfl d_R_special_82 ?_
                refine lv_iload hx hb d_R_special_85 (lv_at hl 1 rfl) ?_
                have hi_55 : vp_in x4 13 := by exact hx4i
                refine va_zald (D := (dC, dI)) (f := a0) hx hb hK hP 1 0 rfl rfl hi_55 d_R_special_87 ?_
                refine lv_if_eq (tgt := 95) hx hb d_R_special_88 (by decide) (fun c_56 => ?_) (fun c_56 => ?_)
                · have c_56 : (a0 x4.toNatClampNeg) = (0 : Int32) := c_56
                  refine lv_aload_n hx hb d_R_special_95 rfl (lv_at hl 2 rfl) ?_
                  refine va_get (D := (dC, dI)) (ci := 3) (v := .ref (qa 5)) (C := R_R) (T := F_R) (N := 15) hx hb hts i_R hown hK hP 0 rfl rfl 5 (by decide) (hts _ k_50) (fun _ h9 => h9) rfl d_R_special_96 ?_
                  refine lv_iload hx hb d_R_special_99 (lv_at hl 0 rfl) ?_
                  have hi_57 : vp_in x5 13 := by first | with_reducible assumption | exact in_et et (leT hT et h2 (by with_reducible assumption)) | exact in_et et h2 | exact in_et eu (leT hT eu u2 (by with_reducible assumption)) | exact in_et eu u2
                  refine va_iald (D := (dC, dI)) (f := a4) hx hb hK hP 5 4 rfl rfl hi_57 d_R_special_101 ?_
                  refine lv_istore (lv' := [(5, .int (a4 x5.toNatClampNeg)), (4, .int x4), (0, .ref (qa 0)), (1, .int p1), (2, .int p2), (3, .int p3)]) hx hb d_R_special_102 hl (by decide) rfl (fun ls hl => ?_)
                  refine lv_goto (tgt := 48) hx hb d_R_special_104 (by decide) ?_
                  exact ih ((a4 x5.toNatClampNeg).toNatClampNeg) (a4 x5.toNatClampNeg) _ _ _ (par_et hpa (in_et et h2)) (par_h1 hpa et h2 h1 (by with_reducible assumption)) (par_h2 hpa (in_et et h2)) (by subst hx4; rw [← hF, lr_R_special_48_s, if_neg c_46, if_pos c_54, if_pos c_56]) hP hS (lv_sub hl [0, 1, 2, 3, 4, 5] rfl)
                · have c_56 : ¬ ((a0 x4.toNatClampNeg) = (0 : Int32)) := c_56
                  refine lv_iconst (v := (0 : Int32)) hx hb d_R_special_91 (by decide +kernel) ?_
                  refine lv_goto (tgt := 102) hx hb d_R_special_92 (by decide) ?_
                  refine lv_istore (lv' := [(5, .int (0 : Int32)), (4, .int x4), (0, .ref (qa 0)), (1, .int p1), (2, .int p2), (3, .int p3)]) hx hb d_R_special_102 hl (by decide) rfl (fun ls hl => ?_)
                  refine lv_goto (tgt := 48) hx hb d_R_special_104 (by decide) ?_
                  exact ih 0 (0 : Int32) _ _ _ (rfl) (dz_h0 et h2 h1 (by with_reducible assumption)) (by omega) (by subst hx4; rw [← hF, lr_R_special_48_s, if_neg c_46, if_pos c_54, if_neg c_56]) hP hS (lv_sub hl [0, 1, 2, 3, 4, 5] rfl)
              · have c_54 : ¬ ((f_R_has a9 x5 p3) = (0 : Int32)) := c_54
                refine lv_aload_n hx hb d_R_special_63 rfl (lv_at hl 2 rfl) ?_
                refine lv_iload hx hb d_R_special_64 (lv_at hl 0 rfl) ?_
                refine lv_iload_n hx hb d_R_special_66 rfl (lv_at hl 5 rfl) ?_
                have hq_58 : vp_in x5 13 := by first | with_reducible assumption | exact in_et et (leT hT et h2 (by with_reducible assumption)) | exact in_et et h2 | exact in_et eu (leT hT eu u2 (by with_reducible assumption)) | exact in_et eu u2
                have hq_59 : vp_in p3 4 := by first | with_reducible assumption | exact jn_name (by with_reducible assumption)
                refine va_calli (va_runV (As := [.int x5, .int p3]) (rest := []) ⟨hx, hb, hml, hown, hts⟩ (c_R_isStatic l dC dI ka qa H.size b0 b1 a0 a1 a2 a3 a4 a5 a6 a7 a8 a9 a10 a11 a12 x5 p3 hq_58 hq_59) (cwV 2 hts k_g74 rfl rfl rfl (by decide +kernel) ⟨Nat.le_of_ble_eq_true rfl, Nat.le_of_ble_eq_true rfl⟩) ⟨fb_ro, va_recv hK hP (ci := 3) (q0 := 0) rfl rfl, fun U hU hW => ⟨rfl, by rw [hU], by rw [hU]; exact hP, va_K.moved hW.alike (hK), NX.warm hW hN⟩⟩ rfl rfl hl.1 rfl (lv_room (Nat.le_of_ble_eq_true rfl)) d_R_special_67 ⟨Nat.zero_le _, Nat.zero_le _⟩) hS (fun z h1 h2 => absurd h1 (Nat.not_lt.mpr h2)) (fun z h => hA z (Nat.le_trans hS.1 h)) (fun r u t H1 locs ht hvm hpo hB hz1 hk1 hS => ?_)
                subst hpo
                have hP := kp_P hP hk1
                generalize H1 = H at hP hS ⊢
                refine lv_if_ne (tgt := 81) hx hb d_R_special_70 (by decide) (fun c_60 => ?_) (fun c_60 => ?_)
                · have c_60 : ¬ ((f_R_isStatic a9 x5 p3) = (0 : Int32)) := c_60
                  refine lv_aload_n hx hb d_R_special_81 rfl (lv_at hl 2 rfl) ?_
                  refine va_get (D := (dC, dI)) (ci := 3) (v := .ref (qa 1)) (C := R_R) (T := F_R) (N := 15) hx hb hts i_R hown hK hP 0 rfl rfl 1 (by decide) (hts _ k_52) (fun _ h9 => h9) rfl d_R_special_82 ?_
                  refine lv_iload hx hb d_R_special_85 (lv_at hl 1 rfl) ?_
                  have hi_61 : vp_in x4 13 := by exact hx4i
                  refine va_zald (D := (dC, dI)) (f := a0) hx hb hK hP 1 0 rfl rfl hi_61 d_R_special_87 ?_
                  refine lv_if_eq (tgt := 95) hx hb d_R_special_88 (by decide) (fun c_62 => ?_) (fun c_62 => ?_)
                  · have c_62 : (a0 x4.toNatClampNeg) = (0 : Int32) := c_62
                    refine lv_aload_n hx hb d_R_special_95 rfl (lv_at hl 2 rfl) ?_
                    refine va_get (D := (dC, dI)) (ci := 3) (v := .ref (qa 5)) (C := R_R) (T := F_R) (N := 15) hx hb hts i_R hown hK hP 0 rfl rfl 5 (by decide) (hts _ k_50) (fun _ h9 => h9) rfl d_R_special_96 ?_
                    refine lv_iload hx hb d_R_special_99 (lv_at hl 0 rfl) ?_
                    have hi_63 : vp_in x5 13 := by first | with_reducible assumption | exact in_et et (leT hT et h2 (by with_reducible assumption)) | exact in_et et h2 | exact in_et eu (leT hT eu u2 (by with_reducible assumption)) | exact in_et eu u2
                    refine va_iald (D := (dC, dI)) (f := a4) hx hb hK hP 5 4 rfl rfl hi_63 d_R_special_101 ?_
                    refine lv_istore (lv' := [(5, .int (a4 x5.toNatClampNeg)), (4, .int x4), (0, .ref (qa 0)), (1, .int p1), (2, .int p2), (3, .int p3)]) hx hb d_R_special_102 hl (by decide) rfl (fun ls hl => ?_)
                    refine lv_goto (tgt := 48) hx hb d_R_special_104 (by decide) ?_
                    exact ih ((a4 x5.toNatClampNeg).toNatClampNeg) (a4 x5.toNatClampNeg) _ _ _ (par_et hpa (in_et et h2)) (par_h1 hpa et h2 h1 (by with_reducible assumption)) (par_h2 hpa (in_et et h2)) (by subst hx4; rw [← hF, lr_R_special_48_s, if_neg c_46, if_neg c_54, if_neg c_60, if_pos c_62]) hP hS (lv_sub hl [0, 1, 2, 3, 4, 5] rfl)
                  · have c_62 : ¬ ((a0 x4.toNatClampNeg) = (0 : Int32)) := c_62
                    refine lv_iconst (v := (0 : Int32)) hx hb d_R_special_91 (by decide +kernel) ?_
                    refine lv_goto (tgt := 102) hx hb d_R_special_92 (by decide) ?_
                    refine lv_istore (lv' := [(5, .int (0 : Int32)), (4, .int x4), (0, .ref (qa 0)), (1, .int p1), (2, .int p2), (3, .int p3)]) hx hb d_R_special_102 hl (by decide) rfl (fun ls hl => ?_)
                    refine lv_goto (tgt := 48) hx hb d_R_special_104 (by decide) ?_
                    exact ih 0 (0 : Int32) _ _ _ (rfl) (dz_h0 et h2 h1 (by with_reducible assumption)) (by omega) (by subst hx4; rw [← hF, lr_R_special_48_s, if_neg c_46, if_neg c_54, if_neg c_60, if_neg c_62]) hP hS (lv_sub hl [0, 1, 2, 3, 4, 5] rfl)
                · have c_60 : (f_R_isStatic a9 x5 p3) = (0 : Int32) := c_60
                  refine lv_aload_n hx hb d_R_special_73 rfl (lv_at hl 2 rfl) ?_
                  refine lv_iload hx hb d_R_special_74 (lv_at hl 0 rfl) ?_
                  refine lv_iload_n hx hb d_R_special_76 rfl (lv_at hl 5 rfl) ?_
                  have hq_64 : ¬ x5 ≤ (0 : Int32) → vp_in x5 13 := by exact fun _ => in_et et h2
                  have hq_65 : vp_in p3 4 := by first | with_reducible assumption | exact jn_name (by with_reducible assumption)
                  refine va_calli (va_runV (As := [.int x5, .int p3]) (rest := []) ⟨hx, hb, hml, hown, hts⟩ (c_R_withCode l dC dI ka qa H.size b0 b1 a0 a1 a2 a3 a4 a5 a6 a7 a8 a9 a10 a11 a12 x5 p3 hq_64 hq_65) (cwV 2 hts k_g85 rfl rfl rfl (by decide +kernel) ⟨Nat.le_of_ble_eq_true rfl, Nat.le_of_ble_eq_true rfl⟩) ⟨fb_ro, va_recv hK hP (ci := 3) (q0 := 0) rfl rfl, fun U hU hW => ⟨rfl, by rw [hU], by rw [hU]; exact hP, va_K.moved hW.alike (hK), NX.warm hW hN⟩⟩ rfl rfl hl.1 rfl (lv_room (Nat.le_of_ble_eq_true rfl)) d_R_special_77 ⟨Nat.zero_le _, Nat.zero_le _⟩) hS (fun z h1 h2 => absurd h1 (Nat.not_lt.mpr h2)) (fun z h => hA z (Nat.le_trans hS.1 h)) (fun r u t H1 locs ht hvm hpo hB hz1 hk1 hS => ?_)
                  subst hpo
                  have hP := kp_P hP hk1
                  generalize H1 = H at hP hS ⊢
                  exact W.iret (v := (f_R_withCode a9 x5 p3)) hx hb hr (fun t ht hW => ⟨⟨(f_R_withCode a9 x5 p3), (), rfl, by subst hx4; rw [← hF, lr_R_special_48_s, if_neg c_46, if_neg c_54, if_pos c_60], trivial⟩, hS.F ht⟩) hS.2.2 d_R_special_80
        exact LOOP_48 14 x4.toNatClampNeg x4 _ _ _ (in_k hx4i) (by have := Nat.le_of_lt_succ (in_lt hx4i); omega) (Nat.le_of_lt_succ (in_lt hx4i)) (by subst hx4; unfold f_R_special; rw [if_pos c_2, if_pos c_24, if_pos c_45]) hP hS (lv_sub hl [0, 1, 2, 3, 4, 5] rfl)
      · have c_45 : ¬ (p1 = p2) := c_45
        refine lv_aload_n hx hb d_R_special_23 rfl (lv_at hl 0 rfl) ?_
        refine lv_iload_n hx hb d_R_special_24 rfl (lv_at hl 2 rfl) ?_
        refine lv_iload_n hx hb d_R_special_25 rfl (lv_at hl 1 rfl) ?_
        have hq_66 : vp_in p2 13 := by first | with_reducible assumption | exact rin_has hT (by with_reducible assumption)
        refine va_calli (va_runV (As := [.int p2, .int p1]) (rest := []) ⟨hx, hb, hml, hown, hts⟩ (c_R_is l dC dI ka qa s.heap.size b0 b1 a0 a1 a2 a3 a4 a5 a6 a7 a8 a9 a10 a11 a12 p2 p1 hq_66) (cwV 2 hts k_g70 rfl rfl rfl (by decide +kernel) ⟨Nat.le_of_ble_eq_true rfl, Nat.le_of_ble_eq_true rfl⟩) ⟨fb_ro, va_recv hK hP (ci := 3) (q0 := 0) rfl rfl, fun U hU hW => ⟨rfl, by rw [hU], by rw [hU]; exact hP, va_K.moved hW.alike (hK), NX.warm hW hN⟩⟩ rfl rfl hl.1 rfl (lv_room (Nat.le_of_ble_eq_true rfl)) d_R_special_26 ⟨Nat.zero_le _, Nat.zero_le _⟩) hS (fun z h1 h2 => absurd h1 (Nat.not_lt.mpr h2)) (fun z h => hA z (Nat.le_trans hS.1 h)) (fun r u t H1 locs ht hvm hpo hB hz1 hk1 hS => ?_)
        subst hpo
        have hP := kp_P hP hk1
        generalize H1 = H at hP hS ⊢
        refine lv_if_eq (tgt := 41) hx hb d_R_special_29 (by decide) (fun c_67 => ?_) (fun c_67 => ?_)
        · have c_67 : (f_R_is a10 p2 p1) = (0 : Int32) := c_67
          refine lv_iload_n hx hb d_R_special_41 rfl (lv_at hl 1 rfl) ?_
          refine lv_topi (fun x4 hx4 => ?_)
          have hx4i : vp_in x4 13 := by rw [hx4]; (first | with_reducible assumption | exact rin_has hT (by with_reducible assumption))
          refine lv_istore (lv' := [(4, .int x4), (0, .ref (qa 0)), (1, .int p1), (2, .int p2), (3, .int p3)]) hx hb d_R_special_42 hl (by decide) rfl (fun ls hl => ?_)
          refine lv_iload hx hb d_R_special_44 (lv_at hl 0 rfl) ?_
          refine lv_istore (lv' := [(5, .int x4), (4, .int x4), (0, .ref (qa 0)), (1, .int p1), (2, .int p2), (3, .int p3)]) hx hb d_R_special_46 hl (by decide) rfl (fun ls hl => ?_)
          have LOOP_48 : ∀ (n k : Nat) (x5 : Int32) (H : Heap) (locs : List Loc) (ls : Array Slot), x5 = nI k → k + 1 ≤ n → k ≤ 12 → lr_R_special_48 b0 a0 a4 a9 a10 p1 p2 p3 x4 n x5 = (f_R_special b0 a0 a4 a9 a10 p1 p2 p3) → va_P (dC, dI) classes (wR ka qa b0 b1 a0 a1 a2 a3 a4 a5 a6 a7 a8 a9 a10 a11 a12) H → va_S (fun z : Nat => s.heap.size ≤ z) s.heap H locs → lv_has ls 6 [(5, .int x5), (4, .int x4), (0, .ref (qa 0)), (1, .int p1), (2, .int p2), (3, .int p3)] → W p l e (headSpec w_R_special ({ frames := 3, cells := 0, slots := 0, locals := 72 } : Room)).room s m ([.ref (qa 0), .int p1, .int p2, .int p3] : List Value).toArray below meth c H locs 0 0 (MQ below (ro_Q s.heap.size (f_R_special b0 a0 a4 a9 a10 p1 p2 p3)) ([.ref (qa 0), .int p1, .int p2, .int p3] : List Value).toArray s 0 0 (fun z => s.heap.size ≤ z)) (F0 m 48 ls []) := by
            intro n
            induction n with
            | zero =>
              intro k x5 H locs ls et h1 h2
              exfalso; omega
            | succ n ih =>
              intro k x5 H locs ls et h1 h2 hF hP hS hl
              refine lv_iload hx hb d_R_special_48 (lv_at hl 0 rfl) ?_
              refine lv_if_le (tgt := 107) hx hb d_R_special_50 (by decide) (fun c_68 => ?_) (fun c_68 => ?_)
              · have c_68 : x5 ≤ (0 : Int32) := c_68
                refine lv_aload_n hx hb d_R_special_107 rfl (lv_at hl 2 rfl) ?_
                refine lv_aload_n hx hb d_R_special_108 rfl (lv_at hl 2 rfl) ?_
                refine lv_iload hx hb d_R_special_109 (lv_at hl 1 rfl) ?_
                refine lv_iload_n hx hb d_R_special_111 rfl (lv_at hl 5 rfl) ?_
                have hq_69 : vT b0 := by with_reducible assumption
                have hq_70 : vp_in x4 13 := by first | with_reducible assumption | exact in_et et (leT hT et h2 (by with_reducible assumption)) | exact in_et et h2 | exact in_et eu (leT hT eu u2 (by with_reducible assumption)) | exact in_et eu u2
                have hq_71 : vp_in p3 4 := by first | with_reducible assumption | exact jn_name (by with_reducible assumption)
                refine va_calli (va_runV (As := [.int x4, .int p3]) (rest := [.ref (qa 0)]) ⟨hx, hb, hml, hown, hts⟩ (c_R_maximals l dC dI ka qa H.size b0 b1 a0 a1 a2 a3 a4 a5 a6 a7 a8 a9 a10 a11 a12 x4 p3 hq_69 hq_70 hq_71) (cwV 2 hts k_g79 rfl rfl rfl (by decide +kernel) ⟨Nat.le_of_ble_eq_true rfl, Nat.le_of_ble_eq_true rfl⟩) ⟨fb_ro, va_recv hK hP (ci := 3) (q0 := 0) rfl rfl, fun U hU hW => ⟨rfl, by rw [hU], by rw [hU]; exact hP, va_K.moved hW.alike (hK), NX.warm hW hN⟩⟩ rfl rfl hl.1 rfl (lv_room (Nat.le_of_ble_eq_true rfl)) d_R_special_112 ⟨Nat.zero_le _, Nat.zero_le _⟩) hS (fun z h1 h2 => absurd h1 (Nat.not_lt.mpr h2)) (fun z h => hA z (Nat.le_trans hS.1 h)) (fun r u t H1 locs ht hvm hpo hB hz1 hk1 hS => ?_)
                subst hpo
                have hP := kp_P hP hk1
                generalize H1 = H at hP hS ⊢
                refine lv_iload_n hx hb d_R_special_115 rfl (lv_at hl 5 rfl) ?_
                have hq_72 : vT b0 := by with_reducible assumption
                have hq_73 : vp_in p3 4 := by first | with_reducible assumption | exact jn_name (by with_reducible assumption)
                refine va_calli (va_runV (As := [.int (f_R_maximals b0 a0 a9 a10 x4 p3), .int p3]) (rest := []) ⟨hx, hb, hml, hown, hts⟩ (c_R_coded l dC dI ka qa H.size b0 b1 a0 a1 a2 a3 a4 a5 a6 a7 a8 a9 a10 a11 a12 (f_R_maximals b0 a0 a9 a10 x4 p3) p3 hq_72 hq_73) (cwV 2 hts k_g84 rfl rfl rfl (by decide +kernel) ⟨Nat.le_of_ble_eq_true rfl, Nat.le_of_ble_eq_true rfl⟩) ⟨fb_ro, va_recv hK hP (ci := 3) (q0 := 0) rfl rfl, fun U hU hW => ⟨rfl, by rw [hU], by rw [hU]; exact hP, va_K.moved hW.alike (hK), NX.warm hW hN⟩⟩ rfl rfl hl.1 rfl (lv_room (Nat.le_of_ble_eq_true rfl)) d_R_special_116 ⟨Nat.zero_le _, Nat.zero_le _⟩) hS (fun z h1 h2 => absurd h1 (Nat.not_lt.mpr h2)) (fun z h => hA z (Nat.le_trans hS.1 h)) (fun r u t H1 locs ht hvm hpo hB hz1 hk1 hS => ?_)
                subst hpo
                have hP := kp_P hP hk1
                generalize H1 = H at hP hS ⊢
                exact W.iret (v := (f_R_coded b0 a9 (f_R_maximals b0 a0 a9 a10 x4 p3) p3)) hx hb hr (fun t ht hW => ⟨⟨(f_R_coded b0 a9 (f_R_maximals b0 a0 a9 a10 x4 p3) p3), (), rfl, by subst hx4; rw [← hF, lr_R_special_48_s, if_pos c_68], trivial⟩, hS.F ht⟩) hS.2.2 d_R_special_119
              · have c_68 : ¬ (x5 ≤ (0 : Int32)) := c_68
                refine lv_aload_n hx hb d_R_special_53 rfl (lv_at hl 2 rfl) ?_
                refine lv_iload hx hb d_R_special_54 (lv_at hl 0 rfl) ?_
                refine lv_iload_n hx hb d_R_special_56 rfl (lv_at hl 5 rfl) ?_
                have hq_74 : vp_in x5 13 := by first | with_reducible assumption | exact in_et et (leT hT et h2 (by with_reducible assumption)) | exact in_et et h2 | exact in_et eu (leT hT eu u2 (by with_reducible assumption)) | exact in_et eu u2
                have hq_75 : vp_in p3 4 := by first | with_reducible assumption | exact jn_name (by with_reducible assumption)
                refine va_calli (va_runV (As := [.int x5, .int p3]) (rest := []) ⟨hx, hb, hml, hown, hts⟩ (c_R_has l dC dI ka qa H.size b0 b1 a0 a1 a2 a3 a4 a5 a6 a7 a8 a9 a10 a11 a12 x5 p3 hq_74 hq_75) (cwV 2 hts k_g73 rfl rfl rfl (by decide +kernel) ⟨Nat.le_of_ble_eq_true rfl, Nat.le_of_ble_eq_true rfl⟩) ⟨fb_ro, va_recv hK hP (ci := 3) (q0 := 0) rfl rfl, fun U hU hW => ⟨rfl, by rw [hU], by rw [hU]; exact hP, va_K.moved hW.alike (hK), NX.warm hW hN⟩⟩ rfl rfl hl.1 rfl (lv_room (Nat.le_of_ble_eq_true rfl)) d_R_special_57 ⟨Nat.zero_le _, Nat.zero_le _⟩) hS (fun z h1 h2 => absurd h1 (Nat.not_lt.mpr h2)) (fun z h => hA z (Nat.le_trans hS.1 h)) (fun r u t H1 locs ht hvm hpo hB hz1 hk1 hS => ?_)
                subst hpo
                have hP := kp_P hP hk1
                generalize H1 = H at hP hS ⊢
                refine lv_if_eq (tgt := 81) hx hb d_R_special_60 (by decide) (fun c_76 => ?_) (fun c_76 => ?_)
                · have c_76 : (f_R_has a9 x5 p3) = (0 : Int32) := c_76
                  refine lv_aload_n hx hb d_R_special_81 rfl (lv_at hl 2 rfl) ?_
                  refine va_get (D := (dC, dI)) (ci := 3) (v := .ref (qa 1)) (C := R_R) (T := F_R) (N := 15) hx hb hts i_R hown hK hP 0 rfl rfl 1 (by decide) (hts _ k_52) (fun _ h9 => h9) rfl d_R_special_82 ?_
                  refine lv_iload hx hb d_R_special_85 (lv_at hl 1 rfl) ?_
                  have hi_77 : vp_in x4 13 := by exact hx4i
                  refine va_zald (D := (dC, dI)) (f := a0) hx hb hK hP 1 0 rfl rfl hi_77 d_R_special_87 ?_
                  refine lv_if_eq (tgt := 95) hx hb d_R_special_88 (by decide) (fun c_78 => ?_) (fun c_78 => ?_)
                  · have c_78 : (a0 x4.toNatClampNeg) = (0 : Int32) := c_78
                    refine lv_aload_n hx hb d_R_special_95 rfl (lv_at hl 2 rfl) ?_
                    refine va_get (D := (dC, dI)) (ci := 3) (v := .ref (qa 5)) (C := R_R) (T := F_R) (N := 15) hx hb hts i_R hown hK hP 0 rfl rfl 5 (by decide) (hts _ k_50) (fun _ h9 => h9) rfl d_R_special_96 ?_
                    refine lv_iload hx hb d_R_special_99 (lv_at hl 0 rfl) ?_
                    have hi_79 : vp_in x5 13 := by first | with_reducible assumption | exact in_et et (leT hT et h2 (by with_reducible assumption)) | exact in_et et h2 | exact in_et eu (leT hT eu u2 (by with_reducible assumption)) | exact in_et eu u2
                    refine va_iald (D := (dC, dI)) (f := a4) hx hb hK hP 5 4 rfl rfl hi_79 d_R_special_101 ?_
                    refine lv_istore (lv' := [(5, .int (a4 x5.toNatClampNeg)), (4, .int x4), (0, .ref (qa 0)), (1, .int p1), (2, .int p2), (3, .int p3)]) hx hb d_R_special_102 hl (by decide) rfl (fun ls hl => ?_)
                    refine lv_goto (tgt := 48) hx hb d_R_special_104 (by decide) ?_
                    exact ih ((a4 x5.toNatClampNeg).toNatClampNeg) (a4 x5.toNatClampNeg) _ _ _ (par_et hpa (in_et et h2)) (par_h1 hpa et h2 h1 (by with_reducible assumption)) (par_h2 hpa (in_et et h2)) (by subst hx4; rw [← hF, lr_R_special_48_s, if_neg c_68, if_pos c_76, if_pos c_78]) hP hS (lv_sub hl [0, 1, 2, 3, 4, 5] rfl)
                  · have c_78 : ¬ ((a0 x4.toNatClampNeg) = (0 : Int32)) := c_78
                    refine lv_iconst (v := (0 : Int32)) hx hb d_R_special_91 (by decide +kernel) ?_
                    refine lv_goto (tgt := 102) hx hb d_R_special_92 (by decide) ?_
                    refine lv_istore (lv' := [(5, .int (0 : Int32)), (4, .int x4), (0, .ref (qa 0)), (1, .int p1), (2, .int p2), (3, .int p3)]) hx hb d_R_special_102 hl (by decide) rfl (fun ls hl => ?_)
                    refine lv_goto (tgt := 48) hx hb d_R_special_104 (by decide) ?_
                    exact ih 0 (0 : Int32) _ _ _ (rfl) (dz_h0 et h2 h1 (by with_reducible assumption)) (by omega) (by subst hx4; rw [← hF, lr_R_special_48_s, if_neg c_68, if_pos c_76, if_neg c_78]) hP hS (lv_sub hl [0, 1, 2, 3, 4, 5] rfl)
                · have c_76 : ¬ ((f_R_has a9 x5 p3) = (0 : Int32)) := c_76
                  refine lv_aload_n hx hb d_R_special_63 rfl (lv_at hl 2 rfl) ?_
                  refine lv_iload hx hb d_R_special_64 (lv_at hl 0 rfl) ?_
                  refine lv_iload_n hx hb d_R_special_66 rfl (lv_at hl 5 rfl) ?_
                  have hq_80 : vp_in x5 13 := by first | with_reducible assumption | exact in_et et (leT hT et h2 (by with_reducible assumption)) | exact in_et et h2 | exact in_et eu (leT hT eu u2 (by with_reducible assumption)) | exact in_et eu u2
                  have hq_81 : vp_in p3 4 := by first | with_reducible assumption | exact jn_name (by with_reducible assumption)
                  refine va_calli (va_runV (As := [.int x5, .int p3]) (rest := []) ⟨hx, hb, hml, hown, hts⟩ (c_R_isStatic l dC dI ka qa H.size b0 b1 a0 a1 a2 a3 a4 a5 a6 a7 a8 a9 a10 a11 a12 x5 p3 hq_80 hq_81) (cwV 2 hts k_g74 rfl rfl rfl (by decide +kernel) ⟨Nat.le_of_ble_eq_true rfl, Nat.le_of_ble_eq_true rfl⟩) ⟨fb_ro, va_recv hK hP (ci := 3) (q0 := 0) rfl rfl, fun U hU hW => ⟨rfl, by rw [hU], by rw [hU]; exact hP, va_K.moved hW.alike (hK), NX.warm hW hN⟩⟩ rfl rfl hl.1 rfl (lv_room (Nat.le_of_ble_eq_true rfl)) d_R_special_67 ⟨Nat.zero_le _, Nat.zero_le _⟩) hS (fun z h1 h2 => absurd h1 (Nat.not_lt.mpr h2)) (fun z h => hA z (Nat.le_trans hS.1 h)) (fun r u t H1 locs ht hvm hpo hB hz1 hk1 hS => ?_)
                  subst hpo
                  have hP := kp_P hP hk1
                  generalize H1 = H at hP hS ⊢
                  refine lv_if_ne (tgt := 81) hx hb d_R_special_70 (by decide) (fun c_82 => ?_) (fun c_82 => ?_)
                  · have c_82 : ¬ ((f_R_isStatic a9 x5 p3) = (0 : Int32)) := c_82
                    refine lv_aload_n hx hb d_R_special_81 rfl (lv_at hl 2 rfl) ?_
                    refine va_get (D := (dC, dI)) (ci := 3) (v := .ref (qa 1)) (C := R_R) (T := F_R) (N := 15) hx hb hts i_R hown hK hP 0 rfl rfl 1 (by decide) (hts _ k_52) (fun _ h9 => h9) rfl d_R_special_82 ?_
                    refine lv_iload hx hb d_R_special_85 (lv_at hl 1 rfl) ?_
                    have hi_83 : vp_in x4 13 := by exact hx4i
                    refine va_zald (D := (dC, dI)) (f := a0) hx hb hK hP 1 0 rfl rfl hi_83 d_R_special_87 ?_
                    refine lv_if_eq (tgt := 95) hx hb d_R_special_88 (by decide) (fun c_84 => ?_) (fun c_84 => ?_)
                    · have c_84 : (a0 x4.toNatClampNeg) = (0 : Int32) := c_84
                      refine lv_aload_n hx hb d_R_special_95 rfl (lv_at hl 2 rfl) ?_
                      refine va_get (D := (dC, dI)) (ci := 3) (v := .ref (qa 5)) (C := R_R) (T := F_R) (N := 15) hx hb hts i_R hown hK hP 0 rfl rfl 5 (by decide) (hts _ k_50) (fun _ h9 => h9) rfl d_R_special_96 ?_
                      refine lv_iload hx hb d_R_special_99 (lv_at hl 0 rfl) ?_
                      have hi_85 : vp_in x5 13 := by first | with_reducible assumption | exact in_et et (leT hT et h2 (by with_reducible assumption)) | exact in_et et h2 | exact in_et eu (leT hT eu u2 (by with_reducible assumption)) | exact in_et eu u2
                      refine va_iald (D := (dC, dI)) (f := a4) hx hb hK hP 5 4 rfl rfl hi_85 d_R_special_101 ?_
                      refine lv_istore (lv' := [(5, .int (a4 x5.toNatClampNeg)), (4, .int x4), (0, .ref (qa 0)), (1, .int p1), (2, .int p2), (3, .int p3)]) hx hb d_R_special_102 hl (by decide) rfl (fun ls hl => ?_)
                      refine lv_goto (tgt := 48) hx hb d_R_special_104 (by decide) ?_
                      exact ih ((a4 x5.toNatClampNeg).toNatClampNeg) (a4 x5.toNatClampNeg) _ _ _ (par_et hpa (in_et et h2)) (par_h1 hpa et h2 h1 (by with_reducible assumption)) (par_h2 hpa (in_et et h2)) (by subst hx4; rw [← hF, lr_R_special_48_s, if_neg c_68, if_neg c_76, if_neg c_82, if_pos c_84]) hP hS (lv_sub hl [0, 1, 2, 3, 4, 5] rfl)
                    · have c_84 : ¬ ((a0 x4.toNatClampNeg) = (0 : Int32)) := c_84
                      refine lv_iconst (v := (0 : Int32)) hx hb d_R_special_91 (by decide +kernel) ?_
                      refine lv_goto (tgt := 102) hx hb d_R_special_92 (by decide) ?_
                      refine lv_istore (lv' := [(5, .int (0 : Int32)), (4, .int x4), (0, .ref (qa 0)), (1, .int p1), (2, .int p2), (3, .int p3)]) hx hb d_R_special_102 hl (by decide) rfl (fun ls hl => ?_)
                      refine lv_goto (tgt := 48) hx hb d_R_special_104 (by decide) ?_
                      exact ih 0 (0 : Int32) _ _ _ (rfl) (dz_h0 et h2 h1 (by with_reducible assumption)) (by omega) (by subst hx4; rw [← hF, lr_R_special_48_s, if_neg c_68, if_neg c_76, if_neg c_82, if_neg c_84]) hP hS (lv_sub hl [0, 1, 2, 3, 4, 5] rfl)
                  · have c_82 : (f_R_isStatic a9 x5 p3) = (0 : Int32) := c_82
                    refine lv_aload_n hx hb d_R_special_73 rfl (lv_at hl 2 rfl) ?_
                    refine lv_iload hx hb d_R_special_74 (lv_at hl 0 rfl) ?_
                    refine lv_iload_n hx hb d_R_special_76 rfl (lv_at hl 5 rfl) ?_
                    have hq_86 : ¬ x5 ≤ (0 : Int32) → vp_in x5 13 := by exact fun _ => in_et et h2
                    have hq_87 : vp_in p3 4 := by first | with_reducible assumption | exact jn_name (by with_reducible assumption)
                    refine va_calli (va_runV (As := [.int x5, .int p3]) (rest := []) ⟨hx, hb, hml, hown, hts⟩ (c_R_withCode l dC dI ka qa H.size b0 b1 a0 a1 a2 a3 a4 a5 a6 a7 a8 a9 a10 a11 a12 x5 p3 hq_86 hq_87) (cwV 2 hts k_g85 rfl rfl rfl (by decide +kernel) ⟨Nat.le_of_ble_eq_true rfl, Nat.le_of_ble_eq_true rfl⟩) ⟨fb_ro, va_recv hK hP (ci := 3) (q0 := 0) rfl rfl, fun U hU hW => ⟨rfl, by rw [hU], by rw [hU]; exact hP, va_K.moved hW.alike (hK), NX.warm hW hN⟩⟩ rfl rfl hl.1 rfl (lv_room (Nat.le_of_ble_eq_true rfl)) d_R_special_77 ⟨Nat.zero_le _, Nat.zero_le _⟩) hS (fun z h1 h2 => absurd h1 (Nat.not_lt.mpr h2)) (fun z h => hA z (Nat.le_trans hS.1 h)) (fun r u t H1 locs ht hvm hpo hB hz1 hk1 hS => ?_)
                    subst hpo
                    have hP := kp_P hP hk1
                    generalize H1 = H at hP hS ⊢
                    exact W.iret (v := (f_R_withCode a9 x5 p3)) hx hb hr (fun t ht hW => ⟨⟨(f_R_withCode a9 x5 p3), (), rfl, by subst hx4; rw [← hF, lr_R_special_48_s, if_neg c_68, if_neg c_76, if_pos c_82], trivial⟩, hS.F ht⟩) hS.2.2 d_R_special_80
          exact LOOP_48 14 x4.toNatClampNeg x4 _ _ _ (in_k hx4i) (by have := Nat.le_of_lt_succ (in_lt hx4i); omega) (Nat.le_of_lt_succ (in_lt hx4i)) (by subst hx4; unfold f_R_special; rw [if_pos c_2, if_pos c_24, if_neg c_45, if_pos c_67]) hP hS (lv_sub hl [0, 1, 2, 3, 4, 5] rfl)
        · have c_67 : ¬ ((f_R_is a10 p2 p1) = (0 : Int32)) := c_67
          refine lv_aload_n hx hb d_R_special_32 rfl (lv_at hl 0 rfl) ?_
          refine va_get (D := (dC, dI)) (ci := 3) (v := .ref (qa 5)) (C := R_R) (T := F_R) (N := 15) hx hb hts i_R hown hK hP 0 rfl rfl 5 (by decide) (hts _ k_50) (fun _ h9 => h9) rfl d_R_special_33 ?_
          refine lv_iload_n hx hb d_R_special_36 rfl (lv_at hl 2 rfl) ?_
          have hi_88 : vp_in p2 13 := by first | with_reducible assumption | exact rin_has hT (by with_reducible assumption)
          refine va_iald (D := (dC, dI)) (f := a4) hx hb hK hP 5 4 rfl rfl hi_88 d_R_special_37 ?_
          refine lv_goto (tgt := 42) hx hb d_R_special_38 (by decide) ?_
          refine lv_topi (fun x4 hx4 => ?_)
          have hx4i : vp_in x4 13 := by rw [hx4]; (first | with_reducible assumption | exact par_in hpa (by first | with_reducible assumption | exact rin_has hT (by with_reducible assumption)))
          refine lv_istore (lv' := [(4, .int x4), (0, .ref (qa 0)), (1, .int p1), (2, .int p2), (3, .int p3)]) hx hb d_R_special_42 hl (by decide) rfl (fun ls hl => ?_)
          refine lv_iload hx hb d_R_special_44 (lv_at hl 0 rfl) ?_
          refine lv_istore (lv' := [(5, .int x4), (4, .int x4), (0, .ref (qa 0)), (1, .int p1), (2, .int p2), (3, .int p3)]) hx hb d_R_special_46 hl (by decide) rfl (fun ls hl => ?_)
          have LOOP_48 : ∀ (n k : Nat) (x5 : Int32) (H : Heap) (locs : List Loc) (ls : Array Slot), x5 = nI k → k + 1 ≤ n → k ≤ 12 → lr_R_special_48 b0 a0 a4 a9 a10 p1 p2 p3 x4 n x5 = (f_R_special b0 a0 a4 a9 a10 p1 p2 p3) → va_P (dC, dI) classes (wR ka qa b0 b1 a0 a1 a2 a3 a4 a5 a6 a7 a8 a9 a10 a11 a12) H → va_S (fun z : Nat => s.heap.size ≤ z) s.heap H locs → lv_has ls 6 [(5, .int x5), (4, .int x4), (0, .ref (qa 0)), (1, .int p1), (2, .int p2), (3, .int p3)] → W p l e (headSpec w_R_special ({ frames := 3, cells := 0, slots := 0, locals := 72 } : Room)).room s m ([.ref (qa 0), .int p1, .int p2, .int p3] : List Value).toArray below meth c H locs 0 0 (MQ below (ro_Q s.heap.size (f_R_special b0 a0 a4 a9 a10 p1 p2 p3)) ([.ref (qa 0), .int p1, .int p2, .int p3] : List Value).toArray s 0 0 (fun z => s.heap.size ≤ z)) (F0 m 48 ls []) := by
            intro n
            induction n with
            | zero =>
              intro k x5 H locs ls et h1 h2
              exfalso; omega
            | succ n ih =>
              intro k x5 H locs ls et h1 h2 hF hP hS hl
              refine lv_iload hx hb d_R_special_48 (lv_at hl 0 rfl) ?_
              refine lv_if_le (tgt := 107) hx hb d_R_special_50 (by decide) (fun c_89 => ?_) (fun c_89 => ?_)
              · have c_89 : x5 ≤ (0 : Int32) := c_89
                refine lv_aload_n hx hb d_R_special_107 rfl (lv_at hl 2 rfl) ?_
                refine lv_aload_n hx hb d_R_special_108 rfl (lv_at hl 2 rfl) ?_
                refine lv_iload hx hb d_R_special_109 (lv_at hl 1 rfl) ?_
                refine lv_iload_n hx hb d_R_special_111 rfl (lv_at hl 5 rfl) ?_
                have hq_90 : vT b0 := by with_reducible assumption
                have hq_91 : vp_in x4 13 := by first | with_reducible assumption | exact in_et et (leT hT et h2 (by with_reducible assumption)) | exact in_et et h2 | exact in_et eu (leT hT eu u2 (by with_reducible assumption)) | exact in_et eu u2
                have hq_92 : vp_in p3 4 := by first | with_reducible assumption | exact jn_name (by with_reducible assumption)
                refine va_calli (va_runV (As := [.int x4, .int p3]) (rest := [.ref (qa 0)]) ⟨hx, hb, hml, hown, hts⟩ (c_R_maximals l dC dI ka qa H.size b0 b1 a0 a1 a2 a3 a4 a5 a6 a7 a8 a9 a10 a11 a12 x4 p3 hq_90 hq_91 hq_92) (cwV 2 hts k_g79 rfl rfl rfl (by decide +kernel) ⟨Nat.le_of_ble_eq_true rfl, Nat.le_of_ble_eq_true rfl⟩) ⟨fb_ro, va_recv hK hP (ci := 3) (q0 := 0) rfl rfl, fun U hU hW => ⟨rfl, by rw [hU], by rw [hU]; exact hP, va_K.moved hW.alike (hK), NX.warm hW hN⟩⟩ rfl rfl hl.1 rfl (lv_room (Nat.le_of_ble_eq_true rfl)) d_R_special_112 ⟨Nat.zero_le _, Nat.zero_le _⟩) hS (fun z h1 h2 => absurd h1 (Nat.not_lt.mpr h2)) (fun z h => hA z (Nat.le_trans hS.1 h)) (fun r u t H1 locs ht hvm hpo hB hz1 hk1 hS => ?_)
                subst hpo
                have hP := kp_P hP hk1
                generalize H1 = H at hP hS ⊢
                refine lv_iload_n hx hb d_R_special_115 rfl (lv_at hl 5 rfl) ?_
                have hq_93 : vT b0 := by with_reducible assumption
                have hq_94 : vp_in p3 4 := by first | with_reducible assumption | exact jn_name (by with_reducible assumption)
                refine va_calli (va_runV (As := [.int (f_R_maximals b0 a0 a9 a10 x4 p3), .int p3]) (rest := []) ⟨hx, hb, hml, hown, hts⟩ (c_R_coded l dC dI ka qa H.size b0 b1 a0 a1 a2 a3 a4 a5 a6 a7 a8 a9 a10 a11 a12 (f_R_maximals b0 a0 a9 a10 x4 p3) p3 hq_93 hq_94) (cwV 2 hts k_g84 rfl rfl rfl (by decide +kernel) ⟨Nat.le_of_ble_eq_true rfl, Nat.le_of_ble_eq_true rfl⟩) ⟨fb_ro, va_recv hK hP (ci := 3) (q0 := 0) rfl rfl, fun U hU hW => ⟨rfl, by rw [hU], by rw [hU]; exact hP, va_K.moved hW.alike (hK), NX.warm hW hN⟩⟩ rfl rfl hl.1 rfl (lv_room (Nat.le_of_ble_eq_true rfl)) d_R_special_116 ⟨Nat.zero_le _, Nat.zero_le _⟩) hS (fun z h1 h2 => absurd h1 (Nat.not_lt.mpr h2)) (fun z h => hA z (Nat.le_trans hS.1 h)) (fun r u t H1 locs ht hvm hpo hB hz1 hk1 hS => ?_)
                subst hpo
                have hP := kp_P hP hk1
                generalize H1 = H at hP hS ⊢
                exact W.iret (v := (f_R_coded b0 a9 (f_R_maximals b0 a0 a9 a10 x4 p3) p3)) hx hb hr (fun t ht hW => ⟨⟨(f_R_coded b0 a9 (f_R_maximals b0 a0 a9 a10 x4 p3) p3), (), rfl, by subst hx4; rw [← hF, lr_R_special_48_s, if_pos c_89], trivial⟩, hS.F ht⟩) hS.2.2 d_R_special_119
              · have c_89 : ¬ (x5 ≤ (0 : Int32)) := c_89
                refine lv_aload_n hx hb d_R_special_53 rfl (lv_at hl 2 rfl) ?_
                refine lv_iload hx hb d_R_special_54 (lv_at hl 0 rfl) ?_
                refine lv_iload_n hx hb d_R_special_56 rfl (lv_at hl 5 rfl) ?_
                have hq_95 : vp_in x5 13 := by first | with_reducible assumption | exact in_et et (leT hT et h2 (by with_reducible assumption)) | exact in_et et h2 | exact in_et eu (leT hT eu u2 (by with_reducible assumption)) | exact in_et eu u2
                have hq_96 : vp_in p3 4 := by first | with_reducible assumption | exact jn_name (by with_reducible assumption)
                refine va_calli (va_runV (As := [.int x5, .int p3]) (rest := []) ⟨hx, hb, hml, hown, hts⟩ (c_R_has l dC dI ka qa H.size b0 b1 a0 a1 a2 a3 a4 a5 a6 a7 a8 a9 a10 a11 a12 x5 p3 hq_95 hq_96) (cwV 2 hts k_g73 rfl rfl rfl (by decide +kernel) ⟨Nat.le_of_ble_eq_true rfl, Nat.le_of_ble_eq_true rfl⟩) ⟨fb_ro, va_recv hK hP (ci := 3) (q0 := 0) rfl rfl, fun U hU hW => ⟨rfl, by rw [hU], by rw [hU]; exact hP, va_K.moved hW.alike (hK), NX.warm hW hN⟩⟩ rfl rfl hl.1 rfl (lv_room (Nat.le_of_ble_eq_true rfl)) d_R_special_57 ⟨Nat.zero_le _, Nat.zero_le _⟩) hS (fun z h1 h2 => absurd h1 (Nat.not_lt.mpr h2)) (fun z h => hA z (Nat.le_trans hS.1 h)) (fun r u t H1 locs ht hvm hpo hB hz1 hk1 hS => ?_)
                subst hpo
                have hP := kp_P hP hk1
                generalize H1 = H at hP hS ⊢
                refine lv_if_eq (tgt := 81) hx hb d_R_special_60 (by decide) (fun c_97 => ?_) (fun c_97 => ?_)
                · have c_97 : (f_R_has a9 x5 p3) = (0 : Int32) := c_97
                  refine lv_aload_n hx hb d_R_special_81 rfl (lv_at hl 2 rfl) ?_
                  refine va_get (D := (dC, dI)) (ci := 3) (v := .ref (qa 1)) (C := R_R) (T := F_R) (N := 15) hx hb hts i_R hown hK hP 0 rfl rfl 1 (by decide) (hts _ k_52) (fun _ h9 => h9) rfl d_R_special_82 ?_
                  refine lv_iload hx hb d_R_special_85 (lv_at hl 1 rfl) ?_
                  have hi_98 : vp_in x4 13 := by exact hx4i
                  refine va_zald (D := (dC, dI)) (f := a0) hx hb hK hP 1 0 rfl rfl hi_98 d_R_special_87 ?_
                  refine lv_if_eq (tgt := 95) hx hb d_R_special_88 (by decide) (fun c_99 => ?_) (fun c_99 => ?_)
                  · have c_99 : (a0 x4.toNatClampNeg) = (0 : Int32) := c_99
                    refine lv_aload_n hx hb d_R_special_95 rfl (lv_at hl 2 rfl) ?_
                    refine va_get (D := (dC, dI)) (ci := 3) (v := .ref (qa 5)) (C := R_R) (T := F_R) (N := 15) hx hb hts i_R hown hK hP 0 rfl rfl 5 (by decide) (hts _ k_50) (fun _ h9 => h9) rfl d_R_special_96 ?_
                    refine lv_iload hx hb d_R_special_99 (lv_at hl 0 rfl) ?_
                    have hi_100 : vp_in x5 13 := by first | with_reducible assumption | exact in_et et (leT hT et h2 (by with_reducible assumption)) | exact in_et et h2 | exact in_et eu (leT hT eu u2 (by with_reducible assumption)) | exact in_et eu u2
                    refine va_iald (D := (dC, dI)) (f := a4) hx hb hK hP 5 4 rfl rfl hi_100 d_R_special_101 ?_
                    refine lv_istore (lv' := [(5, .int (a4 x5.toNatClampNeg)), (4, .int x4), (0, .ref (qa 0)), (1, .int p1), (2, .int p2), (3, .int p3)]) hx hb d_R_special_102 hl (by decide) rfl (fun ls hl => ?_)
                    refine lv_goto (tgt := 48) hx hb d_R_special_104 (by decide) ?_
                    exact ih ((a4 x5.toNatClampNeg).toNatClampNeg) (a4 x5.toNatClampNeg) _ _ _ (par_et hpa (in_et et h2)) (par_h1 hpa et h2 h1 (by with_reducible assumption)) (par_h2 hpa (in_et et h2)) (by subst hx4; rw [← hF, lr_R_special_48_s, if_neg c_89, if_pos c_97, if_pos c_99]) hP hS (lv_sub hl [0, 1, 2, 3, 4, 5] rfl)
                  · have c_99 : ¬ ((a0 x4.toNatClampNeg) = (0 : Int32)) := c_99
                    refine lv_iconst (v := (0 : Int32)) hx hb d_R_special_91 (by decide +kernel) ?_
                    refine lv_goto (tgt := 102) hx hb d_R_special_92 (by decide) ?_
                    refine lv_istore (lv' := [(5, .int (0 : Int32)), (4, .int x4), (0, .ref (qa 0)), (1, .int p1), (2, .int p2), (3, .int p3)]) hx hb d_R_special_102 hl (by decide) rfl (fun ls hl => ?_)
                    refine lv_goto (tgt := 48) hx hb d_R_special_104 (by decide) ?_
                    exact ih 0 (0 : Int32) _ _ _ (rfl) (dz_h0 et h2 h1 (by with_reducible assumption)) (by omega) (by subst hx4; rw [← hF, lr_R_special_48_s, if_neg c_89, if_pos c_97, if_neg c_99]) hP hS (lv_sub hl [0, 1, 2, 3, 4, 5] rfl)
                · have c_97 : ¬ ((f_R_has a9 x5 p3) = (0 : Int32)) := c_97
                  refine lv_aload_n hx hb d_R_special_63 rfl (lv_at hl 2 rfl) ?_
                  refine lv_iload hx hb d_R_special_64 (lv_at hl 0 rfl) ?_
                  refine lv_iload_n hx hb d_R_special_66 rfl (lv_at hl 5 rfl) ?_
                  have hq_101 : vp_in x5 13 := by first | with_reducible assumption | exact in_et et (leT hT et h2 (by with_reducible assumption)) | exact in_et et h2 | exact in_et eu (leT hT eu u2 (by with_reducible assumption)) | exact in_et eu u2
                  have hq_102 : vp_in p3 4 := by first | with_reducible assumption | exact jn_name (by with_reducible assumption)
                  refine va_calli (va_runV (As := [.int x5, .int p3]) (rest := []) ⟨hx, hb, hml, hown, hts⟩ (c_R_isStatic l dC dI ka qa H.size b0 b1 a0 a1 a2 a3 a4 a5 a6 a7 a8 a9 a10 a11 a12 x5 p3 hq_101 hq_102) (cwV 2 hts k_g74 rfl rfl rfl (by decide +kernel) ⟨Nat.le_of_ble_eq_true rfl, Nat.le_of_ble_eq_true rfl⟩) ⟨fb_ro, va_recv hK hP (ci := 3) (q0 := 0) rfl rfl, fun U hU hW => ⟨rfl, by rw [hU], by rw [hU]; exact hP, va_K.moved hW.alike (hK), NX.warm hW hN⟩⟩ rfl rfl hl.1 rfl (lv_room (Nat.le_of_ble_eq_true rfl)) d_R_special_67 ⟨Nat.zero_le _, Nat.zero_le _⟩) hS (fun z h1 h2 => absurd h1 (Nat.not_lt.mpr h2)) (fun z h => hA z (Nat.le_trans hS.1 h)) (fun r u t H1 locs ht hvm hpo hB hz1 hk1 hS => ?_)
                  subst hpo
                  have hP := kp_P hP hk1
                  generalize H1 = H at hP hS ⊢
                  refine lv_if_ne (tgt := 81) hx hb d_R_special_70 (by decide) (fun c_103 => ?_) (fun c_103 => ?_)
                  · have c_103 : ¬ ((f_R_isStatic a9 x5 p3) = (0 : Int32)) := c_103
                    refine lv_aload_n hx hb d_R_special_81 rfl (lv_at hl 2 rfl) ?_
                    refine va_get (D := (dC, dI)) (ci := 3) (v := .ref (qa 1)) (C := R_R) (T := F_R) (N := 15) hx hb hts i_R hown hK hP 0 rfl rfl 1 (by decide) (hts _ k_52) (fun _ h9 => h9) rfl d_R_special_82 ?_
                    refine lv_iload hx hb d_R_special_85 (lv_at hl 1 rfl) ?_
                    have hi_104 : vp_in x4 13 := by exact hx4i
                    refine va_zald (D := (dC, dI)) (f := a0) hx hb hK hP 1 0 rfl rfl hi_104 d_R_special_87 ?_
                    refine lv_if_eq (tgt := 95) hx hb d_R_special_88 (by decide) (fun c_105 => ?_) (fun c_105 => ?_)
                    · have c_105 : (a0 x4.toNatClampNeg) = (0 : Int32) := c_105
                      refine lv_aload_n hx hb d_R_special_95 rfl (lv_at hl 2 rfl) ?_
                      refine va_get (D := (dC, dI)) (ci := 3) (v := .ref (qa 5)) (C := R_R) (T := F_R) (N := 15) hx hb hts i_R hown hK hP 0 rfl rfl 5 (by decide) (hts _ k_50) (fun _ h9 => h9) rfl d_R_special_96 ?_
                      refine lv_iload hx hb d_R_special_99 (lv_at hl 0 rfl) ?_
                      have hi_106 : vp_in x5 13 := by first | with_reducible assumption | exact in_et et (leT hT et h2 (by with_reducible assumption)) | exact in_et et h2 | exact in_et eu (leT hT eu u2 (by with_reducible assumption)) | exact in_et eu u2
                      refine va_iald (D := (dC, dI)) (f := a4) hx hb hK hP 5 4 rfl rfl hi_106 d_R_special_101 ?_
                      refine lv_istore (lv' := [(5, .int (a4 x5.toNatClampNeg)), (4, .int x4), (0, .ref (qa 0)), (1, .int p1), (2, .int p2), (3, .int p3)]) hx hb d_R_special_102 hl (by decide) rfl (fun ls hl => ?_)
                      refine lv_goto (tgt := 48) hx hb d_R_special_104 (by decide) ?_
                      exact ih ((a4 x5.toNatClampNeg).toNatClampNeg) (a4 x5.toNatClampNeg) _ _ _ (par_et hpa (in_et et h2)) (par_h1 hpa et h2 h1 (by with_reducible assumption)) (par_h2 hpa (in_et et h2)) (by subst hx4; rw [← hF, lr_R_special_48_s, if_neg c_89, if_neg c_97, if_neg c_103, if_pos c_105]) hP hS (lv_sub hl [0, 1, 2, 3, 4, 5] rfl)
                    · have c_105 : ¬ ((a0 x4.toNatClampNeg) = (0 : Int32)) := c_105
                      refine lv_iconst (v := (0 : Int32)) hx hb d_R_special_91 (by decide +kernel) ?_
                      refine lv_goto (tgt := 102) hx hb d_R_special_92 (by decide) ?_
                      refine lv_istore (lv' := [(5, .int (0 : Int32)), (4, .int x4), (0, .ref (qa 0)), (1, .int p1), (2, .int p2), (3, .int p3)]) hx hb d_R_special_102 hl (by decide) rfl (fun ls hl => ?_)
                      refine lv_goto (tgt := 48) hx hb d_R_special_104 (by decide) ?_
                      exact ih 0 (0 : Int32) _ _ _ (rfl) (dz_h0 et h2 h1 (by with_reducible assumption)) (by omega) (by subst hx4; rw [← hF, lr_R_special_48_s, if_neg c_89, if_neg c_97, if_neg c_103, if_neg c_105]) hP hS (lv_sub hl [0, 1, 2, 3, 4, 5] rfl)
                  · have c_103 : (f_R_isStatic a9 x5 p3) = (0 : Int32) := c_103
                    refine lv_aload_n hx hb d_R_special_73 rfl (lv_at hl 2 rfl) ?_
                    refine lv_iload hx hb d_R_special_74 (lv_at hl 0 rfl) ?_
                    refine lv_iload_n hx hb d_R_special_76 rfl (lv_at hl 5 rfl) ?_
                    have hq_107 : ¬ x5 ≤ (0 : Int32) → vp_in x5 13 := by exact fun _ => in_et et h2
                    have hq_108 : vp_in p3 4 := by first | with_reducible assumption | exact jn_name (by with_reducible assumption)
                    refine va_calli (va_runV (As := [.int x5, .int p3]) (rest := []) ⟨hx, hb, hml, hown, hts⟩ (c_R_withCode l dC dI ka qa H.size b0 b1 a0 a1 a2 a3 a4 a5 a6 a7 a8 a9 a10 a11 a12 x5 p3 hq_107 hq_108) (cwV 2 hts k_g85 rfl rfl rfl (by decide +kernel) ⟨Nat.le_of_ble_eq_true rfl, Nat.le_of_ble_eq_true rfl⟩) ⟨fb_ro, va_recv hK hP (ci := 3) (q0 := 0) rfl rfl, fun U hU hW => ⟨rfl, by rw [hU], by rw [hU]; exact hP, va_K.moved hW.alike (hK), NX.warm hW hN⟩⟩ rfl rfl hl.1 rfl (lv_room (Nat.le_of_ble_eq_true rfl)) d_R_special_77 ⟨Nat.zero_le _, Nat.zero_le _⟩) hS (fun z h1 h2 => absurd h1 (Nat.not_lt.mpr h2)) (fun z h => hA z (Nat.le_trans hS.1 h)) (fun r u t H1 locs ht hvm hpo hB hz1 hk1 hS => ?_)
                    subst hpo
                    have hP := kp_P hP hk1
                    generalize H1 = H at hP hS ⊢
                    exact W.iret (v := (f_R_withCode a9 x5 p3)) hx hb hr (fun t ht hW => ⟨⟨(f_R_withCode a9 x5 p3), (), rfl, by subst hx4; rw [← hF, lr_R_special_48_s, if_neg c_89, if_neg c_97, if_pos c_103], trivial⟩, hS.F ht⟩) hS.2.2 d_R_special_80
          exact LOOP_48 14 x4.toNatClampNeg x4 _ _ _ (in_k hx4i) (by have := Nat.le_of_lt_succ (in_lt hx4i); omega) (Nat.le_of_lt_succ (in_lt hx4i)) (by subst hx4; unfold f_R_special; rw [if_pos c_2, if_pos c_24, if_neg c_45, if_neg c_67]) hP hS (lv_sub hl [0, 1, 2, 3, 4, 5] rfl)
