set_option maxHeartbeats 1000000 in
set_option maxRecDepth 100000 in
theorem c_R_findAbove (l : Launch) (dC : Nat → ClassId) (dI : Nat → Nat → Nat) (ka : Nat → ClassId) (qa : Nat → Nat) (sz : Nat) (b0 b1 : Int32) (a0 a1 a2 a3 a4 a5 a6 a7 a8 a9 a10 a11 a12 : Nat → Int32) (p1 p2 : Int32) (hT : vT b0) (hp1 : vp_in p1 13) (hp2 : vp_in p2 4) : Met l y_R_findAbove w_R_findAbove ({ frames := 3, cells := 0, slots := 0, locals := 72 } : Room) (mu_P dC dI (wR ka qa b0 b1 a0 a1 a2 a3 a4 a5 a6 a7 a8 a9 a10 a11 a12) (tR ka) sz [.ref (qa 0), .int p1, .int p2]) (mu_Q (fun (S9 : Int32) => (wR ka qa b0 S9 a0 a1 a2 a3 a4 a5 a6 a7 a8 a9 a10 a11 a12)) dC dI (f_R_findAbove b0 b1 a0 a9 a10 p1 p2) ((s_R_findAbove_b1 b0 b1 a0 a9 a10 p1 p2)) (va_A (wR ka qa b0 b1 a0 a1 a2 a3 a4 a5 a6 a7 a8 a9 a10 a11 a12) sz)) 0 0 (va_A (wR ka qa b0 b1 a0 a1 a2 a3 a4 a5 a6 a7 a8 a9 a10 a11 a12) sz) := by
  refine Met.ofW (cc := b_R_findAbove) (maxL := 7) (ret := (some .int)) (by decide) rfl ?_
  intro p e s m args below meth c s₁ B hml hv
  obtain ⟨rfl, hsz, hP, hK, hN, hD0⟩ := hv
  have hx := B.exec
  have hb := B.bytes
  have hr := B.returns
  have hts := tl_of (atoms_spec (ws := w_R_findAbove) B.pre)
  have hown : s.vm.findClass R_R = some m.cls := findClass_of_methodNamed B.named
  have hlocks := B.notSynchronized
  subst hsz
  have hD := hD0.self (sz := s.heap.size)
  generalize hAe : va_A (wR ka qa b0 b1 a0 a1 a2 a3 a4 a5 a6 a7 a8 a9 a10 a11 a12) s.heap.size = A at hD ⊢
  have hA : ∀ q : Nat, s.heap.size ≤ q → A q := fun q h => by rw [← hAe]; exact Or.inr h
  have hS : va_S A s.heap s.heap [] := va_S.rf
  have hl := lv_entry ([.ref (qa 0), .int p1, .int p2]) (n := 7) (Nat.le_of_ble_eq_true rfl)
  rw [lg_entry_eq]
  generalize (lg_sl ([.ref (qa 0), .int p1, .int p2]) ++ List.replicate (7 - (lg_sl ([.ref (qa 0), .int p1, .int p2])).length) Slot.unset).toArray = ls at hl ⊢
  have hl : lv_has ls 7 [(0, .ref (qa 0)), (1, .int p1), (2, .int p2)] := hl
  refine lv_aload_n hx hb d_R_findAbove_0 rfl (lv_at hl 0 rfl) ?_
  refine lv_aload_n hx hb d_R_findAbove_1 rfl (lv_at hl 0 rfl) ?_
  refine lv_iload_n hx hb d_R_findAbove_2 rfl (lv_at hl 1 rfl) ?_
  refine lv_iload_n hx hb d_R_findAbove_3 rfl (lv_at hl 2 rfl) ?_
  have hq_1 : vT b0 := by with_reducible assumption
  have hq_2 : vp_in p1 13 := by first | with_reducible assumption | exact rin_has hT (by with_reducible assumption)
  have hq_3 : vp_in p2 4 := by first | with_reducible assumption | exact jn_name (by with_reducible assumption)
  refine va_calli (va_runV (As := [.int p1, .int p2]) (rest := [.ref (qa 0)]) ⟨hx, hb, hml, hown, hts⟩ (c_R_maximals l dC dI ka qa s.heap.size b0 b1 a0 a1 a2 a3 a4 a5 a6 a7 a8 a9 a10 a11 a12 p1 p2 hq_1 hq_2 hq_3) (cwV 2 hts k_g79 rfl rfl rfl (by decide +kernel) ⟨Nat.le_of_ble_eq_true rfl, Nat.le_of_ble_eq_true rfl⟩) ⟨fb_ro, va_recv hK hP (ci := 3) (q0 := 0) rfl rfl, fun U hU hW => ⟨rfl, by rw [hU], by rw [hU]; exact hP, va_K.moved hW.alike (hK), NX.warm hW hN⟩⟩ rfl rfl hl.1 rfl (lv_room (Nat.le_of_ble_eq_true rfl)) d_R_findAbove_4 ⟨Nat.zero_le _, Nat.zero_le _⟩) hS (fun z h1 h2 => absurd h1 (Nat.not_lt.mpr h2)) (fun z h => hA z (Nat.le_trans hS.1 h)) (fun r u t H1 locs ht hvm hpo hB hz1 hk1 hS => ?_)
  subst hpo
  have hP := kp_P hP hk1
  generalize H1 = H at hP hS ⊢
  refine lv_iload_n hx hb d_R_findAbove_7 rfl (lv_at hl 2 rfl) ?_
  have hq_4 : vT b0 := by with_reducible assumption
  have hq_5 : vp_in p2 4 := by first | with_reducible assumption | exact jn_name (by with_reducible assumption)
  refine va_calli (va_runV (As := [.int (f_R_maximals b0 a0 a9 a10 p1 p2), .int p2]) (rest := []) ⟨hx, hb, hml, hown, hts⟩ (c_R_only l dC dI ka qa H.size b0 b1 a0 a1 a2 a3 a4 a5 a6 a7 a8 a9 a10 a11 a12 (f_R_maximals b0 a0 a9 a10 p1 p2) p2 hq_4 hq_5) (cwV 2 hts k_g77 rfl rfl rfl (by decide +kernel) ⟨Nat.le_of_ble_eq_true rfl, Nat.le_of_ble_eq_true rfl⟩) ⟨fb_ro, va_recv hK hP (ci := 3) (q0 := 0) rfl rfl, fun U hU hW => ⟨rfl, by rw [hU], by rw [hU]; exact hP, va_K.moved hW.alike (hK), NX.warm hW hN⟩⟩ rfl rfl hl.1 rfl (lv_room (Nat.le_of_ble_eq_true rfl)) d_R_findAbove_8 ⟨Nat.zero_le _, Nat.zero_le _⟩) hS (fun z h1 h2 => absurd h1 (Nat.not_lt.mpr h2)) (fun z h => hA z (Nat.le_trans hS.1 h)) (fun r u t H1 locs ht hvm hpo hB hz1 hk1 hS => ?_)
  subst hpo
  have hP := kp_P hP hk1
  generalize H1 = H at hP hS ⊢
  refine lv_istore_n (lv' := [(3, .int (f_R_only b0 a9 (f_R_maximals b0 a0 a9 a10 p1 p2) p2)), (0, .ref (qa 0)), (1, .int p1), (2, .int p2)]) hx hb d_R_findAbove_11 rfl hl (by decide) rfl (fun ls hl => ?_)
  refine lv_iload_n hx hb d_R_findAbove_12 rfl (lv_at hl 0 rfl) ?_
  refine lv_if_le (tgt := 23) hx hb d_R_findAbove_13 (by decide) (fun c_6 => ?_) (fun c_6 => ?_)
  · have c_6 : (f_R_only b0 a9 (f_R_maximals b0 a0 a9 a10 p1 p2) p2) ≤ (0 : Int32) := c_6
    refine lv_aload_n hx hb d_R_findAbove_23 rfl (lv_at hl 1 rfl) ?_
    refine lv_iload_n hx hb d_R_findAbove_24 rfl (lv_at hl 2 rfl) ?_
    refine lv_iload_n hx hb d_R_findAbove_25 rfl (lv_at hl 3 rfl) ?_
    have hq_7 : vT b0 := by with_reducible assumption
    have hq_8 : vp_in p1 13 := by first | with_reducible assumption | exact rin_has hT (by with_reducible assumption)
    have hq_9 : vp_in p2 4 := by first | with_reducible assumption | exact jn_name (by with_reducible assumption)
    refine va_calli (va_runV (As := [.int p1, .int p2]) (rest := []) ⟨hx, hb, hml, hown, hts⟩ (c_R_candidates l dC dI ka qa H.size b0 b1 a0 a1 a2 a3 a4 a5 a6 a7 a8 a9 a10 a11 a12 p1 p2 hq_7 hq_8 hq_9) (cwV 2 hts k_g78 rfl rfl rfl (by decide +kernel) ⟨Nat.le_of_ble_eq_true rfl, Nat.le_of_ble_eq_true rfl⟩) ⟨fb_ro, va_recv hK hP (ci := 3) (q0 := 0) rfl rfl, fun U hU hW => ⟨rfl, by rw [hU], by rw [hU]; exact hP, va_K.moved hW.alike (hK), NX.warm hW hN⟩⟩ rfl rfl hl.1 rfl (lv_room (Nat.le_of_ble_eq_true rfl)) d_R_findAbove_26 ⟨Nat.zero_le _, Nat.zero_le _⟩) hS (fun z h1 h2 => absurd h1 (Nat.not_lt.mpr h2)) (fun z h => hA z (Nat.le_trans hS.1 h)) (fun r u t H1 locs ht hvm hpo hB hz1 hk1 hS => ?_)
    subst hpo
    have hP := kp_P hP hk1
    generalize H1 = H at hP hS ⊢
    refine lv_istore (lv' := [(4, .int (f_R_candidates b0 a0 a9 a10 p1 p2)), (3, .int (f_R_only b0 a9 (f_R_maximals b0 a0 a9 a10 p1 p2) p2)), (0, .ref (qa 0)), (1, .int p1), (2, .int p2)]) hx hb d_R_findAbove_29 hl (by decide) rfl (fun ls hl => ?_)
    refine lv_iconst (v := (0 : Int32)) hx hb d_R_findAbove_31 (by decide +kernel) ?_
    refine lv_istore (lv' := [(5, .int (0 : Int32)), (4, .int (f_R_candidates b0 a0 a9 a10 p1 p2)), (3, .int (f_R_only b0 a9 (f_R_maximals b0 a0 a9 a10 p1 p2) p2)), (0, .ref (qa 0)), (1, .int p1), (2, .int p2)]) hx hb d_R_findAbove_32 hl (by decide) rfl (fun ls hl => ?_)
    refine lv_aload_n hx hb d_R_findAbove_34 rfl (lv_at hl 3 rfl) ?_
    refine va_get (D := (dC, dI)) (ci := 3) (v := .int b0) (C := R_R) (T := F_R) (N := 15) hx hb hts i_R hown hK hP 0 rfl rfl 0 (by decide) (hts _ k_44) (fun _ h9 => h9) rfl d_R_findAbove_35 ?_
    refine lv_istore (lv' := [(6, .int b0), (5, .int (0 : Int32)), (4, .int (f_R_candidates b0 a0 a9 a10 p1 p2)), (3, .int (f_R_only b0 a9 (f_R_maximals b0 a0 a9 a10 p1 p2) p2)), (0, .ref (qa 0)), (1, .int p1), (2, .int p2)]) hx hb d_R_findAbove_38 hl (by decide) rfl (fun ls hl => ?_)
    have LOOP_40 : ∀ (n k : Nat) (x5 : Int32) (x6 : Int32) (yb1 : Int32) (H : Heap) (locs : List Loc) (ls : Array Slot), x6 = nI k → k + 1 ≤ n → k ≤ 12 → lr_R_findAbove_40 b0 a0 a9 a10 p1 p2  n x5 x6 yb1 = (f_R_findAbove b0 b1 a0 a9 a10 p1 p2) → lb1_R_findAbove_40 b0 a0 a9 a10 p1 p2  n x5 x6 yb1 = (s_R_findAbove_b1 b0 b1 a0 a9 a10 p1 p2) → va_P (dC, dI) classes (wR ka qa b0 yb1 a0 a1 a2 a3 a4 a5 a6 a7 a8 a9 a10 a11 a12) H → va_D A (wR ka qa b0 yb1 a0 a1 a2 a3 a4 a5 a6 a7 a8 a9 a10 a11 a12) → va_S A s.heap H locs → lv_has ls 7 [(5, .int x5), (6, .int x6), (4, .int (f_R_candidates b0 a0 a9 a10 p1 p2)), (3, .int (f_R_only b0 a9 (f_R_maximals b0 a0 a9 a10 p1 p2) p2)), (0, .ref (qa 0)), (1, .int p1), (2, .int p2)] → W p l e (headSpec w_R_findAbove ({ frames := 3, cells := 0, slots := 0, locals := 72 } : Room)).room s m ([.ref (qa 0), .int p1, .int p2] : List Value).toArray below meth c H locs 0 0 (MQ below (mu_Q (fun (S9 : Int32) => (wR ka qa b0 S9 a0 a1 a2 a3 a4 a5 a6 a7 a8 a9 a10 a11 a12)) dC dI (f_R_findAbove b0 b1 a0 a9 a10 p1 p2) ((s_R_findAbove_b1 b0 b1 a0 a9 a10 p1 p2)) (A)) ([.ref (qa 0), .int p1, .int p2] : List Value).toArray s 0 0 A) (F0 m 40 ls []) := by
      intro n
      induction n with
      | zero =>
        intro k x5 x6 yb1 H locs ls et h1 h2
        exfalso; omega
      | succ n ih =>
        intro k x5 x6 yb1 H locs ls et h1 h2 hF hG_b1 hP hD hS hl
        refine lv_iload hx hb d_R_findAbove_40 (lv_at hl 1 rfl) ?_
        refine lv_if_le (tgt := 78) hx hb d_R_findAbove_42 (by decide) (fun c_10 => ?_) (fun c_10 => ?_)
        · have c_10 : x6 ≤ (0 : Int32) := c_10
          refine lv_iload hx hb d_R_findAbove_78 (lv_at hl 0 rfl) ?_
          have hP9 : va_P (dC, dI) classes (wR ka qa b0 yb1 a0 a1 a2 a3 a4 a5 a6 a7 a8 a9 a10 a11 a12) H := hP
          exact W.iret (v := x5) hx hb hr (fun t ht hW => ⟨⟨x5, (yb1), rfl, ⟨by rw [← hF, lr_R_findAbove_40_s, if_pos c_10], (by rw [← hG_b1, lb1_R_findAbove_40_s, if_pos c_10])⟩, hp_at ht hP9⟩, hS.F ht⟩) hS.2.2 d_R_findAbove_80
        · have c_10 : ¬ (x6 ≤ (0 : Int32)) := c_10
          refine lv_iload hx hb d_R_findAbove_45 (lv_at hl 2 rfl) ?_
          refine lv_iload hx hb d_R_findAbove_47 (lv_at hl 1 rfl) ?_
          refine lv_ishr hx hb d_R_findAbove_49 ?_
          refine lv_iconst (v := (1 : Int32)) hx hb d_R_findAbove_50 (by decide +kernel) ?_
          refine lv_iand hx hb d_R_findAbove_51 ?_
          refine lv_if_ne (tgt := 58) hx hb d_R_findAbove_52 (by decide) (fun c_11 => ?_) (fun c_11 => ?_)
          · have c_11 : ¬ ((((f_R_candidates b0 a0 a9 a10 p1 p2) >>> (x6 &&& (31 : Int32))) &&& (1 : Int32)) = (0 : Int32)) := c_11
            refine lv_aload_n hx hb d_R_findAbove_58 rfl (lv_at hl 4 rfl) ?_
            refine lv_dup hx hb d_R_findAbove_59 rfl ?_
            refine va_get (D := (dC, dI)) (ci := 3) (v := .int yb1) (C := R_R) (T := F_R) (N := 15) hx hb hts i_R hown hK hP 0 rfl rfl 14 (by decide) (hts _ k_56) (fun _ h9 => h9) rfl d_R_findAbove_60 ?_
            refine lv_iconst (v := (1 : Int32)) hx hb d_R_findAbove_63 (by decide +kernel) ?_
            refine lv_iadd hx hb d_R_findAbove_64 ?_
            refine va_put (D := (dC, dI)) (ci := 3) (v := .int (yb1 + (1 : Int32))) (ty := .int) (C := R_R) (T := F_R) (N := 15) hx hb hts i_R t_R t_R_ok n_R hown hK hP hD hS 0 rfl rfl 14 (by decide) (hts _ k_56) (fun _ h9 => h9) rfl (by decide +kernel) rfl rfl (Nat.le_of_ble_eq_true rfl) d_R_findAbove_65 (fun H locs hP hD hS => ?_)
            have hP : va_P (dC, dI) classes (wR ka qa b0 (yb1 + (1 : Int32)) a0 a1 a2 a3 a4 a5 a6 a7 a8 a9 a10 a11 a12) H := hP
            have hD : va_D A (wR ka qa b0 (yb1 + (1 : Int32)) a0 a1 a2 a3 a4 a5 a6 a7 a8 a9 a10 a11 a12) := hD
            refine lv_iload hx hb d_R_findAbove_68 (lv_at hl 1 rfl) ?_
            refine lv_istore (lv' := [(5, .int x6), (6, .int x6), (4, .int (f_R_candidates b0 a0 a9 a10 p1 p2)), (3, .int (f_R_only b0 a9 (f_R_maximals b0 a0 a9 a10 p1 p2) p2)), (0, .ref (qa 0)), (1, .int p1), (2, .int p2)]) hx hb d_R_findAbove_70 hl (by decide) rfl (fun ls hl => ?_)
            refine lv_iinc (v := (x6 + (-1 : Int32))) (lv' := [(6, .int (x6 + (-1 : Int32))), (5, .int x6), (4, .int (f_R_candidates b0 a0 a9 a10 p1 p2)), (3, .int (f_R_only b0 a9 (f_R_maximals b0 a0 a9 a10 p1 p2) p2)), (0, .ref (qa 0)), (1, .int p1), (2, .int p2)]) hx hb d_R_findAbove_72 hl (k := 1) rfl (by rw [of_m1]) (by decide) rfl (fun ls hl => ?_)
            refine lv_goto (tgt := 40) hx hb d_R_findAbove_75 (by decide) ?_
            exact ih (k - 1) x6 (x6 + (-1 : Int32)) (yb1 + (1 : Int32)) _ _ _ (dz_et et h2 (by with_reducible assumption)) (dz_h1 et h2 h1 (by with_reducible assumption)) (by omega) (by rw [← hF, lr_R_findAbove_40_s, if_neg c_10, if_neg c_11]) (by rw [← hG_b1, lb1_R_findAbove_40_s, if_neg c_10, if_neg c_11]) hP hD hS (lv_sub hl [1, 0, 2, 3, 4, 5, 6] rfl)
          · have c_11 : (((f_R_candidates b0 a0 a9 a10 p1 p2) >>> (x6 &&& (31 : Int32))) &&& (1 : Int32)) = (0 : Int32) := c_11
            refine lv_goto (tgt := 72) hx hb d_R_findAbove_55 (by decide) ?_
            refine lv_iinc (v := (x6 + (-1 : Int32))) (lv' := [(6, .int (x6 + (-1 : Int32))), (5, .int x5), (4, .int (f_R_candidates b0 a0 a9 a10 p1 p2)), (3, .int (f_R_only b0 a9 (f_R_maximals b0 a0 a9 a10 p1 p2) p2)), (0, .ref (qa 0)), (1, .int p1), (2, .int p2)]) hx hb d_R_findAbove_72 hl (k := 1) rfl (by rw [of_m1]) (by decide) rfl (fun ls hl => ?_)
            refine lv_goto (tgt := 40) hx hb d_R_findAbove_75 (by decide) ?_
            exact ih (k - 1) x5 (x6 + (-1 : Int32)) yb1 _ _ _ (dz_et et h2 (by with_reducible assumption)) (dz_h1 et h2 h1 (by with_reducible assumption)) (by omega) (by rw [← hF, lr_R_findAbove_40_s, if_neg c_10, if_pos c_11]) (by rw [← hG_b1, lb1_R_findAbove_40_s, if_neg c_10, if_pos c_11]) hP hD hS (lv_sub hl [1, 0, 2, 3, 4, 5, 6] rfl)
    exact LOOP_40 14 b0.toNatClampNeg (0 : Int32) b0 b1 _ _ _ (in_k (vT_in hT)) (by have := Nat.le_of_lt_succ (in_lt (vT_in hT)); omega) (Nat.le_of_lt_succ (in_lt (vT_in hT))) (by unfold f_R_findAbove; rw [if_pos c_6]) (by unfold s_R_findAbove_b1; rw [if_pos c_6]) hP hD hS (lv_sub hl [1, 0, 2, 3, 4, 5, 6] rfl)
  · have c_6 : ¬ ((f_R_only b0 a9 (f_R_maximals b0 a0 a9 a10 p1 p2) p2) ≤ (0 : Int32)) := c_6
    refine lv_aload_n hx hb d_R_findAbove_16 rfl (lv_at hl 1 rfl) ?_
    refine lv_iconst (v := (1 : Int32)) hx hb d_R_findAbove_17 (by decide +kernel) ?_
    refine va_put (D := (dC, dI)) (ci := 3) (v := .int (1 : Int32)) (ty := .int) (C := R_R) (T := F_R) (N := 15) hx hb hts i_R t_R t_R_ok n_R hown hK hP hD hS 0 rfl rfl 14 (by decide) (hts _ k_56) (fun _ h9 => h9) rfl (by decide +kernel) rfl rfl (Nat.le_of_ble_eq_true rfl) d_R_findAbove_18 (fun H locs hP hD hS => ?_)
    have hP : va_P (dC, dI) classes (wR ka qa b0 (1 : Int32) a0 a1 a2 a3 a4 a5 a6 a7 a8 a9 a10 a11 a12) H := hP
    have hD : va_D A (wR ka qa b0 (1 : Int32) a0 a1 a2 a3 a4 a5 a6 a7 a8 a9 a10 a11 a12) := hD
    refine lv_iload_n hx hb d_R_findAbove_21 rfl (lv_at hl 0 rfl) ?_
    have hP9 : va_P (dC, dI) classes (wR ka qa b0 (1 : Int32) a0 a1 a2 a3 a4 a5 a6 a7 a8 a9 a10 a11 a12) H := hP
    exact W.iret (v := (f_R_only b0 a9 (f_R_maximals b0 a0 a9 a10 p1 p2) p2)) hx hb hr (fun t ht hW => ⟨⟨(f_R_only b0 a9 (f_R_maximals b0 a0 a9 a10 p1 p2) p2), ((1 : Int32)), rfl, ⟨by unfold f_R_findAbove; rw [if_neg c_6], (by unfold s_R_findAbove_b1; rw [if_neg c_6])⟩, hp_at ht hP9⟩, hS.F ht⟩) hS.2.2 d_R_findAbove_22
