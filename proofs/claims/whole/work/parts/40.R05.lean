set_option maxHeartbeats 1000000 in
set_option maxRecDepth 100000 in
theorem c_R_selected (l : Launch) (dC : Nat → ClassId) (dI : Nat → Nat → Nat) (ka : Nat → ClassId) (qa : Nat → Nat) (sz : Nat) (b0 b1 : Int32) (a0 a1 a2 a3 a4 a5 a6 a7 a8 a9 a10 a11 a12 : Nat → Int32) (p1 p2 p3 : Int32) (hT : vT b0) (hpa : vPar a4) (hdi : vDir a6) (hdc : vDc a7) (hp1 : vp_in p1 13) (hp2 : vp_in p2 13) (hp3 : vp_in p3 4) : Met l y_R_selected w_R_selected ({ frames := 3, cells := 0, slots := 0, locals := 72 } : Room) (mu_P dC dI (wR ka qa b0 b1 a0 a1 a2 a3 a4 a5 a6 a7 a8 a9 a10 a11 a12) (tR ka) sz [.ref (qa 0), .int p1, .int p2, .int p3]) (mu_Q (fun (S9 : (Nat → Int32) × (Nat → Int32)) => (wR ka qa b0 b1 a0 a1 a2 a3 a4 a5 a6 a7 a8 a9 S9.1 S9.2 a12)) dC dI (f_R_selected b0 a0 a3 a4 a6 a7 a9 a10 a11 p1 p2 p3) ((s_R_selected_a10 b0 a0 a3 a4 a6 a7 a9 a10 a11 p1 p2 p3), (s_R_selected_a11 b0 a0 a3 a4 a6 a7 a9 a10 a11 p1 p2 p3)) (va_A (wR ka qa b0 b1 a0 a1 a2 a3 a4 a5 a6 a7 a8 a9 a10 a11 a12) sz)) 0 0 (va_A (wR ka qa b0 b1 a0 a1 a2 a3 a4 a5 a6 a7 a8 a9 a10 a11 a12) sz) := by
  refine Met.ofW (cc := b_R_selected) (maxL := 5) (ret := (some .int)) (by decide) rfl ?_
  intro p e s m args below meth c s₁ B hml hv
  obtain ⟨rfl, hsz, hP, hK, hN, hD0⟩ := hv
  have hx := B.exec
  have hb := B.bytes
  have hr := B.returns
  have hts := tl_of (atoms_spec (ws := w_R_selected) B.pre)
  have hown : s.vm.findClass R_R = some m.cls := findClass_of_methodNamed B.named
  have hlocks := B.notSynchronized
  subst hsz
  have hD := hD0.self (sz := s.heap.size)
  generalize hAe : va_A (wR ka qa b0 b1 a0 a1 a2 a3 a4 a5 a6 a7 a8 a9 a10 a11 a12) s.heap.size = A at hD ⊢
  have hA : ∀ q : Nat, s.heap.size ≤ q → A q := fun q h => by rw [← hAe]; exact Or.inr h
  have hS : va_S A s.heap s.heap [] := va_S.rf
  have hl := lv_entry ([.ref (qa 0), .int p1, .int p2, .int p3]) (n := 5) (Nat.le_of_ble_eq_true rfl)
  rw [lg_entry_eq]
  generalize (lg_sl ([.ref (qa 0), .int p1, .int p2, .int p3]) ++ List.replicate (5 - (lg_sl ([.ref (qa 0), .int p1, .int p2, .int p3])).length) Slot.unset).toArray = ls at hl ⊢
  have hl : lv_has ls 5 [(0, .ref (qa 0)), (1, .int p1), (2, .int p2), (3, .int p3)] := hl
  refine lv_aload_n hx hb d_R_selected_0 rfl (lv_at hl 0 rfl) ?_
  refine lv_iload_n hx hb d_R_selected_1 rfl (lv_at hl 2 rfl) ?_
  refine lv_iload_n hx hb d_R_selected_2 rfl (lv_at hl 3 rfl) ?_
  have hq_1 : vp_in p2 13 := by first | with_reducible assumption | exact rin_has hT (by with_reducible assumption)
  have hq_2 : vp_in p3 4 := by first | with_reducible assumption | exact jn_name (by with_reducible assumption)
  refine va_calli (va_runV (As := [.int p2, .int p3]) (rest := []) ⟨hx, hb, hml, hown, hts⟩ (c_R_isPrivate l dC dI ka qa s.heap.size b0 b1 a0 a1 a2 a3 a4 a5 a6 a7 a8 a9 a10 a11 a12 p2 p3 hq_1 hq_2) (cwV 2 hts k_g75 rfl rfl rfl (by decide +kernel) ⟨Nat.le_of_ble_eq_true rfl, Nat.le_of_ble_eq_true rfl⟩) ⟨fb_ro, va_recv hK hP (ci := 3) (q0 := 0) rfl rfl, fun U hU hW => ⟨rfl, by rw [hU], by rw [hU]; exact hP, va_K.moved hW.alike (hK), NX.warm hW hN⟩⟩ rfl rfl hl.1 rfl (lv_room (Nat.le_of_ble_eq_true rfl)) d_R_selected_3 ⟨Nat.zero_le _, Nat.zero_le _⟩) hS (fun z h1 h2 => absurd h1 (Nat.not_lt.mpr h2)) (fun z h => hA z (Nat.le_trans hS.1 h)) (fun r u t H1 locs ht hvm hpo hB hz1 hk1 hS => ?_)
  subst hpo
  have hP := kp_P hP hk1
  generalize H1 = H at hP hS ⊢
  refine lv_if_eq (tgt := 11) hx hb d_R_selected_6 (by decide) (fun c_3 => ?_) (fun c_3 => ?_)
  · have c_3 : (f_R_isPrivate a9 p2 p3) = (0 : Int32) := c_3
    refine lv_aload_n hx hb d_R_selected_11 rfl (lv_at hl 0 rfl) ?_
    refine lv_iload_n hx hb d_R_selected_12 rfl (lv_at hl 3 rfl) ?_
    have hq_4 : vT b0 := by with_reducible assumption
    have hq_5 : vPar a4 := by with_reducible assumption
    have hq_6 : vDir a6 := by with_reducible assumption
    have hq_7 : vDc a7 := by with_reducible assumption
    have hq_8 : vp_in p3 4 := by first | with_reducible assumption | exact jn_name (by with_reducible assumption)
    have hFc := va_free (wc := (wR ka qa b0 b1 a0 a1 a2 a3 a4 a5 a6 a7 a8 a9 a10 a11 a12)) hD hS hA [0, 1, 2, 3, 4, 5, 6, 7, 8, 9, 10, 11, 12, 13] rfl
    refine va_callv (va_runV (As := [.int p3]) (rest := []) ⟨hx, hb, hml, hown, hts⟩ (c_R_fillCan l dC dI ka qa H.size b0 b1 a0 a1 a2 a3 a4 a5 a6 a7 a8 a9 a10 a11 a12 p3 hq_4 hq_5 hq_6 hq_7 hq_8) (cwV 1 hts k_g83 rfl rfl rfl (by decide +kernel) ⟨Nat.le_of_ble_eq_true rfl, Nat.le_of_ble_eq_true rfl⟩) ⟨fb_mu, va_recv hK hP (ci := 3) (q0 := 0) rfl rfl, fun U hU hW => ⟨rfl, by rw [hU], by rw [hU]; exact hP, va_K.moved hW.alike hK, NX.warm hW hN, hD.weaken (fun _ _ _ _ => trivial)⟩⟩ rfl rfl hl.1 rfl (lv_room (Nat.le_of_ble_eq_true rfl)) d_R_selected_13 ⟨Nat.zero_le _, Nat.zero_le _⟩) hS (fun q _ h => hFc q h) hFc (fun u t H1 locs ht hvm hpo hB hz1 hk1 hS => ?_)
    subst hpo
    have hP : va_P (dC, dI) classes (wR ka qa b0 b1 a0 a1 a2 a3 a4 a5 a6 a7 a8 a9 (s_R_fillCan_a10 b0 a3 a4 a6 a7 a9 a10 a11 p3) (s_R_fillCan_a11 b0 a3 a4 a6 a7 a9 a10 a11 p3) a12) H1 := hp_to ht hB
    have hD : va_D A (wR ka qa b0 b1 a0 a1 a2 a3 a4 a5 a6 a7 a8 a9 (s_R_fillCan_a10 b0 a3 a4 a6 a7 a9 a10 a11 p3) (s_R_fillCan_a11 b0 a3 a4 a6 a7 a9 a10 a11 p3) a12) := ad_R hD
    generalize hg_9 : (s_R_fillCan_a10 b0 a3 a4 a6 a7 a9 a10 a11 p3) = g_9 at hP hD
    generalize hg_10 : (s_R_fillCan_a11 b0 a3 a4 a6 a7 a9 a10 a11 p3) = g_10 at hP hD
    generalize H1 = H at hP hS ⊢
    refine lv_iload_n hx hb d_R_selected_16 rfl (lv_at hl 1 rfl) ?_
    refine lv_istore (lv' := [(4, .int p1), (0, .ref (qa 0)), (1, .int p1), (2, .int p2), (3, .int p3)]) hx hb d_R_selected_17 hl (by decide) rfl (fun ls hl => ?_)
    have LOOP_19 : ∀ (n k : Nat) (x4 : Int32) (H : Heap) (locs : List Loc) (ls : Array Slot), x4 = nI k → k + 1 ≤ n → k ≤ 12 → lr_R_selected_19 b0 a0 a3 a4 a6 a7 a9 a10 a11 p1 p2 p3  n x4 = (f_R_selected b0 a0 a3 a4 a6 a7 a9 a10 a11 p1 p2 p3) → la10_R_selected_19 b0 a0 a3 a4 a6 a7 a9 a10 a11 p1 p2 p3  n x4 = (s_R_selected_a10 b0 a0 a3 a4 a6 a7 a9 a10 a11 p1 p2 p3) → la11_R_selected_19 b0 a0 a3 a4 a6 a7 a9 a10 a11 p1 p2 p3  n x4 = (s_R_selected_a11 b0 a0 a3 a4 a6 a7 a9 a10 a11 p1 p2 p3) → va_P (dC, dI) classes (wR ka qa b0 b1 a0 a1 a2 a3 a4 a5 a6 a7 a8 a9 g_9 g_10 a12) H → va_D A (wR ka qa b0 b1 a0 a1 a2 a3 a4 a5 a6 a7 a8 a9 g_9 g_10 a12) → va_S A s.heap H locs → lv_has ls 5 [(4, .int x4), (0, .ref (qa 0)), (1, .int p1), (2, .int p2), (3, .int p3)] → W p l e (headSpec w_R_selected ({ frames := 3, cells := 0, slots := 0, locals := 72 } : Room)).room s m ([.ref (qa 0), .int p1, .int p2, .int p3] : List Value).toArray below meth c H locs 0 0 (MQ below (mu_Q (fun (S9 : (Nat → Int32) × (Nat → Int32)) => (wR ka qa b0 b1 a0 a1 a2 a3 a4 a5 a6 a7 a8 a9 S9.1 S9.2 a12)) dC dI (f_R_selected b0 a0 a3 a4 a6 a7 a9 a10 a11 p1 p2 p3) ((s_R_selected_a10 b0 a0 a3 a4 a6 a7 a9 a10 a11 p1 p2 p3), (s_R_selected_a11 b0 a0 a3 a4 a6 a7 a9 a10 a11 p1 p2 p3)) (A)) ([.ref (qa 0), .int p1, .int p2, .int p3] : List Value).toArray s 0 0 A) (F0 m 19 ls []) := by
      intro n
      induction n with
      | zero =>
        intro k x4 H locs ls et h1 h2
        exfalso; omega
      | succ n ih =>
        intro k x4 H locs ls et h1 h2 hF hG_a10 hG_a11 hP hD hS hl
        refine lv_iload hx hb d_R_selected_19 (lv_at hl 0 rfl) ?_
        refine lv_if_le (tgt := 54) hx hb d_R_selected_21 (by decide) (fun c_11 => ?_) (fun c_11 => ?_)
        · have c_11 : x4 ≤ (0 : Int32) := c_11
          refine lv_aload_n hx hb d_R_selected_54 rfl (lv_at hl 1 rfl) ?_
          refine lv_aload_n hx hb d_R_selected_55 rfl (lv_at hl 1 rfl) ?_
          refine lv_iload_n hx hb d_R_selected_56 rfl (lv_at hl 2 rfl) ?_
          refine lv_iload_n hx hb d_R_selected_57 rfl (lv_at hl 4 rfl) ?_
          have hq_12 : vT b0 := by with_reducible assumption
          have hq_13 : vp_in p1 13 := by first | with_reducible assumption | exact rin_has hT (by with_reducible assumption)
          have hq_14 : vp_in p3 4 := by first | with_reducible assumption | exact jn_name (by with_reducible assumption)
          refine va_calli (va_runV (As := [.int p1, .int p3]) (rest := [.ref (qa 0)]) ⟨hx, hb, hml, hown, hts⟩ (c_R_maximals l dC dI ka qa H.size b0 b1 a0 a1 a2 a3 a4 a5 a6 a7 a8 a9 g_9 g_10 a12 p1 p3 hq_12 hq_13 hq_14) (cwV 2 hts k_g79 rfl rfl rfl (by decide +kernel) ⟨Nat.le_of_ble_eq_true rfl, Nat.le_of_ble_eq_true rfl⟩) ⟨fb_ro, va_recv hK hP (ci := 3) (q0 := 0) rfl rfl, fun U hU hW => ⟨rfl, by rw [hU], by rw [hU]; exact hP, va_K.moved hW.alike (hK), NX.warm hW hN⟩⟩ rfl rfl hl.1 rfl (lv_room (Nat.le_of_ble_eq_true rfl)) d_R_selected_58 ⟨Nat.zero_le _, Nat.zero_le _⟩) hS (fun z h1 h2 => absurd h1 (Nat.not_lt.mpr h2)) (fun z h => hA z (Nat.le_trans hS.1 h)) (fun r u t H1 locs ht hvm hpo hB hz1 hk1 hS => ?_)
          subst hpo
          have hP := kp_P hP hk1
          generalize H1 = H at hP hS ⊢
          refine lv_iload_n hx hb d_R_selected_61 rfl (lv_at hl 4 rfl) ?_
          have hq_15 : vT b0 := by with_reducible assumption
          have hq_16 : vp_in p3 4 := by first | with_reducible assumption | exact jn_name (by with_reducible assumption)
          refine va_calli (va_runV (As := [.int (f_R_maximals b0 a0 a9 g_9 p1 p3), .int p3]) (rest := []) ⟨hx, hb, hml, hown, hts⟩ (c_R_coded l dC dI ka qa H.size b0 b1 a0 a1 a2 a3 a4 a5 a6 a7 a8 a9 g_9 g_10 a12 (f_R_maximals b0 a0 a9 g_9 p1 p3) p3 hq_15 hq_16) (cwV 2 hts k_g84 rfl rfl rfl (by decide +kernel) ⟨Nat.le_of_ble_eq_true rfl, Nat.le_of_ble_eq_true rfl⟩) ⟨fb_ro, va_recv hK hP (ci := 3) (q0 := 0) rfl rfl, fun U hU hW => ⟨rfl, by rw [hU], by rw [hU]; exact hP, va_K.moved hW.alike (hK), NX.warm hW hN⟩⟩ rfl rfl hl.1 rfl (lv_room (Nat.le_of_ble_eq_true rfl)) d_R_selected_62 ⟨Nat.zero_le _, Nat.zero_le _⟩) hS (fun z h1 h2 => absurd h1 (Nat.not_lt.mpr h2)) (fun z h => hA z (Nat.le_trans hS.1 h)) (fun r u t H1 locs ht hvm hpo hB hz1 hk1 hS => ?_)
          subst hpo
          have hP := kp_P hP hk1
          generalize H1 = H at hP hS ⊢
          have hP9 : va_P (dC, dI) classes (wR ka qa b0 b1 a0 a1 a2 a3 a4 a5 a6 a7 a8 a9 g_9 g_10 a12) H := hP
          exact W.iret (v := (f_R_coded b0 a9 (f_R_maximals b0 a0 a9 g_9 p1 p3) p3)) hx hb hr (fun t ht hW => ⟨⟨(f_R_coded b0 a9 (f_R_maximals b0 a0 a9 g_9 p1 p3) p3), (g_9, g_10), rfl, ⟨by subst hg_9; subst hg_10; rw [← hF, lr_R_selected_19_s, if_pos c_11], (pr2 (by subst hg_9; subst hg_10; rw [← hG_a10, la10_R_selected_19_s, if_pos c_11]) (by subst hg_9; subst hg_10; rw [← hG_a11, la11_R_selected_19_s, if_pos c_11]))⟩, hp_at ht hP9⟩, hS.F ht⟩) hS.2.2 d_R_selected_65
        · have c_11 : ¬ (x4 ≤ (0 : Int32)) := c_11
          refine lv_aload_n hx hb d_R_selected_24 rfl (lv_at hl 1 rfl) ?_
          refine va_get (D := (dC, dI)) (ci := 3) (v := .ref (qa 12)) (C := R_R) (T := F_R) (N := 15) hx hb hts i_R hown hK hP 0 rfl rfl 12 (by decide) (hts _ k_57) (fun _ h9 => h9) rfl d_R_selected_25 ?_
          refine lv_bipush (v := (13 : Int32)) hx hb d_R_selected_28 (by decide +kernel) ?_
          refine lv_iload hx hb d_R_selected_30 (lv_at hl 0 rfl) ?_
          refine lv_imul hx hb d_R_selected_32 ?_
          refine lv_iload_n hx hb d_R_selected_33 rfl (lv_at hl 3 rfl) ?_
          refine lv_iadd hx hb d_R_selected_34 ?_
          have hi_17 : vp_in (((13 : Int32) * x4) + p2) 169 := by exact jn_169 (by first | with_reducible assumption | exact in_et et (leT hT et h2 (by with_reducible assumption)) | exact in_et et h2 | exact in_et eu (leT hT eu u2 (by with_reducible assumption)) | exact in_et eu u2) (by first | with_reducible assumption | exact rin_has hT (by with_reducible assumption))
          refine va_zald (D := (dC, dI)) (f := g_10) hx hb hK hP 12 11 rfl rfl hi_17 d_R_selected_35 ?_
          refine lv_if_eq (tgt := 42) hx hb d_R_selected_36 (by decide) (fun c_18 => ?_) (fun c_18 => ?_)
          · have c_18 : (g_10 (((13 : Int32) * x4) + p2).toNatClampNeg) = (0 : Int32) := c_18
            refine lv_aload_n hx hb d_R_selected_42 rfl (lv_at hl 1 rfl) ?_
            refine va_get (D := (dC, dI)) (ci := 3) (v := .ref (qa 5)) (C := R_R) (T := F_R) (N := 15) hx hb hts i_R hown hK hP 0 rfl rfl 5 (by decide) (hts _ k_50) (fun _ h9 => h9) rfl d_R_selected_43 ?_
            refine lv_iload hx hb d_R_selected_46 (lv_at hl 0 rfl) ?_
            have hi_19 : vp_in x4 13 := by first | with_reducible assumption | exact in_et et (leT hT et h2 (by with_reducible assumption)) | exact in_et et h2 | exact in_et eu (leT hT eu u2 (by with_reducible assumption)) | exact in_et eu u2
            refine va_iald (D := (dC, dI)) (f := a4) hx hb hK hP 5 4 rfl rfl hi_19 d_R_selected_48 ?_
            refine lv_istore (lv' := [(4, .int (a4 x4.toNatClampNeg)), (0, .ref (qa 0)), (1, .int p1), (2, .int p2), (3, .int p3)]) hx hb d_R_selected_49 hl (by decide) rfl (fun ls hl => ?_)
            refine lv_goto (tgt := 19) hx hb d_R_selected_51 (by decide) ?_
            exact ih ((a4 x4.toNatClampNeg).toNatClampNeg) (a4 x4.toNatClampNeg) _ _ _ (par_et hpa (in_et et h2)) (par_h1 hpa et h2 h1 (by with_reducible assumption)) (par_h2 hpa (in_et et h2)) (by subst hg_9; subst hg_10; rw [← hF, lr_R_selected_19_s, if_neg c_11, if_pos c_18]) (by subst hg_9; subst hg_10; rw [← hG_a10, la10_R_selected_19_s, if_neg c_11, if_pos c_18]) (by subst hg_9; subst hg_10; rw [← hG_a11, la11_R_selected_19_s, if_neg c_11, if_pos c_18]) hP hD hS (lv_sub hl [0, 1, 2, 3, 4] rfl)
          · have c_18 : ¬ ((g_10 (((13 : Int32) * x4) + p2).toNatClampNeg) = (0 : Int32)) := c_18
            refine lv_iload hx hb d_R_selected_39 (lv_at hl 0 rfl) ?_
            have hP9 : va_P (dC, dI) classes (wR ka qa b0 b1 a0 a1 a2 a3 a4 a5 a6 a7 a8 a9 g_9 g_10 a12) H := hP
            exact W.iret (v := x4) hx hb hr (fun t ht hW => ⟨⟨x4, (g_9, g_10), rfl, ⟨by subst hg_9; subst hg_10; rw [← hF, lr_R_selected_19_s, if_neg c_11, if_neg c_18], (pr2 (by subst hg_9; subst hg_10; rw [← hG_a10, la10_R_selected_19_s, if_neg c_11, if_neg c_18]) (by subst hg_9; subst hg_10; rw [← hG_a11, la11_R_selected_19_s, if_neg c_11, if_neg c_18]))⟩, hp_at ht hP9⟩, hS.F ht⟩) hS.2.2 d_R_selected_41
    exact LOOP_19 14 p1.toNatClampNeg p1 _ _ _ (in_k hp1) (by have := Nat.le_of_lt_succ (in_lt hp1); omega) (Nat.le_of_lt_succ (in_lt hp1)) (by subst hg_9; subst hg_10; unfold f_R_selected; rw [if_pos c_3]) (by subst hg_9; subst hg_10; unfold s_R_selected_a10; rw [if_pos c_3]) (by subst hg_9; subst hg_10; unfold s_R_selected_a11; rw [if_pos c_3]) hP hD hS (lv_sub hl [0, 1, 2, 3, 4] rfl)
  · have c_3 : ¬ ((f_R_isPrivate a9 p2 p3) = (0 : Int32)) := c_3
    refine lv_iload_n hx hb d_R_selected_9 rfl (lv_at hl 2 rfl) ?_
    have hP9 : va_P (dC, dI) classes (wR ka qa b0 b1 a0 a1 a2 a3 a4 a5 a6 a7 a8 a9 a10 a11 a12) H := hP
    exact W.iret (v := p2) hx hb hr (fun t ht hW => ⟨⟨p2, (a10, a11), rfl, ⟨by unfold f_R_selected; rw [if_neg c_3], (pr2 (by unfold s_R_selected_a10; rw [if_neg c_3]) (by unfold s_R_selected_a11; rw [if_neg c_3]))⟩, hp_at ht hP9⟩, hS.F ht⟩) hS.2.2 d_R_selected_10
