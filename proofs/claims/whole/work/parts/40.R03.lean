set_option maxHeartbeats 1000000 in
set_option maxRecDepth 100000 in
theorem c_R_findMethod (l : Launch) (dC : Nat → ClassId) (dI : Nat → Nat → Nat) (ka : Nat → ClassId) (qa : Nat → Nat) (sz : Nat) (b0 b1 : Int32) (a0 a1 a2 a3 a4 a5 a6 a7 a8 a9 a10 a11 a12 : Nat → Int32) (p1 p2 p3 : Int32) (hT : vT b0) (hpa : vPar a4) (hp2 : vp_in p2 13) (hp3 : vp_in p3 4) : Met l y_R_findMethod w_R_findMethod ({ frames := 4, cells := 0, slots := 0, locals := 98 } : Room) (mu_P dC dI (wR ka qa b0 b1 a0 a1 a2 a3 a4 a5 a6 a7 a8 a9 a10 a11 a12) (tR ka) sz [.ref (qa 0), .int p1, .int p2, .int p3]) (mu_Q (fun (S9 : Int32) => (wR ka qa b0 S9 a0 a1 a2 a3 a4 a5 a6 a7 a8 a9 a10 a11 a12)) dC dI (f_R_findMethod b0 b1 a0 a4 a9 a10 p1 p2 p3) ((s_R_findMethod_b1 b0 b1 a0 a4 a9 a10 p1 p2 p3)) (va_A (wR ka qa b0 b1 a0 a1 a2 a3 a4 a5 a6 a7 a8 a9 a10 a11 a12) sz)) 0 0 (va_A (wR ka qa b0 b1 a0 a1 a2 a3 a4 a5 a6 a7 a8 a9 a10 a11 a12) sz) := by
  refine Met.ofW (cc := b_R_findMethod) (maxL := 5) (ret := (some .int)) (by decide) rfl ?_
  intro p e s m args below meth c s₁ B hml hv
  obtain ⟨rfl, hsz, hP, hK, hN, hD0⟩ := hv
  have hx := B.exec
  have hb := B.bytes
  have hr := B.returns
  have hts := tl_of (atoms_spec (ws := w_R_findMethod) B.pre)
  have hown : s.vm.findClass R_R = some m.cls := findClass_of_methodNamed B.named
  have hlocks := B.notSynchronized
  subst hsz
  have hD := hD0.self (sz := s.heap.size)
  generalize hAe : va_A (wR ka qa b0 b1 a0 a1 a2 a3 a4 a5 a6 a7 a8 a9 a10 a11 a12) s.heap.size = A at hD ⊢
  have hA : ∀ q : Nat, s.heap.size ≤ q → A q := fun q h => by rw [← hAe]; exact Or.inr h
  have hS : va_S A s.heap s.heap [] := va_S.rf
  have hl := lv_entry ([.ref (qa 0), .int p1, .int p2, .int p3]) (n := 5) (Nat.le_of_ble_eq_true rfl)
  rw [lg_entry_eq]
  generalize (lg_sl ([.ref (qa 0), .int p1, .int p2, .int p3]) ++ List.replicate (5 - (lg_sl ([.ref (qa 0), .int p1, .int p2, .int p3])).length) Slot.unset).toArray = ls at hl ⊢
  have hl : lv_has ls 5 [(0, .ref (qa 0)), (1, .int p1), (2, .int p2), (3, .int p3)] := hl
  refine lv_iload_n hx hb d_R_findMethod_0 rfl (lv_at hl 2 rfl) ?_
  refine lv_istore (lv' := [(4, .int p2), (0, .ref (qa 0)), (1, .int p1), (2, .int p2), (3, .int p3)]) hx hb d_R_findMethod_1 hl (by decide) rfl (fun ls hl => ?_)
  have LOOP_3 : ∀ (n k : Nat) (x4 : Int32) (H : Heap) (locs : List Loc) (ls : Array Slot), x4 = nI k → k + 1 ≤ n → k ≤ 12 → lr_R_findMethod_3 b0 b1 a0 a4 a9 a10 p1 p2 p3  n x4 = (f_R_findMethod b0 b1 a0 a4 a9 a10 p1 p2 p3) → lb1_R_findMethod_3 b0 b1 a0 a4 a9 a10 p1 p2 p3  n x4 = (s_R_findMethod_b1 b0 b1 a0 a4 a9 a10 p1 p2 p3) → va_P (dC, dI) classes (wR ka qa b0 b1 a0 a1 a2 a3 a4 a5 a6 a7 a8 a9 a10 a11 a12) H → va_D A (wR ka qa b0 b1 a0 a1 a2 a3 a4 a5 a6 a7 a8 a9 a10 a11 a12) → va_S A s.heap H locs → lv_has ls 5 [(4, .int x4), (0, .ref (qa 0)), (1, .int p1), (2, .int p2), (3, .int p3)] → W p l e (headSpec w_R_findMethod ({ frames := 4, cells := 0, slots := 0, locals := 98 } : Room)).room s m ([.ref (qa 0), .int p1, .int p2, .int p3] : List Value).toArray below meth c H locs 0 0 (MQ below (mu_Q (fun (S9 : Int32) => (wR ka qa b0 S9 a0 a1 a2 a3 a4 a5 a6 a7 a8 a9 a10 a11 a12)) dC dI (f_R_findMethod b0 b1 a0 a4 a9 a10 p1 p2 p3) ((s_R_findMethod_b1 b0 b1 a0 a4 a9 a10 p1 p2 p3)) (A)) ([.ref (qa 0), .int p1, .int p2, .int p3] : List Value).toArray s 0 0 A) (F0 m 3 ls []) := by
    intro n
    induction n with
    | zero =>
      intro k x4 H locs ls et h1 h2
      exfalso; omega
    | succ n ih =>
      intro k x4 H locs ls et h1 h2 hF hG_b1 hP hD hS hl
      refine lv_iload hx hb d_R_findMethod_3 (lv_at hl 0 rfl) ?_
      refine lv_if_le (tgt := 50) hx hb d_R_findMethod_5 (by decide) (fun c_1 => ?_) (fun c_1 => ?_)
      · have c_1 : x4 ≤ (0 : Int32) := c_1
        refine lv_aload_n hx hb d_R_findMethod_50 rfl (lv_at hl 1 rfl) ?_
        refine lv_iload_n hx hb d_R_findMethod_51 rfl (lv_at hl 3 rfl) ?_
        refine lv_iload_n hx hb d_R_findMethod_52 rfl (lv_at hl 4 rfl) ?_
        have hq_2 : vT b0 := by with_reducible assumption
        have hq_3 : vp_in p2 13 := by first | with_reducible assumption | exact rin_has hT (by with_reducible assumption)
        have hq_4 : vp_in p3 4 := by first | with_reducible assumption | exact jn_name (by with_reducible assumption)
        have hFc := va_free (wc := (wR ka qa b0 b1 a0 a1 a2 a3 a4 a5 a6 a7 a8 a9 a10 a11 a12)) hD hS hA [0, 1, 2, 3, 4, 5, 6, 7, 8, 9, 10, 11, 12, 13] rfl
        refine va_calli (va_runV (As := [.int p2, .int p3]) (rest := []) ⟨hx, hb, hml, hown, hts⟩ (c_R_findAbove l dC dI ka qa H.size b0 b1 a0 a1 a2 a3 a4 a5 a6 a7 a8 a9 a10 a11 a12 p2 p3 hq_2 hq_3 hq_4) (cwV 2 hts k_g80 rfl rfl rfl (by decide +kernel) ⟨Nat.le_of_ble_eq_true rfl, Nat.le_of_ble_eq_true rfl⟩) ⟨fb_mu, va_recv hK hP (ci := 3) (q0 := 0) rfl rfl, fun U hU hW => ⟨rfl, by rw [hU], by rw [hU]; exact hP, va_K.moved hW.alike hK, NX.warm hW hN, hD.weaken (fun _ _ _ _ => trivial)⟩⟩ rfl rfl hl.1 rfl (lv_room (Nat.le_of_ble_eq_true rfl)) d_R_findMethod_53 ⟨Nat.zero_le _, Nat.zero_le _⟩) hS (fun q _ h => hFc q h) hFc (fun r u t H1 locs ht hvm hpo hB hz1 hk1 hS => ?_)
        obtain ⟨rfl, rfl⟩ := hpo
        have hP : va_P (dC, dI) classes (wR ka qa b0 (s_R_findAbove_b1 b0 b1 a0 a9 a10 p2 p3) a0 a1 a2 a3 a4 a5 a6 a7 a8 a9 a10 a11 a12) H1 := hp_to ht hB
        have hD : va_D A (wR ka qa b0 (s_R_findAbove_b1 b0 b1 a0 a9 a10 p2 p3) a0 a1 a2 a3 a4 a5 a6 a7 a8 a9 a10 a11 a12) := ad_R hD
        generalize hg_5 : (s_R_findAbove_b1 b0 b1 a0 a9 a10 p2 p3) = g_5 at hP hD
        generalize H1 = H at hP hS ⊢
        have hP9 : va_P (dC, dI) classes (wR ka qa b0 g_5 a0 a1 a2 a3 a4 a5 a6 a7 a8 a9 a10 a11 a12) H := hP
        exact W.iret (v := (f_R_findAbove b0 b1 a0 a9 a10 p2 p3)) hx hb hr (fun t ht hW => ⟨⟨(f_R_findAbove b0 b1 a0 a9 a10 p2 p3), (g_5), rfl, ⟨by subst hg_5; rw [← hF, lr_R_findMethod_3_s, if_pos c_1], (by subst hg_5; rw [← hG_b1, lb1_R_findMethod_3_s, if_pos c_1])⟩, hp_at ht hP9⟩, hS.F ht⟩) hS.2.2 d_R_findMethod_56
      · have c_1 : ¬ (x4 ≤ (0 : Int32)) := c_1
        refine lv_aload_n hx hb d_R_findMethod_8 rfl (lv_at hl 1 rfl) ?_
        refine lv_iload hx hb d_R_findMethod_9 (lv_at hl 0 rfl) ?_
        refine lv_iload_n hx hb d_R_findMethod_11 rfl (lv_at hl 4 rfl) ?_
        have hq_6 : vp_in x4 13 := by first | with_reducible assumption | exact in_et et (leT hT et h2 (by with_reducible assumption)) | exact in_et et h2 | exact in_et eu (leT hT eu u2 (by with_reducible assumption)) | exact in_et eu u2
        have hq_7 : vp_in p3 4 := by first | with_reducible assumption | exact jn_name (by with_reducible assumption)
        refine va_calli (va_runV (As := [.int x4, .int p3]) (rest := []) ⟨hx, hb, hml, hown, hts⟩ (c_R_has l dC dI ka qa H.size b0 b1 a0 a1 a2 a3 a4 a5 a6 a7 a8 a9 a10 a11 a12 x4 p3 hq_6 hq_7) (cwV 2 hts k_g73 rfl rfl rfl (by decide +kernel) ⟨Nat.le_of_ble_eq_true rfl, Nat.le_of_ble_eq_true rfl⟩) ⟨fb_ro, va_recv hK hP (ci := 3) (q0 := 0) rfl rfl, fun U hU hW => ⟨rfl, by rw [hU], by rw [hU]; exact hP, va_K.moved hW.alike (hK), NX.warm hW hN⟩⟩ rfl rfl hl.1 rfl (lv_room (Nat.le_of_ble_eq_true rfl)) d_R_findMethod_12 ⟨Nat.zero_le _, Nat.zero_le _⟩) hS (fun z h1 h2 => absurd h1 (Nat.not_lt.mpr h2)) (fun z h => hA z (Nat.le_trans hS.1 h)) (fun r u t H1 locs ht hvm hpo hB hz1 hk1 hS => ?_)
        subst hpo
        have hP := kp_P hP hk1
        generalize H1 = H at hP hS ⊢
        refine lv_if_ne (tgt := 21) hx hb d_R_findMethod_15 (by decide) (fun c_8 => ?_) (fun c_8 => ?_)
        · have c_8 : ¬ ((f_R_has a9 x4 p3) = (0 : Int32)) := c_8
          refine lv_aload_n hx hb d_R_findMethod_21 rfl (lv_at hl 1 rfl) ?_
          refine lv_iconst (v := (1 : Int32)) hx hb d_R_findMethod_22 (by decide +kernel) ?_
          refine va_put (D := (dC, dI)) (ci := 3) (v := .int (1 : Int32)) (ty := .int) (C := R_R) (T := F_R) (N := 15) hx hb hts i_R t_R t_R_ok n_R hown hK hP hD hS 0 rfl rfl 14 (by decide) (hts _ k_56) (fun _ h9 => h9) rfl (by decide +kernel) rfl rfl (Nat.le_of_ble_eq_true rfl) d_R_findMethod_23 (fun H locs hP hD hS => ?_)
          have hP : va_P (dC, dI) classes (wR ka qa b0 (1 : Int32) a0 a1 a2 a3 a4 a5 a6 a7 a8 a9 a10 a11 a12) H := hP
          have hD : va_D A (wR ka qa b0 (1 : Int32) a0 a1 a2 a3 a4 a5 a6 a7 a8 a9 a10 a11 a12) := hD
          refine lv_iload hx hb d_R_findMethod_26 (lv_at hl 0 rfl) ?_
          have hP9 : va_P (dC, dI) classes (wR ka qa b0 (1 : Int32) a0 a1 a2 a3 a4 a5 a6 a7 a8 a9 a10 a11 a12) H := hP
          exact W.iret (v := x4) hx hb hr (fun t ht hW => ⟨⟨x4, ((1 : Int32)), rfl, ⟨by rw [← hF, lr_R_findMethod_3_s, if_neg c_1, if_neg c_8], (by rw [← hG_b1, lb1_R_findMethod_3_s, if_neg c_1, if_neg c_8])⟩, hp_at ht hP9⟩, hS.F ht⟩) hS.2.2 d_R_findMethod_28
        · have c_8 : (f_R_has a9 x4 p3) = (0 : Int32) := c_8
          refine lv_goto (tgt := 29) hx hb d_R_findMethod_18 (by decide) ?_
          refine lv_iload_n hx hb d_R_findMethod_29 rfl (lv_at hl 2 rfl) ?_
          refine lv_iconst (v := (1 : Int32)) hx hb d_R_findMethod_30 (by decide +kernel) ?_
          refine lv_icmp_ne (tgt := 44) hx hb d_R_findMethod_31 (by decide) (fun c_9 => ?_) (fun c_9 => ?_)
          · have c_9 : ¬ (p1 = (1 : Int32)) := c_9
            refine lv_iconst (v := (0 : Int32)) hx hb d_R_findMethod_44 (by decide +kernel) ?_
            refine lv_istore (lv' := [(4, .int (0 : Int32)), (0, .ref (qa 0)), (1, .int p1), (2, .int p2), (3, .int p3)]) hx hb d_R_findMethod_45 hl (by decide) rfl (fun ls hl => ?_)
            refine lv_goto (tgt := 3) hx hb d_R_findMethod_47 (by decide) ?_
            exact ih 0 (0 : Int32) _ _ _ (rfl) (dz_h0 et h2 h1 (by with_reducible assumption)) (by omega) (by rw [← hF, lr_R_findMethod_3_s, if_neg c_1, if_pos c_8, if_neg c_9]) (by rw [← hG_b1, lb1_R_findMethod_3_s, if_neg c_1, if_pos c_8, if_neg c_9]) hP hD hS (lv_sub hl [0, 1, 2, 3, 4] rfl)
          · have c_9 : p1 = (1 : Int32) := c_9
            refine lv_aload_n hx hb d_R_findMethod_34 rfl (lv_at hl 1 rfl) ?_
            refine va_get (D := (dC, dI)) (ci := 3) (v := .ref (qa 5)) (C := R_R) (T := F_R) (N := 15) hx hb hts i_R hown hK hP 0 rfl rfl 5 (by decide) (hts _ k_50) (fun _ h9 => h9) rfl d_R_findMethod_35 ?_
            refine lv_iload hx hb d_R_findMethod_38 (lv_at hl 0 rfl) ?_
            have hi_10 : vp_in x4 13 := by first | with_reducible assumption | exact in_et et (leT hT et h2 (by with_reducible assumption)) | exact in_et et h2 | exact in_et eu (leT hT eu u2 (by with_reducible assumption)) | exact in_et eu u2
            refine va_iald (D := (dC, dI)) (f := a4) hx hb hK hP 5 4 rfl rfl hi_10 d_R_findMethod_40 ?_
            refine lv_goto (tgt := 45) hx hb d_R_findMethod_41 (by decide) ?_
            refine lv_istore (lv' := [(4, .int (a4 x4.toNatClampNeg)), (0, .ref (qa 0)), (1, .int p1), (2, .int p2), (3, .int p3)]) hx hb d_R_findMethod_45 hl (by decide) rfl (fun ls hl => ?_)
            refine lv_goto (tgt := 3) hx hb d_R_findMethod_47 (by decide) ?_
            exact ih ((a4 x4.toNatClampNeg).toNatClampNeg) (a4 x4.toNatClampNeg) _ _ _ (par_et hpa (in_et et h2)) (par_h1 hpa et h2 h1 (by with_reducible assumption)) (par_h2 hpa (in_et et h2)) (by rw [← hF, lr_R_findMethod_3_s, if_neg c_1, if_pos c_8, if_pos c_9]) (by rw [← hG_b1, lb1_R_findMethod_3_s, if_neg c_1, if_pos c_8, if_pos c_9]) hP hD hS (lv_sub hl [0, 1, 2, 3, 4] rfl)
  exact LOOP_3 14 p2.toNatClampNeg p2 _ _ _ (in_k hp2) (by have := Nat.le_of_lt_succ (in_lt hp2); omega) (Nat.le_of_lt_succ (in_lt hp2)) (rfl) (rfl) hP hD hS (lv_sub hl [0, 1, 2, 3, 4] rfl)
