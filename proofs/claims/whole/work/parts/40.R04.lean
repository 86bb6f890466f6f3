set_option maxHeartbeats 1000000 in
set_option maxRecDepth 100000 in
theorem c_R_fillCan (l : Launch) (dC : Nat → ClassId) (dI : Nat → Nat → Nat) (ka : Nat → ClassId) (qa : Nat → Nat) (sz : Nat) (b0 b1 : Int32) (a0 a1 a2 a3 a4 a5 a6 a7 a8 a9 a10 a11 a12 : Nat → Int32) (p1 : Int32) (hT : vT b0) (hpa : vPar a4) (hdi : vDir a6) (hdc : vDc a7) (hp1 : vp_in p1 4) : Met l y_R_fillCan w_R_fillCan ({ frames := 2, cells := 0, slots := 0, locals := 47 } : Room) (mu_P dC dI (wR ka qa b0 b1 a0 a1 a2 a3 a4 a5 a6 a7 a8 a9 a10 a11 a12) (tR ka) sz [.ref (qa 0), .int p1]) (mu_Qv (fun (S9 : (Nat → Int32) × (Nat → Int32)) => (wR ka qa b0 b1 a0 a1 a2 a3 a4 a5 a6 a7 a8 a9 S9.1 S9.2 a12)) dC dI ((s_R_fillCan_a10 b0 a3 a4 a6 a7 a9 a10 a11 p1), (s_R_fillCan_a11 b0 a3 a4 a6 a7 a9 a10 a11 p1)) (va_A (wR ka qa b0 b1 a0 a1 a2 a3 a4 a5 a6 a7 a8 a9 a10 a11 a12) sz)) 0 0 (va_A (wR ka qa b0 b1 a0 a1 a2 a3 a4 a5 a6 a7 a8 a9 a10 a11 a12) sz) := by
  refine Met.ofW (cc := b_R_fillCan) (maxL := 4) (ret := none) (by decide) rfl ?_
  intro p e s m args below meth c s₁ B hml hv
  obtain ⟨rfl, hsz, hP, hK, hN, hD0⟩ := hv
  have hx := B.exec
  have hb := B.bytes
  have hr := B.returns
  have hts := tl_of (atoms_spec (ws := w_R_fillCan) B.pre)
  have hown : s.vm.findClass R_R = some m.cls := findClass_of_methodNamed B.named
  have hlocks := B.notSynchronized
  subst hsz
  have hD := hD0.self (sz := s.heap.size)
  generalize hAe : va_A (wR ka qa b0 b1 a0 a1 a2 a3 a4 a5 a6 a7 a8 a9 a10 a11 a12) s.heap.size = A at hD ⊢
  have hA : ∀ q : Nat, s.heap.size ≤ q → A q := fun q h => by rw [← hAe]; exact Or.inr h
  have hS : va_S A s.heap s.heap [] := va_S.rf
  have hl := lv_entry ([.ref (qa 0), .int p1]) (n := 4) (Nat.le_of_ble_eq_true rfl)
  rw [lg_entry_eq]
  generalize (lg_sl ([.ref (qa 0), .int p1]) ++ List.replicate (4 - (lg_sl ([.ref (qa 0), .int p1])).length) Slot.unset).toArray = ls at hl ⊢
  have hl : lv_has ls 4 [(0, .ref (qa 0)), (1, .int p1)] := hl
  refine lv_aload_n hx hb d_R_fillCan_0 rfl (lv_at hl 0 rfl) ?_
  have hq_1 : vT b0 := by with_reducible assumption
  have hq_2 : vPar a4 := by with_reducible assumption
  have hq_3 : vDir a6 := by with_reducible assumption
  have hq_4 : vDc a7 := by with_reducible assumption
  have hFc := va_free (wc := (wR ka qa b0 b1 a0 a1 a2 a3 a4 a5 a6 a7 a8 a9 a10 a11 a12)) hD hS hA [0, 1, 2, 3, 4, 5, 6, 7, 8, 9, 10, 11, 12, 13] rfl
  refine va_callv (va_runV (As := []) (rest := []) ⟨hx, hb, hml, hown, hts⟩ (c_R_closeAbove l dC dI ka qa s.heap.size b0 b1 a0 a1 a2 a3 a4 a5 a6 a7 a8 a9 a10 a11 a12  hq_1 hq_2 hq_3 hq_4) (cwV 0 hts k_g81 rfl rfl rfl (by decide +kernel) ⟨Nat.le_of_ble_eq_true rfl, Nat.le_of_ble_eq_true rfl⟩) ⟨fb_mu, va_recv hK hP (ci := 3) (q0 := 0) rfl rfl, fun U hU hW => ⟨rfl, by rw [hU], by rw [hU]; exact hP, va_K.moved hW.alike hK, NX.warm hW hN, hD.weaken (fun _ _ _ _ => trivial)⟩⟩ rfl rfl hl.1 rfl (lv_room (Nat.le_of_ble_eq_true rfl)) d_R_fillCan_1 ⟨Nat.zero_le _, Nat.zero_le _⟩) hS (fun q _ h => hFc q h) hFc (fun u t H1 locs ht hvm hpo hB hz1 hk1 hS => ?_)
  subst hpo
  have hP : va_P (dC, dI) classes (wR ka qa b0 b1 a0 a1 a2 a3 a4 a5 a6 a7 a8 a9 (s_R_closeAbove_a10 b0 a4 a6 a7 a10) a11 a12) H1 := hp_to ht hB
  have hD : va_D A (wR ka qa b0 b1 a0 a1 a2 a3 a4 a5 a6 a7 a8 a9 (s_R_closeAbove_a10 b0 a4 a6 a7 a10) a11 a12) := ad_R hD
  generalize hg_5 : (s_R_closeAbove_a10 b0 a4 a6 a7 a10) = g_5 at hP hD
  generalize H1 = H at hP hS ⊢
  refine lv_iconst (v := (1 : Int32)) hx hb d_R_fillCan_4 (by decide +kernel) ?_
  refine lv_istore_n (lv' := [(2, .int (1 : Int32)), (0, .ref (qa 0)), (1, .int p1)]) hx hb d_R_fillCan_5 rfl hl (by decide) rfl (fun ls hl => ?_)
  have LOOP_6 : ∀ (n k : Nat) (x2 : Int32) (ya11 : (Nat → Int32)) (H : Heap) (locs : List Loc) (ls : Array Slot), x2 = nI k → 14 ≤ k + n → k ≤ 13 → la10_R_fillCan_6 b0 a3 a4 a6 a7 a9 a10 p1  n x2 ya11 = (s_R_fillCan_a10 b0 a3 a4 a6 a7 a9 a10 a11 p1) → la11_R_fillCan_6 b0 a3 a4 a6 a7 a9 a10 p1  n x2 ya11 = (s_R_fillCan_a11 b0 a3 a4 a6 a7 a9 a10 a11 p1) → va_P (dC, dI) classes (wR ka qa b0 b1 a0 a1 a2 a3 a4 a5 a6 a7 a8 a9 g_5 ya11 a12) H → va_D A (wR ka qa b0 b1 a0 a1 a2 a3 a4 a5 a6 a7 a8 a9 g_5 ya11 a12) → va_S A s.heap H locs → lv_has ls 4 [(2, .int x2), (0, .ref (qa 0)), (1, .int p1)] → W p l e (headSpec w_R_fillCan ({ frames := 2, cells := 0, slots := 0, locals := 47 } : Room)).room s m ([.ref (qa 0), .int p1] : List Value).toArray below meth c H locs 0 0 (MQ below (mu_Qv (fun (S9 : (Nat → Int32) × (Nat → Int32)) => (wR ka qa b0 b1 a0 a1 a2 a3 a4 a5 a6 a7 a8 a9 S9.1 S9.2 a12)) dC dI ((s_R_fillCan_a10 b0 a3 a4 a6 a7 a9 a10 a11 p1), (s_R_fillCan_a11 b0 a3 a4 a6 a7 a9 a10 a11 p1)) (A)) ([.ref (qa 0), .int p1] : List Value).toArray s 0 0 A) (F0 m 6 ls []) := by
    intro n
    induction n with
    | zero =>
      intro k x2 ya11 H locs ls et h1 h2
      exfalso; omega
    | succ n ih =>
      intro k x2 ya11 H locs ls et h1 h2 hG_a10 hG_a11 hP hD hS hl
      refine lv_iload_n hx hb d_R_fillCan_6 rfl (lv_at hl 0 rfl) ?_
      refine lv_aload_n hx hb d_R_fillCan_7 rfl (lv_at hl 1 rfl) ?_
      refine va_get (D := (dC, dI)) (ci := 3) (v := .int b0) (C := R_R) (T := F_R) (N := 15) hx hb hts i_R hown hK hP 0 rfl rfl 0 (by decide) (hts _ k_44) (fun _ h9 => h9) rfl d_R_fillCan_8 ?_
      refine lv_icmp_gt (tgt := 53) hx hb d_R_fillCan_11 (by decide) (fun c_6 => ?_) (fun c_6 => ?_)
      · have c_6 : b0 < x2 := c_6
        have hP9 : va_P (dC, dI) classes (wR ka qa b0 b1 a0 a1 a2 a3 a4 a5 a6 a7 a8 a9 g_5 ya11 a12) H := hP
        exact W.vret hx hb hr (fun t ht hW => ⟨⟨(g_5, ya11), rfl, (pr2 (by subst hg_5; rw [← hG_a10, la10_R_fillCan_6_s, if_pos c_6]) (by subst hg_5; rw [← hG_a11, la11_R_fillCan_6_s, if_pos c_6])), hp_at ht hP9⟩, hS.F ht⟩) hS.2.2 d_R_fillCan_53
      · have c_6 : ¬ (b0 < x2) := c_6
        refine lv_aload_n hx hb d_R_fillCan_14 rfl (lv_at hl 1 rfl) ?_
        refine va_get (D := (dC, dI)) (ci := 3) (v := .int b0) (C := R_R) (T := F_R) (N := 15) hx hb hts i_R hown hK hP 0 rfl rfl 0 (by decide) (hts _ k_44) (fun _ h9 => h9) rfl d_R_fillCan_15 ?_
        refine lv_istore_n (lv' := [(3, .int b0), (2, .int x2), (0, .ref (qa 0)), (1, .int p1)]) hx hb d_R_fillCan_18 rfl hl (by decide) rfl (fun ls hl => ?_)
        have LOOP_19 : ∀ (FF : Int32 × (Nat → Int32)) (n k : Nat) (x3 : Int32) (ya11 : (Nat → Int32)) (H : Heap) (locs : List Loc) (ls : Array Slot), x3 = nI k → k + 1 ≤ n → k ≤ 12 → lfin_R_fillCan_19 b0 a3 a4 a6 a7 a9 a10 p1 x2 n x3 ya11 = FF → va_P (dC, dI) classes (wR ka qa b0 b1 a0 a1 a2 a3 a4 a5 a6 a7 a8 a9 g_5 ya11 a12) H → va_D A (wR ka qa b0 b1 a0 a1 a2 a3 a4 a5 a6 a7 a8 a9 g_5 ya11 a12) → va_S A s.heap H locs → lv_has ls 4 [(3, .int x3), (2, .int x2), (0, .ref (qa 0)), (1, .int p1)] → (∀ (H : Heap) (locs : List Loc) (ls : Array Slot), va_P (dC, dI) classes (wR ka qa b0 b1 a0 a1 a2 a3 a4 a5 a6 a7 a8 a9 g_5 FF.2 a12) H → va_D A (wR ka qa b0 b1 a0 a1 a2 a3 a4 a5 a6 a7 a8 a9 g_5 FF.2 a12) → va_S A s.heap H locs → lv_has ls 4 [(3, .int FF.1), (2, .int x2), (0, .ref (qa 0)), (1, .int p1)] → W p l e (headSpec w_R_fillCan ({ frames := 2, cells := 0, slots := 0, locals := 47 } : Room)).room s m ([.ref (qa 0), .int p1] : List Value).toArray below meth c H locs 0 0 (MQ below (mu_Qv (fun (S9 : (Nat → Int32) × (Nat → Int32)) => (wR ka qa b0 b1 a0 a1 a2 a3 a4 a5 a6 a7 a8 a9 S9.1 S9.2 a12)) dC dI ((s_R_fillCan_a10 b0 a3 a4 a6 a7 a9 a10 a11 p1), (s_R_fillCan_a11 b0 a3 a4 a6 a7 a9 a10 a11 p1)) (A)) ([.ref (qa 0), .int p1] : List Value).toArray s 0 0 A) (F0 m 47 ls [])) → W p l e (headSpec w_R_fillCan ({ frames := 2, cells := 0, slots := 0, locals := 47 } : Room)).room s m ([.ref (qa 0), .int p1] : List Value).toArray below meth c H locs 0 0 (MQ below (mu_Qv (fun (S9 : (Nat → Int32) × (Nat → Int32)) => (wR ka qa b0 b1 a0 a1 a2 a3 a4 a5 a6 a7 a8 a9 S9.1 S9.2 a12)) dC dI ((s_R_fillCan_a10 b0 a3 a4 a6 a7 a9 a10 a11 p1), (s_R_fillCan_a11 b0 a3 a4 a6 a7 a9 a10 a11 p1)) (A)) ([.ref (qa 0), .int p1] : List Value).toArray s 0 0 A) (F0 m 19 ls []) := by
          intro FF n
          induction n with
          | zero =>
            intro k x3 ya11 H locs ls eu u1 u2
            exfalso; omega
          | succ n ih =>
            intro k x3 ya11 H locs ls eu u1 u2 hF hP hD hS hl KK
            refine lv_iload_n hx hb d_R_fillCan_19 rfl (lv_at hl 0 rfl) ?_
            refine lv_if_le (tgt := 47) hx hb d_R_fillCan_20 (by decide) (fun c_7 => ?_) (fun c_7 => ?_)
            · have c_7 : x3 ≤ (0 : Int32) := c_7
              obtain rfl : FF = (x3, ya11) := by subst hg_5; rw [← hF, lfin_R_fillCan_19_s, if_pos c_7]
              exact KK _ _ _ hP hD hS (lv_sub hl [0, 1, 2, 3] rfl)
            · have c_7 : ¬ (x3 ≤ (0 : Int32)) := c_7
              refine lv_aload_n hx hb d_R_fillCan_23 rfl (lv_at hl 2 rfl) ?_
              refine va_get (D := (dC, dI)) (ci := 3) (v := .ref (qa 12)) (C := R_R) (T := F_R) (N := 15) hx hb hts i_R hown hK hP 0 rfl rfl 12 (by decide) (hts _ k_57) (fun _ h9 => h9) rfl d_R_fillCan_24 ?_
              refine lv_bipush (v := (13 : Int32)) hx hb d_R_fillCan_27 (by decide +kernel) ?_
              refine lv_iload_n hx hb d_R_fillCan_29 rfl (lv_at hl 1 rfl) ?_
              refine lv_imul hx hb d_R_fillCan_30 ?_
              refine lv_iload_n hx hb d_R_fillCan_31 rfl (lv_at hl 0 rfl) ?_
              refine lv_iadd hx hb d_R_fillCan_32 ?_
              refine lv_aload_n hx hb d_R_fillCan_33 rfl (lv_at hl 2 rfl) ?_
              refine lv_iload_n hx hb d_R_fillCan_34 rfl (lv_at hl 1 rfl) ?_
              refine lv_iload_n hx hb d_R_fillCan_35 rfl (lv_at hl 0 rfl) ?_
              refine lv_iload_n hx hb d_R_fillCan_36 rfl (lv_at hl 3 rfl) ?_
              have hq_8 : vp_in x2 13 := by first | with_reducible assumption | exact in_et et (leT hT et h2 (by with_reducible assumption)) | exact in_et et h2 | exact in_et eu (leT hT eu u2 (by with_reducible assumption)) | exact in_et eu u2
              have hq_9 : vp_in x3 13 := by first | with_reducible assumption | exact in_et et (leT hT et h2 (by with_reducible assumption)) | exact in_et et h2 | exact in_et eu (leT hT eu u2 (by with_reducible assumption)) | exact in_et eu u2
              have hq_10 : vp_in p1 4 := by first | with_reducible assumption | exact jn_name (by with_reducible assumption)
              have hq_11 : vPar a4 := by with_reducible assumption
              refine va_calli (va_runV (As := [.int x2, .int x3, .int p1]) (rest := [.int (((13 : Int32) * x2) + x3), .ref (qa 12)]) ⟨hx, hb, hml, hown, hts⟩ (c_R_overriding l dC dI ka qa H.size b0 b1 a0 a1 a2 a3 a4 a5 a6 a7 a8 a9 g_5 ya11 a12 x2 x3 p1 hq_8 hq_9 hq_10 hq_11) (cwV 3 hts k_g82 rfl rfl rfl (by decide +kernel) ⟨Nat.le_of_ble_eq_true rfl, Nat.le_of_ble_eq_true rfl⟩) ⟨fb_ro, va_recv hK hP (ci := 3) (q0 := 0) rfl rfl, fun U hU hW => ⟨rfl, by rw [hU], by rw [hU]; exact hP, va_K.moved hW.alike (hK), NX.warm hW hN⟩⟩ rfl rfl hl.1 rfl (lv_room (Nat.le_of_ble_eq_true rfl)) d_R_fillCan_37 ⟨Nat.zero_le _, Nat.zero_le _⟩) hS (fun z h1 h2 => absurd h1 (Nat.not_lt.mpr h2)) (fun z h => hA z (Nat.le_trans hS.1 h)) (fun r u t H1 locs ht hvm hpo hB hz1 hk1 hS => ?_)
              subst hpo
              have hP := kp_P hP hk1
              generalize H1 = H at hP hS ⊢
              have hi_12 : vp_in (((13 : Int32) * x2) + x3) 169 := by exact jn_169 (by first | with_reducible assumption | exact in_et et (leT hT et h2 (by with_reducible assumption)) | exact in_et et h2 | exact in_et eu (leT hT eu u2 (by with_reducible assumption)) | exact in_et eu u2) (by first | with_reducible assumption | exact in_et et (leT hT et h2 (by with_reducible assumption)) | exact in_et et h2 | exact in_et eu (leT hT eu u2 (by with_reducible assumption)) | exact in_et eu u2)
              refine va_zast (D := (dC, dI)) (f := ya11) hx hb hK hP hD hS 12 11 rfl rfl hi_12 d_R_fillCan_40 (fun H locs hP hD hS => ?_)
              have hP : va_P (dC, dI) classes (wR ka qa b0 b1 a0 a1 a2 a3 a4 a5 a6 a7 a8 a9 g_5 (upd ya11 (((13 : Int32) * x2) + x3).toNatClampNeg (vp_nar .boolean (f_R_overriding a3 a4 a9 g_5 ya11 x2 x3 p1))) a12) H := hP
              have hD : va_D A (wR ka qa b0 b1 a0 a1 a2 a3 a4 a5 a6 a7 a8 a9 g_5 (upd ya11 (((13 : Int32) * x2) + x3).toNatClampNeg (vp_nar .boolean (f_R_overriding a3 a4 a9 g_5 ya11 x2 x3 p1))) a12) := hD
              refine lv_iinc (v := (x3 + (-1 : Int32))) (lv' := [(3, .int (x3 + (-1 : Int32))), (2, .int x2), (0, .ref (qa 0)), (1, .int p1)]) hx hb d_R_fillCan_41 hl (k := 0) rfl (by rw [of_m1]) (by decide) rfl (fun ls hl => ?_)
              refine lv_goto (tgt := 19) hx hb d_R_fillCan_44 (by decide) ?_
              exact ih (k - 1) (x3 + (-1 : Int32)) (upd ya11 (((13 : Int32) * x2) + x3).toNatClampNeg (vp_nar .boolean (f_R_overriding a3 a4 a9 g_5 ya11 x2 x3 p1))) _ _ _ (dz_et eu u2 (by with_reducible assumption)) (dz_h1 eu u2 u1 (by with_reducible assumption)) (by omega) (by subst hg_5; rw [← hF, lfin_R_fillCan_19_s, if_neg c_7]) hP hD hS (lv_sub hl [0, 1, 2, 3] rfl) KK
        obtain ⟨g_13, hg_13⟩ : ∃ z, z = (lfin_R_fillCan_19 b0 a3 a4 a6 a7 a9 a10 p1 x2 14 b0 ya11) := ⟨_, rfl⟩
        refine LOOP_19 g_13 14 b0.toNatClampNeg b0 ya11 _ _ _ (in_k (vT_in hT)) (by have := Nat.le_of_lt_succ (in_lt (vT_in hT)); omega) (Nat.le_of_lt_succ (in_lt (vT_in hT))) hg_13.symm hP hD hS (lv_sub hl [0, 1, 2, 3] rfl) (fun H locs ls hP hD hS hl => ?_)
        refine lv_iinc (v := (x2 + (1 : Int32))) (lv' := [(2, .int (x2 + (1 : Int32))), (3, .int (g_13.1)), (0, .ref (qa 0)), (1, .int p1)]) hx hb d_R_fillCan_47 hl (k := 1) rfl (by rw [of_p1]) (by decide) rfl (fun ls hl => ?_)
        refine lv_goto (tgt := 6) hx hb d_R_fillCan_50 (by decide) ?_
        exact ih (k + 1) (x2 + (1 : Int32)) g_13.2 _ _ _ (by rw [et]; exact nI_1 k) (by omega) (by first | exact Nat.succ_le_succ (leT hT et h2 (by with_reducible assumption)) | exact Nat.succ_le_succ (Nat.le_trans (Nat.le_of_lt (rltDc hdc et h2 (by with_reducible assumption) (by with_reducible assumption))) (by decide))) (by subst hg_5; subst hg_13; rw [← hG_a10, la10_R_fillCan_6_s, if_neg c_6]) (by subst hg_5; subst hg_13; rw [← hG_a11, la11_R_fillCan_6_s, if_neg c_6]) hP hD hS (lv_sub hl [0, 2, 3] rfl)
  exact LOOP_6 14 1 (1 : Int32) a11 _ _ _ (rfl) (by omega) (by omega) (by subst hg_5; rfl) (by subst hg_5; rfl) hP hD hS (lv_sub hl [0, 1, 2] rfl)
