set_option maxHeartbeats 1000000 in
set_option maxRecDepth 100000 in
theorem c_R_type (l : Launch) (dC : Nat → ClassId) (dI : Nat → Nat → Nat) (ka : Nat → ClassId) (qa : Nat → Nat) (sz : Nat) (b0 b1 : Int32) (a0 a1 a2 a3 a4 a5 a6 a7 a8 a9 a10 a11 a12 : Nat → Int32) (p1 p2 : Int32) (hT : vT b0) (hpa : vPar a4) (hdi : vDir a6) (hdc : vDc a7) : Met l y_R_type w_R_type ({ frames := 2, cells := 0, slots := 0, locals := 43 } : Room) (mu_P dC dI (wR ka qa b0 b1 a0 a1 a2 a3 a4 a5 a6 a7 a8 a9 a10 a11 a12) (tR ka) sz [.ref (qa 0), .int p1, .int p2]) (mu_Q (fun (S9 : (Nat → Int32)) => (wR ka qa b0 b1 a0 a1 a2 a3 a4 a5 a6 a7 a8 a9 S9 a11 a12)) dC dI (f_R_type b0 a0 a3 a4 a5 a6 a7 a10 p1 p2) ((s_R_type_a10 b0 a0 a3 a4 a5 a6 a7 a10 p1 p2)) (va_A (wR ka qa b0 b1 a0 a1 a2 a3 a4 a5 a6 a7 a8 a9 a10 a11 a12) sz)) 0 0 (va_A (wR ka qa b0 b1 a0 a1 a2 a3 a4 a5 a6 a7 a8 a9 a10 a11 a12) sz) := by
  refine Met.ofW (cc := b_R_type) (maxL := 5) (ret := (some .int)) (by decide) rfl ?_
  intro p e s m args below meth c s₁ B hml hv
  obtain ⟨rfl, hsz, hP, hK, hN, hD0⟩ := hv
  have hx := B.exec
  have hb := B.bytes
  have hr := B.returns
  have hts := tl_of (atoms_spec (ws := w_R_type) B.pre)
  have hown : s.vm.findClass R_R = some m.cls := findClass_of_methodNamed B.named
  have hlocks := B.notSynchronized
  subst hsz
  have hD := hD0.self (sz := s.heap.size)
  generalize hAe : va_A (wR ka qa b0 b1 a0 a1 a2 a3 a4 a5 a6 a7 a8 a9 a10 a11 a12) s.heap.size = A at hD ⊢
  have hA : ∀ q : Nat, s.heap.size ≤ q → A q := fun q h => by rw [← hAe]; exact Or.inr h
  have hS : va_S A s.heap s.heap [] := va_S.rf
  have hl := lv_entry ([.ref (qa 0), .int p1, .int p2]) (n := 5) (Nat.le_of_ble_eq_true rfl)
  rw [lg_entry_eq]
  generalize (lg_sl ([.ref (qa 0), .int p1, .int p2]) ++ List.replicate (5 - (lg_sl ([.ref (qa 0), .int p1, .int p2])).length) Slot.unset).toArray = ls at hl ⊢
  have hl : lv_has ls 5 [(0, .ref (qa 0)), (1, .int p1), (2, .int p2)] := hl
  refine lv_aload_n hx hb d_R_type_0 rfl (lv_at hl 0 rfl) ?_
  refine lv_iload_n hx hb d_R_type_1 rfl (lv_at hl 1 rfl) ?_
  refine va_calli (va_runV (As := [.int p1]) (rest := []) ⟨hx, hb, hml, hown, hts⟩ (c_R_there l dC dI ka qa s.heap.size b0 b1 a0 a1 a2 a3 a4 a5 a6 a7 a8 a9 a10 a11 a12 p1) (cwV 1 hts k_g72 rfl rfl rfl (by decide +kernel) ⟨Nat.le_of_ble_eq_true rfl, Nat.le_of_ble_eq_true rfl⟩) ⟨fb_ro, va_recv hK hP (ci := 3) (q0 := 0) rfl rfl, fun U hU hW => ⟨rfl, by rw [hU], by rw [hU]; exact hP, va_K.moved hW.alike (hK), NX.warm hW hN⟩⟩ rfl rfl hl.1 rfl (lv_room (Nat.le_of_ble_eq_true rfl)) d_R_type_2 ⟨Nat.zero_le _, Nat.zero_le _⟩) hS (fun z h1 h2 => absurd h1 (Nat.not_lt.mpr h2)) (fun z h => hA z (Nat.le_trans hS.1 h)) (fun r u t H1 locs ht hvm hpo hB hz1 hk1 hS => ?_)
  subst hpo
  have hP := kp_P hP hk1
  generalize H1 = H at hP hS ⊢
  refine lv_if_ne (tgt := 10) hx hb d_R_type_5 (by decide) (fun c_1 => ?_) (fun c_1 => ?_)
  · have c_1 : ¬ ((f_R_there b0 p1) = (0 : Int32)) := c_1
    refine lv_aload_n hx hb d_R_type_10 rfl (lv_at hl 0 rfl) ?_
    have hq_2 : vT b0 := by with_reducible assumption
    have hq_3 : vPar a4 := by with_reducible assumption
    have hq_4 : vDir a6 := by with_reducible assumption
    have hq_5 : vDc a7 := by with_reducible assumption
    have hFc := va_free (wc := (wR ka qa b0 b1 a0 a1 a2 a3 a4 a5 a6 a7 a8 a9 a10 a11 a12)) hD hS hA [0, 1, 2, 3, 4, 5, 6, 7, 8, 9, 10, 11, 12, 13] rfl
    refine va_callv (va_runV (As := []) (rest := []) ⟨hx, hb, hml, hown, hts⟩ (c_R_closeAbove l dC dI ka qa H.size b0 b1 a0 a1 a2 a3 a4 a5 a6 a7 a8 a9 a10 a11 a12  hq_2 hq_3 hq_4 hq_5) (cwV 0 hts k_g81 rfl rfl rfl (by decide +kernel) ⟨Nat.le_of_ble_eq_true rfl, Nat.le_of_ble_eq_true rfl⟩) ⟨fb_mu, va_recv hK hP (ci := 3) (q0 := 0) rfl rfl, fun U hU hW => ⟨rfl, by rw [hU], by rw [hU]; exact hP, va_K.moved hW.alike hK, NX.warm hW hN, hD.weaken (fun _ _ _ _ => trivial)⟩⟩ rfl rfl hl.1 rfl (lv_room (Nat.le_of_ble_eq_true rfl)) d_R_type_11 ⟨Nat.zero_le _, Nat.zero_le _⟩) hS (fun q _ h => hFc q h) hFc (fun u t H1 locs ht hvm hpo hB hz1 hk1 hS => ?_)
    subst hpo
    have hP : va_P (dC, dI) classes (wR ka qa b0 b1 a0 a1 a2 a3 a4 a5 a6 a7 a8 a9 (s_R_closeAbove_a10 b0 a4 a6 a7 a10) a11 a12) H1 := hp_to ht hB
    have hD : va_D A (wR ka qa b0 b1 a0 a1 a2 a3 a4 a5 a6 a7 a8 a9 (s_R_closeAbove_a10 b0 a4 a6 a7 a10) a11 a12) := ad_R hD
    generalize hg_6 : (s_R_closeAbove_a10 b0 a4 a6 a7 a10) = g_6 at hP hD
    generalize H1 = H at hP hS ⊢
    refine lv_iconst (v := (0 : Int32)) hx hb d_R_type_14 (by decide +kernel) ?_
    refine lv_istore_n (lv' := [(3, .int (0 : Int32)), (0, .ref (qa 0)), (1, .int p1), (2, .int p2)]) hx hb d_R_type_15 rfl hl (by decide) rfl (fun ls hl => ?_)
    refine lv_iconst (v := (1 : Int32)) hx hb d_R_type_16 (by decide +kernel) ?_
    refine lv_istore (lv' := [(4, .int (1 : Int32)), (3, .int (0 : Int32)), (0, .ref (qa 0)), (1, .int p1), (2, .int p2)]) hx hb d_R_type_17 hl (by decide) rfl (fun ls hl => ?_)
    have LOOP_19 : ∀ (n k : Nat) (x3 : Int32) (x4 : Int32) (H : Heap) (locs : List Loc) (ls : Array Slot), x4 = nI k → 14 ≤ k + n → k ≤ 13 → lr_R_type_19 b0 a0 a3 a4 a5 a6 a7 a10 p1 p2  n x3 x4 = (f_R_type b0 a0 a3 a4 a5 a6 a7 a10 p1 p2) → la10_R_type_19 b0 a0 a3 a4 a5 a6 a7 a10 p1 p2  n x3 x4 = (s_R_type_a10 b0 a0 a3 a4 a5 a6 a7 a10 p1 p2) → va_P (dC, dI) classes (wR ka qa b0 b1 a0 a1 a2 a3 a4 a5 a6 a7 a8 a9 g_6 a11 a12) H → va_D A (wR ka qa b0 b1 a0 a1 a2 a3 a4 a5 a6 a7 a8 a9 g_6 a11 a12) → va_S A s.heap H locs → lv_has ls 5 [(3, .int x3), (4, .int x4), (0, .ref (qa 0)), (1, .int p1), (2, .int p2)] → W p l e (headSpec w_R_type ({ frames := 2, cells := 0, slots := 0, locals := 43 } : Room)).room s m ([.ref (qa 0), .int p1, .int p2] : List Value).toArray below meth c H locs 0 0 (MQ below (mu_Q (fun (S9 : (Nat → Int32)) => (wR ka qa b0 b1 a0 a1 a2 a3 a4 a5 a6 a7 a8 a9 S9 a11 a12)) dC dI (f_R_type b0 a0 a3 a4 a5 a6 a7 a10 p1 p2) ((s_R_type_a10 b0 a0 a3 a4 a5 a6 a7 a10 p1 p2)) (A)) ([.ref (qa 0), .int p1, .int p2] : List Value).toArray s 0 0 A) (F0 m 19 ls []) := by
      intro n
      induction n with
      | zero =>
        intro k x3 x4 H locs ls et h1 h2
        exfalso; omega
      | succ n ih =>
        intro k x3 x4 H locs ls et h1 h2 hF hG_a10 hP hD hS hl
        refine lv_iload hx hb d_R_type_19 (lv_at hl 1 rfl) ?_
        refine lv_aload_n hx hb d_R_type_21 rfl (lv_at hl 2 rfl) ?_
        refine va_get (D := (dC, dI)) (ci := 3) (v := .int b0) (C := R_R) (T := F_R) (N := 15) hx hb hts i_R hown hK hP 0 rfl rfl 0 (by decide) (hts _ k_44) (fun _ h9 => h9) rfl d_R_type_22 ?_
        refine lv_icmp_gt (tgt := 51) hx hb d_R_type_25 (by decide) (fun c_7 => ?_) (fun c_7 => ?_)
        · have c_7 : b0 < x4 := c_7
          refine lv_iload_n hx hb d_R_type_51 rfl (lv_at hl 4 rfl) ?_
          by_cases c_8 : p2 = (0 : Int32)
          · refine lv_tableIn (tgt := 108) (off := 56) hx hb d_R_type_52 (by rw [c_8]; decide +kernel) (by rw [c_8]; decide +kernel) (by rw [c_8]; rfl) (by decide) ?_
            refine lv_aload_n hx hb d_R_type_108 rfl (lv_at hl 2 rfl) ?_
            refine va_get (D := (dC, dI)) (ci := 3) (v := .ref (qa 5)) (C := R_R) (T := F_R) (N := 15) hx hb hts i_R hown hK hP 0 rfl rfl 5 (by decide) (hts _ k_50) (fun _ h9 => h9) rfl d_R_type_109 ?_
            refine lv_iload_n hx hb d_R_type_112 rfl (lv_at hl 3 rfl) ?_
            have hi_9 : vp_in p1 13 := by first | with_reducible assumption | exact rin_has hT (by with_reducible assumption)
            refine va_iald (D := (dC, dI)) (f := a4) hx hb hK hP 5 4 rfl rfl hi_9 d_R_type_113 ?_
            have hP9 : va_P (dC, dI) classes (wR ka qa b0 b1 a0 a1 a2 a3 a4 a5 a6 a7 a8 a9 g_6 a11 a12) H := hP
            exact W.iret (v := (a4 p1.toNatClampNeg)) hx hb hr (fun t ht hW => ⟨⟨(a4 p1.toNatClampNeg), (g_6), rfl, ⟨by subst hg_6; rw [← hF, lr_R_type_19_s, if_pos c_7, if_pos c_8], (by subst hg_6; rw [← hG_a10, la10_R_type_19_s, if_pos c_7, if_pos c_8])⟩, hp_at ht hP9⟩, hS.F ht⟩) hS.2.2 d_R_type_114
          · skip
            by_cases c_10 : p2 = (1 : Int32)
            · refine lv_tableIn (tgt := 115) (off := 63) hx hb d_R_type_52 (by rw [c_10]; decide +kernel) (by rw [c_10]; decide +kernel) (by rw [c_10]; rfl) (by decide) ?_
              refine lv_aload_n hx hb d_R_type_115 rfl (lv_at hl 2 rfl) ?_
              refine va_get (D := (dC, dI)) (ci := 3) (v := .ref (qa 4)) (C := R_R) (T := F_R) (N := 15) hx hb hts i_R hown hK hP 0 rfl rfl 4 (by decide) (hts _ k_47) (fun _ h9 => h9) rfl d_R_type_116 ?_
              refine lv_iload_n hx hb d_R_type_119 rfl (lv_at hl 3 rfl) ?_
              have hi_11 : vp_in p1 13 := by first | with_reducible assumption | exact rin_has hT (by with_reducible assumption)
              refine va_iald (D := (dC, dI)) (f := a3) hx hb hK hP 4 3 rfl rfl hi_11 d_R_type_120 ?_
              have hP9 : va_P (dC, dI) classes (wR ka qa b0 b1 a0 a1 a2 a3 a4 a5 a6 a7 a8 a9 g_6 a11 a12) H := hP
              exact W.iret (v := (a3 p1.toNatClampNeg)) hx hb hr (fun t ht hW => ⟨⟨(a3 p1.toNatClampNeg), (g_6), rfl, ⟨by subst hg_6; rw [← hF, lr_R_type_19_s, if_pos c_7, if_neg c_8, if_pos c_10], (by subst hg_6; rw [← hG_a10, la10_R_type_19_s, if_pos c_7, if_neg c_8, if_pos c_10])⟩, hp_at ht hP9⟩, hS.F ht⟩) hS.2.2 d_R_type_121
            · skip
              by_cases c_12 : p2 = (2 : Int32)
              · refine lv_tableIn (tgt := 122) (off := 70) hx hb d_R_type_52 (by rw [c_12]; decide +kernel) (by rw [c_12]; decide +kernel) (by rw [c_12]; rfl) (by decide) ?_
                refine lv_aload_n hx hb d_R_type_122 rfl (lv_at hl 2 rfl) ?_
                refine va_get (D := (dC, dI)) (ci := 3) (v := .ref (qa 6)) (C := R_R) (T := F_R) (N := 15) hx hb hts i_R hown hK hP 0 rfl rfl 6 (by decide) (hts _ k_48) (fun _ h9 => h9) rfl d_R_type_123 ?_
                refine lv_iload_n hx hb d_R_type_126 rfl (lv_at hl 3 rfl) ?_
                have hi_13 : vp_in p1 13 := by first | with_reducible assumption | exact rin_has hT (by with_reducible assumption)
                refine va_iald (D := (dC, dI)) (f := a5) hx hb hK hP 6 5 rfl rfl hi_13 d_R_type_127 ?_
                have hP9 : va_P (dC, dI) classes (wR ka qa b0 b1 a0 a1 a2 a3 a4 a5 a6 a7 a8 a9 g_6 a11 a12) H := hP
                exact W.iret (v := (a5 p1.toNatClampNeg)) hx hb hr (fun t ht hW => ⟨⟨(a5 p1.toNatClampNeg), (g_6), rfl, ⟨by subst hg_6; rw [← hF, lr_R_type_19_s, if_pos c_7, if_neg c_8, if_neg c_10, if_pos c_12], (by subst hg_6; rw [← hG_a10, la10_R_type_19_s, if_pos c_7, if_neg c_8, if_neg c_10, if_pos c_12])⟩, hp_at ht hP9⟩, hS.F ht⟩) hS.2.2 d_R_type_128
              · skip
                by_cases c_14 : p2 = (3 : Int32)
                · refine lv_tableIn (tgt := 129) (off := 77) hx hb d_R_type_52 (by rw [c_14]; decide +kernel) (by rw [c_14]; decide +kernel) (by rw [c_14]; rfl) (by decide) ?_
                  refine lv_aload_n hx hb d_R_type_129 rfl (lv_at hl 2 rfl) ?_
                  refine va_get (D := (dC, dI)) (ci := 3) (v := .ref (qa 8)) (C := R_R) (T := F_R) (N := 15) hx hb hts i_R hown hK hP 0 rfl rfl 8 (by decide) (hts _ k_53) (fun _ h9 => h9) rfl d_R_type_130 ?_
                  refine lv_iload_n hx hb d_R_type_133 rfl (lv_at hl 3 rfl) ?_
                  have hi_15 : vp_in p1 13 := by first | with_reducible assumption | exact rin_has hT (by with_reducible assumption)
                  refine va_iald (D := (dC, dI)) (f := a7) hx hb hK hP 8 7 rfl rfl hi_15 d_R_type_134 ?_
                  have hP9 : va_P (dC, dI) classes (wR ka qa b0 b1 a0 a1 a2 a3 a4 a5 a6 a7 a8 a9 g_6 a11 a12) H := hP
                  exact W.iret (v := (a7 p1.toNatClampNeg)) hx hb hr (fun t ht hW => ⟨⟨(a7 p1.toNatClampNeg), (g_6), rfl, ⟨by subst hg_6; rw [← hF, lr_R_type_19_s, if_pos c_7, if_neg c_8, if_neg c_10, if_neg c_12, if_pos c_14], (by subst hg_6; rw [← hG_a10, la10_R_type_19_s, if_pos c_7, if_neg c_8, if_neg c_10, if_neg c_12, if_pos c_14])⟩, hp_at ht hP9⟩, hS.F ht⟩) hS.2.2 d_R_type_135
                · skip
                  by_cases c_16 : p2 = (4 : Int32)
                  · refine lv_tableIn (tgt := 136) (off := 84) hx hb d_R_type_52 (by rw [c_16]; decide +kernel) (by rw [c_16]; decide +kernel) (by rw [c_16]; rfl) (by decide) ?_
                    refine lv_aload_n hx hb d_R_type_136 rfl (lv_at hl 2 rfl) ?_
                    refine va_get (D := (dC, dI)) (ci := 3) (v := .ref (qa 7)) (C := R_R) (T := F_R) (N := 15) hx hb hts i_R hown hK hP 0 rfl rfl 7 (by decide) (hts _ k_54) (fun _ h9 => h9) rfl d_R_type_137 ?_
                    refine lv_iconst (v := (4 : Int32)) hx hb d_R_type_140 (by decide +kernel) ?_
                    refine lv_iload_n hx hb d_R_type_141 rfl (lv_at hl 3 rfl) ?_
                    refine lv_imul hx hb d_R_type_142 ?_
                    refine lv_iload_n hx hb d_R_type_143 rfl (lv_at hl 4 rfl) ?_
                    refine lv_iadd hx hb d_R_type_144 ?_
                    refine lv_iconst (v := (4 : Int32)) hx hb d_R_type_145 (by decide +kernel) ?_
                    refine lv_isub hx hb d_R_type_146 ?_
                    have hi_17 : vp_in ((((4 : Int32) * p1) + p2) - (4 : Int32)) 52 := by exact jn_w (by first | with_reducible assumption | exact rin_has hT (by with_reducible assumption)) (by first | exact Or.inl (by with_reducible assumption) | exact Or.inr (Or.inl (by with_reducible assumption)) | exact Or.inr (Or.inr (Or.inl (by with_reducible assumption))) | exact Or.inr (Or.inr (Or.inr (by with_reducible assumption))))
                    refine va_iald (D := (dC, dI)) (f := a6) hx hb hK hP 7 6 rfl rfl hi_17 d_R_type_147 ?_
                    have hP9 : va_P (dC, dI) classes (wR ka qa b0 b1 a0 a1 a2 a3 a4 a5 a6 a7 a8 a9 g_6 a11 a12) H := hP
                    exact W.iret (v := (a6 ((((4 : Int32) * p1) + p2) - (4 : Int32)).toNatClampNeg)) hx hb hr (fun t ht hW => ⟨⟨(a6 ((((4 : Int32) * p1) + p2) - (4 : Int32)).toNatClampNeg), (g_6), rfl, ⟨by subst hg_6; rw [← hF, lr_R_type_19_s, if_pos c_7, if_neg c_8, if_neg c_10, if_neg c_12, if_neg c_14, if_pos c_16], (by subst hg_6; rw [← hG_a10, la10_R_type_19_s, if_pos c_7, if_neg c_8, if_neg c_10, if_neg c_12, if_neg c_14, if_pos c_16])⟩, hp_at ht hP9⟩, hS.F ht⟩) hS.2.2 d_R_type_148
                  · skip
                    by_cases c_18 : p2 = (5 : Int32)
                    · refine lv_tableIn (tgt := 136) (off := 84) hx hb d_R_type_52 (by rw [c_18]; decide +kernel) (by rw [c_18]; decide +kernel) (by rw [c_18]; rfl) (by decide) ?_
                      refine lv_aload_n hx hb d_R_type_136 rfl (lv_at hl 2 rfl) ?_
                      refine va_get (D := (dC, dI)) (ci := 3) (v := .ref (qa 7)) (C := R_R) (T := F_R) (N := 15) hx hb hts i_R hown hK hP 0 rfl rfl 7 (by decide) (hts _ k_54) (fun _ h9 => h9) rfl d_R_type_137 ?_
                      refine lv_iconst (v := (4 : Int32)) hx hb d_R_type_140 (by decide +kernel) ?_
                      refine lv_iload_n hx hb d_R_type_141 rfl (lv_at hl 3 rfl) ?_
                      refine lv_imul hx hb d_R_type_142 ?_
                      refine lv_iload_n hx hb d_R_type_143 rfl (lv_at hl 4 rfl) ?_
                      refine lv_iadd hx hb d_R_type_144 ?_
                      refine lv_iconst (v := (4 : Int32)) hx hb d_R_type_145 (by decide +kernel) ?_
                      refine lv_isub hx hb d_R_type_146 ?_
                      have hi_19 : vp_in ((((4 : Int32) * p1) + p2) - (4 : Int32)) 52 := by exact jn_w (by first | with_reducible assumption | exact rin_has hT (by with_reducible assumption)) (by first | exact Or.inl (by with_reducible assumption) | exact Or.inr (Or.inl (by with_reducible assumption)) | exact Or.inr (Or.inr (Or.inl (by with_reducible assumption))) | exact Or.inr (Or.inr (Or.inr (by with_reducible assumption))))
                      refine va_iald (D := (dC, dI)) (f := a6) hx hb hK hP 7 6 rfl rfl hi_19 d_R_type_147 ?_
                      have hP9 : va_P (dC, dI) classes (wR ka qa b0 b1 a0 a1 a2 a3 a4 a5 a6 a7 a8 a9 g_6 a11 a12) H := hP
                      exact W.iret (v := (a6 ((((4 : Int32) * p1) + p2) - (4 : Int32)).toNatClampNeg)) hx hb hr (fun t ht hW => ⟨⟨(a6 ((((4 : Int32) * p1) + p2) - (4 : Int32)).toNatClampNeg), (g_6), rfl, ⟨by subst hg_6; rw [← hF, lr_R_type_19_s, if_pos c_7, if_neg c_8, if_neg c_10, if_neg c_12, if_neg c_14, if_neg c_16, if_pos c_18], (by subst hg_6; rw [← hG_a10, la10_R_type_19_s, if_pos c_7, if_neg c_8, if_neg c_10, if_neg c_12, if_neg c_14, if_neg c_16, if_pos c_18])⟩, hp_at ht hP9⟩, hS.F ht⟩) hS.2.2 d_R_type_148
                    · skip
                      by_cases c_20 : p2 = (6 : Int32)
                      · refine lv_tableIn (tgt := 136) (off := 84) hx hb d_R_type_52 (by rw [c_20]; decide +kernel) (by rw [c_20]; decide +kernel) (by rw [c_20]; rfl) (by decide) ?_
                        refine lv_aload_n hx hb d_R_type_136 rfl (lv_at hl 2 rfl) ?_
                        refine va_get (D := (dC, dI)) (ci := 3) (v := .ref (qa 7)) (C := R_R) (T := F_R) (N := 15) hx hb hts i_R hown hK hP 0 rfl rfl 7 (by decide) (hts _ k_54) (fun _ h9 => h9) rfl d_R_type_137 ?_
                        refine lv_iconst (v := (4 : Int32)) hx hb d_R_type_140 (by decide +kernel) ?_
                        refine lv_iload_n hx hb d_R_type_141 rfl (lv_at hl 3 rfl) ?_
                        refine lv_imul hx hb d_R_type_142 ?_
                        refine lv_iload_n hx hb d_R_type_143 rfl (lv_at hl 4 rfl) ?_
                        refine lv_iadd hx hb d_R_type_144 ?_
                        refine lv_iconst (v := (4 : Int32)) hx hb d_R_type_145 (by decide +kernel) ?_
                        refine lv_isub hx hb d_R_type_146 ?_
                        have hi_21 : vp_in ((((4 : Int32) * p1) + p2) - (4 : Int32)) 52 := by exact jn_w (by first | with_reducible assumption | exact rin_has hT (by with_reducible assumption)) (by first | exact Or.inl (by with_reducible assumption) | exact Or.inr (Or.inl (by with_reducible assumption)) | exact Or.inr (Or.inr (Or.inl (by with_reducible assumption))) | exact Or.inr (Or.inr (Or.inr (by with_reducible assumption))))
                        refine va_iald (D := (dC, dI)) (f := a6) hx hb hK hP 7 6 rfl rfl hi_21 d_R_type_147 ?_
                        have hP9 : va_P (dC, dI) classes (wR ka qa b0 b1 a0 a1 a2 a3 a4 a5 a6 a7 a8 a9 g_6 a11 a12) H := hP
                        exact W.iret (v := (a6 ((((4 : Int32) * p1) + p2) - (4 : Int32)).toNatClampNeg)) hx hb hr (fun t ht hW => ⟨⟨(a6 ((((4 : Int32) * p1) + p2) - (4 : Int32)).toNatClampNeg), (g_6), rfl, ⟨by subst hg_6; rw [← hF, lr_R_type_19_s, if_pos c_7, if_neg c_8, if_neg c_10, if_neg c_12, if_neg c_14, if_neg c_16, if_neg c_18, if_pos c_20], (by subst hg_6; rw [← hG_a10, la10_R_type_19_s, if_pos c_7, if_neg c_8, if_neg c_10, if_neg c_12, if_neg c_14, if_neg c_16, if_neg c_18, if_pos c_20])⟩, hp_at ht hP9⟩, hS.F ht⟩) hS.2.2 d_R_type_148
                      · skip
                        by_cases c_22 : p2 = (7 : Int32)
                        · refine lv_tableIn (tgt := 136) (off := 84) hx hb d_R_type_52 (by rw [c_22]; decide +kernel) (by rw [c_22]; decide +kernel) (by rw [c_22]; rfl) (by decide) ?_
                          refine lv_aload_n hx hb d_R_type_136 rfl (lv_at hl 2 rfl) ?_
                          refine va_get (D := (dC, dI)) (ci := 3) (v := .ref (qa 7)) (C := R_R) (T := F_R) (N := 15) hx hb hts i_R hown hK hP 0 rfl rfl 7 (by decide) (hts _ k_54) (fun _ h9 => h9) rfl d_R_type_137 ?_
                          refine lv_iconst (v := (4 : Int32)) hx hb d_R_type_140 (by decide +kernel) ?_
                          refine lv_iload_n hx hb d_R_type_141 rfl (lv_at hl 3 rfl) ?_
                          refine lv_imul hx hb d_R_type_142 ?_
                          refine lv_iload_n hx hb d_R_type_143 rfl (lv_at hl 4 rfl) ?_
                          refine lv_iadd hx hb d_R_type_144 ?_
                          refine lv_iconst (v := (4 : Int32)) hx hb d_R_type_145 (by decide +kernel) ?_
                          refine lv_isub hx hb d_R_type_146 ?_
                          have hi_23 : vp_in ((((4 : Int32) * p1) + p2) - (4 : Int32)) 52 := by exact jn_w (by first | with_reducible assumption | exact rin_has hT (by with_reducible assumption)) (by first | exact Or.inl (by with_reducible assumption) | exact Or.inr (Or.inl (by with_reducible assumption)) | exact Or.inr (Or.inr (Or.inl (by with_reducible assumption))) | exact Or.inr (Or.inr (Or.inr (by with_reducible assumption))))
                          refine va_iald (D := (dC, dI)) (f := a6) hx hb hK hP 7 6 rfl rfl hi_23 d_R_type_147 ?_
                          have hP9 : va_P (dC, dI) classes (wR ka qa b0 b1 a0 a1 a2 a3 a4 a5 a6 a7 a8 a9 g_6 a11 a12) H := hP
                          exact W.iret (v := (a6 ((((4 : Int32) * p1) + p2) - (4 : Int32)).toNatClampNeg)) hx hb hr (fun t ht hW => ⟨⟨(a6 ((((4 : Int32) * p1) + p2) - (4 : Int32)).toNatClampNeg), (g_6), rfl, ⟨by subst hg_6; rw [← hF, lr_R_type_19_s, if_pos c_7, if_neg c_8, if_neg c_10, if_neg c_12, if_neg c_14, if_neg c_16, if_neg c_18, if_neg c_20, if_pos c_22], (by subst hg_6; rw [← hG_a10, la10_R_type_19_s, if_pos c_7, if_neg c_8, if_neg c_10, if_neg c_12, if_neg c_14, if_neg c_16, if_neg c_18, if_neg c_20, if_pos c_22])⟩, hp_at ht hP9⟩, hS.F ht⟩) hS.2.2 d_R_type_148
                        · skip
                          by_cases c_24 : p2 = (8 : Int32)
                          · refine lv_tableIn (tgt := 149) (off := 97) hx hb d_R_type_52 (by rw [c_24]; decide +kernel) (by rw [c_24]; decide +kernel) (by rw [c_24]; rfl) (by decide) ?_
                            refine lv_iload_n hx hb d_R_type_149 rfl (lv_at hl 0 rfl) ?_
                            have hP9 : va_P (dC, dI) classes (wR ka qa b0 b1 a0 a1 a2 a3 a4 a5 a6 a7 a8 a9 g_6 a11 a12) H := hP
                            exact W.iret (v := x3) hx hb hr (fun t ht hW => ⟨⟨x3, (g_6), rfl, ⟨by subst hg_6; rw [← hF, lr_R_type_19_s, if_pos c_7, if_neg c_8, if_neg c_10, if_neg c_12, if_neg c_14, if_neg c_16, if_neg c_18, if_neg c_20, if_neg c_22, if_pos c_24], (by subst hg_6; rw [← hG_a10, la10_R_type_19_s, if_pos c_7, if_neg c_8, if_neg c_10, if_neg c_12, if_neg c_14, if_neg c_16, if_neg c_18, if_neg c_20, if_neg c_22, if_pos c_24])⟩, hp_at ht hP9⟩, hS.F ht⟩) hS.2.2 d_R_type_150
                          · skip
                            by_cases c_25 : p2 = (9 : Int32)
                            · refine lv_tableIn (tgt := 151) (off := 99) hx hb d_R_type_52 (by rw [c_25]; decide +kernel) (by rw [c_25]; decide +kernel) (by rw [c_25]; rfl) (by decide) ?_
                              refine lv_aload_n hx hb d_R_type_151 rfl (lv_at hl 2 rfl) ?_
                              refine va_get (D := (dC, dI)) (ci := 3) (v := .ref (qa 1)) (C := R_R) (T := F_R) (N := 15) hx hb hts i_R hown hK hP 0 rfl rfl 1 (by decide) (hts _ k_52) (fun _ h9 => h9) rfl d_R_type_152 ?_
                              refine lv_iload_n hx hb d_R_type_155 rfl (lv_at hl 3 rfl) ?_
                              have hi_26 : vp_in p1 13 := by first | with_reducible assumption | exact rin_has hT (by with_reducible assumption)
                              refine va_zald (D := (dC, dI)) (f := a0) hx hb hK hP 1 0 rfl rfl hi_26 d_R_type_156 ?_
                              refine lv_if_eq (tgt := 164) hx hb d_R_type_157 (by decide) (fun c_27 => ?_) (fun c_27 => ?_)
                              · have c_27 : (a0 p1.toNatClampNeg) = (0 : Int32) := c_27
                                refine lv_iconst (v := (0 : Int32)) hx hb d_R_type_164 (by decide +kernel) ?_
                                have hP9 : va_P (dC, dI) classes (wR ka qa b0 b1 a0 a1 a2 a3 a4 a5 a6 a7 a8 a9 g_6 a11 a12) H := hP
                                exact W.iret (v := (0 : Int32)) hx hb hr (fun t ht hW => ⟨⟨(0 : Int32), (g_6), rfl, ⟨by subst hg_6; rw [← hF, lr_R_type_19_s, if_pos c_7, if_neg c_8, if_neg c_10, if_neg c_12, if_neg c_14, if_neg c_16, if_neg c_18, if_neg c_20, if_neg c_22, if_neg c_24, if_pos c_25, if_pos c_27], (by subst hg_6; rw [← hG_a10, la10_R_type_19_s, if_pos c_7, if_neg c_8, if_neg c_10, if_neg c_12, if_neg c_14, if_neg c_16, if_neg c_18, if_neg c_20, if_neg c_22, if_neg c_24, if_pos c_25, if_pos c_27])⟩, hp_at ht hP9⟩, hS.F ht⟩) hS.2.2 d_R_type_165
                              · have c_27 : ¬ ((a0 p1.toNatClampNeg) = (0 : Int32)) := c_27
                                refine lv_iconst (v := (1 : Int32)) hx hb d_R_type_160 (by decide +kernel) ?_
                                refine lv_goto (tgt := 165) hx hb d_R_type_161 (by decide) ?_
                                have hP9 : va_P (dC, dI) classes (wR ka qa b0 b1 a0 a1 a2 a3 a4 a5 a6 a7 a8 a9 g_6 a11 a12) H := hP
                                exact W.iret (v := (1 : Int32)) hx hb hr (fun t ht hW => ⟨⟨(1 : Int32), (g_6), rfl, ⟨by subst hg_6; rw [← hF, lr_R_type_19_s, if_pos c_7, if_neg c_8, if_neg c_10, if_neg c_12, if_neg c_14, if_neg c_16, if_neg c_18, if_neg c_20, if_neg c_22, if_neg c_24, if_pos c_25, if_neg c_27], (by subst hg_6; rw [← hG_a10, la10_R_type_19_s, if_pos c_7, if_neg c_8, if_neg c_10, if_neg c_12, if_neg c_14, if_neg c_16, if_neg c_18, if_neg c_20, if_neg c_22, if_neg c_24, if_pos c_25, if_neg c_27])⟩, hp_at ht hP9⟩, hS.F ht⟩) hS.2.2 d_R_type_165
                            · skip
                              refine lv_tableOut (tgt := 166) hx hb d_R_type_52 (by have z0 := ne_ti (z := 0) c_8 rfl; have z1 := ne_ti (z := 1) c_10 rfl; have z2 := ne_ti (z := 2) c_12 rfl; have z3 := ne_ti (z := 3) c_14 rfl; have z4 := ne_ti (z := 4) c_16 rfl; have z5 := ne_ti (z := 5) c_18 rfl; have z6 := ne_ti (z := 6) c_20 rfl; have z7 := ne_ti (z := 7) c_22 rfl; have z8 := ne_ti (z := 8) c_24 rfl; have z9 := ne_ti (z := 9) c_25 rfl; omega) (by decide) ?_
                              refine lv_iconst (v := (-1 : Int32)) hx hb d_R_type_166 (by decide +kernel) ?_
                              have hP9 : va_P (dC, dI) classes (wR ka qa b0 b1 a0 a1 a2 a3 a4 a5 a6 a7 a8 a9 g_6 a11 a12) H := hP
                              exact W.iret (v := (-1 : Int32)) hx hb hr (fun t ht hW => ⟨⟨(-1 : Int32), (g_6), rfl, ⟨by subst hg_6; rw [← hF, lr_R_type_19_s, if_pos c_7, if_neg c_8, if_neg c_10, if_neg c_12, if_neg c_14, if_neg c_16, if_neg c_18, if_neg c_20, if_neg c_22, if_neg c_24, if_neg c_25], (by subst hg_6; rw [← hG_a10, la10_R_type_19_s, if_pos c_7, if_neg c_8, if_neg c_10, if_neg c_12, if_neg c_14, if_neg c_16, if_neg c_18, if_neg c_20, if_neg c_22, if_neg c_24, if_neg c_25])⟩, hp_at ht hP9⟩, hS.F ht⟩) hS.2.2 d_R_type_167
        · have c_7 : ¬ (b0 < x4) := c_7
          refine lv_aload_n hx hb d_R_type_28 rfl (lv_at hl 2 rfl) ?_
          refine va_get (D := (dC, dI)) (ci := 3) (v := .ref (qa 11)) (C := R_R) (T := F_R) (N := 15) hx hb hts i_R hown hK hP 0 rfl rfl 11 (by decide) (hts _ k_45) (fun _ h9 => h9) rfl d_R_type_29 ?_
          refine lv_iload_n hx hb d_R_type_32 rfl (lv_at hl 3 rfl) ?_
          have hi_28 : vp_in p1 13 := by first | with_reducible assumption | exact rin_has hT (by with_reducible assumption)
          refine va_iald (D := (dC, dI)) (f := g_6) hx hb hK hP 11 10 rfl rfl hi_28 d_R_type_33 ?_
          refine lv_iload hx hb d_R_type_34 (lv_at hl 1 rfl) ?_
          refine lv_ishr hx hb d_R_type_36 ?_
          refine lv_iconst (v := (1 : Int32)) hx hb d_R_type_37 (by decide +kernel) ?_
          refine lv_iand hx hb d_R_type_38 ?_
          refine lv_if_eq (tgt := 45) hx hb d_R_type_39 (by decide) (fun c_29 => ?_) (fun c_29 => ?_)
          · have c_29 : (((g_6 p1.toNatClampNeg) >>> (x4 &&& (31 : Int32))) &&& (1 : Int32)) = (0 : Int32) := c_29
            refine lv_iinc (v := (x4 + (1 : Int32))) (lv' := [(4, .int (x4 + (1 : Int32))), (3, .int x3), (0, .ref (qa 0)), (1, .int p1), (2, .int p2)]) hx hb d_R_type_45 hl (k := 1) rfl (by rw [of_p1]) (by decide) rfl (fun ls hl => ?_)
            refine lv_goto (tgt := 19) hx hb d_R_type_48 (by decide) ?_
            exact ih (k + 1) x3 (x4 + (1 : Int32)) _ _ _ (by rw [et]; exact nI_1 k) (by omega) (by first | exact Nat.succ_le_succ (leT hT et h2 (by with_reducible assumption)) | exact Nat.succ_le_succ (Nat.le_trans (Nat.le_of_lt (rltDc hdc et h2 (by with_reducible assumption) (by with_reducible assumption))) (by decide))) (by subst hg_6; rw [← hF, lr_R_type_19_s, if_neg c_7, if_pos c_29]) (by subst hg_6; rw [← hG_a10, la10_R_type_19_s, if_neg c_7, if_pos c_29]) hP hD hS (lv_sub hl [1, 0, 2, 3, 4] rfl)
          · have c_29 : ¬ ((((g_6 p1.toNatClampNeg) >>> (x4 &&& (31 : Int32))) &&& (1 : Int32)) = (0 : Int32)) := c_29
            refine lv_iinc (v := (x3 + (1 : Int32))) (lv' := [(3, .int (x3 + (1 : Int32))), (4, .int x4), (0, .ref (qa 0)), (1, .int p1), (2, .int p2)]) hx hb d_R_type_42 hl (k := 0) rfl (by rw [of_p1]) (by decide) rfl (fun ls hl => ?_)
            refine lv_iinc (v := (x4 + (1 : Int32))) (lv' := [(4, .int (x4 + (1 : Int32))), (3, .int (x3 + (1 : Int32))), (0, .ref (qa 0)), (1, .int p1), (2, .int p2)]) hx hb d_R_type_45 hl (k := 1) rfl (by rw [of_p1]) (by decide) rfl (fun ls hl => ?_)
            refine lv_goto (tgt := 19) hx hb d_R_type_48 (by decide) ?_
            exact ih (k + 1) (x3 + (1 : Int32)) (x4 + (1 : Int32)) _ _ _ (by rw [et]; exact nI_1 k) (by omega) (by first | exact Nat.succ_le_succ (leT hT et h2 (by with_reducible assumption)) | exact Nat.succ_le_succ (Nat.le_trans (Nat.le_of_lt (rltDc hdc et h2 (by with_reducible assumption) (by with_reducible assumption))) (by decide))) (by subst hg_6; rw [← hF, lr_R_type_19_s, if_neg c_7, if_neg c_29]) (by subst hg_6; rw [← hG_a10, la10_R_type_19_s, if_neg c_7, if_neg c_29]) hP hD hS (lv_sub hl [1, 0, 2, 3, 4] rfl)
    exact LOOP_19 14 1 (0 : Int32) (1 : Int32) _ _ _ (rfl) (by omega) (by omega) (by subst hg_6; unfold f_R_type; rw [if_neg c_1]) (by subst hg_6; unfold s_R_type_a10; rw [if_neg c_1]) hP hD hS (lv_sub hl [1, 0, 2, 3, 4] rfl)
  · have c_1 : (f_R_there b0 p1) = (0 : Int32) := c_1
    refine lv_iconst (v := (-1 : Int32)) hx hb d_R_type_8 (by decide +kernel) ?_
    have hP9 : va_P (dC, dI) classes (wR ka qa b0 b1 a0 a1 a2 a3 a4 a5 a6 a7 a8 a9 a10 a11 a12) H := hP
    exact W.iret (v := (-1 : Int32)) hx hb hr (fun t ht hW => ⟨⟨(-1 : Int32), (a10), rfl, ⟨by unfold f_R_type; rw [if_pos c_1], (by unfold s_R_type_a10; rw [if_pos c_1])⟩, hp_at ht hP9⟩, hS.F ht⟩) hS.2.2 d_R_type_9
