set_option maxHeartbeats 4000000 in
set_option maxRecDepth 100000 in
theorem law_c0 {p : Program} {l : Launch} {e : Env} {s : State} {m : MethodId} {below : List Frame} {meth : Method} {c : Code} {dC : Nat → ClassId} {dI : Nat → Nat → Nat} {b L : Nat} {xs : Nat → Int32} (hL : L ≤ 3072) (C0 : lw_At p s m meth c b L xs) (hN : NX s) {h0 : Nat} {kw kf km ka : Nat → ClassId} {qw qf qm qa : Nat → Nat} (hK : va_K (dC, dI) classes (tO kw kf km ++ tR ka) s) {x3 : Int32} {i : Nat} (ex : x3 = nI i) (hi : i + 6 ≤ L) {ls : Array Slot} (hl : lv_has ls 4 [(0, .ref b), (1, .ref h0), (2, .ref (qa 0)), (3, .int x3)]) (hc : LW p l e s m below meth c dC dI h0 kw kf km qw qf qm ka qa b 850 ls) : LW p l e s m below meth c dC dI h0 kw kf km qw qf qm ka qa b 112 ls := by
  obtain ⟨hx, hb, hr, hml, hown, hts0, hX, hbl, hlocks, hgv⟩ := C0
  have hts : ∀ w ∈ lw_g, w.before #[Value.ref b] s = true := fun w hw => hts0 w (lw_g_in hw)
  have hA : ∀ q : Nat, s.heap.size ≤ q → (fun q : Nat => s.heap.size ≤ q) q := fun _ h => h
  have hbA : ¬ (fun q : Nat => s.heap.size ≤ q) b := Nat.not_le.mpr hbl
  have i1 : vp_in (x3 + (1 : Int32)) L := law_ix (k := 1) ex hL (by omega)
  have i2 : vp_in (x3 + (2 : Int32)) L := law_ix (k := 2) ex hL (by omega)
  have i3 : vp_in (x3 + (3 : Int32)) L := law_ix (k := 3) ex hL (by omega)
  have i4 : vp_in (x3 + (4 : Int32)) L := law_ix (k := 4) ex hL (by omega)
  have i5 : vp_in (x3 + (5 : Int32)) L := law_ix (k := 5) ex hL (by omega)
  intro v lc b0 b1 a0 a1 a2 a3 a4 a5 a6 a7 a8 a9 a10 a11 a12 H locs hP hD hS hR
  refine lv_aload_n hx hb d_law_112 rfl (lv_at hl 1 rfl) ?_
  refine lv_aload_n hx hb d_law_113 rfl (lv_at hl 0 rfl) ?_
  refine lv_iload_n hx hb d_law_114 rfl (lv_at hl 3 rfl) ?_
  refine lv_iconst (v := (1 : Int32)) hx hb d_law_115 (by decide) ?_
  refine lv_iadd hx hb d_law_116 ?_
  refine va_sld hx hb hX hbl hbA hS i1 d_law_117 ?_
  refine lv_aload_n hx hb d_law_118 rfl (lv_at hl 0 rfl) ?_
  refine lv_iload_n hx hb d_law_119 rfl (lv_at hl 3 rfl) ?_
  refine lv_iconst (v := (2 : Int32)) hx hb d_law_120 (by decide) ?_
  refine lv_iadd hx hb d_law_121 ?_
  refine va_sld hx hb hX hbl hbA hS i2 d_law_122 ?_
  refine lv_aload_n hx hb d_law_123 rfl (lv_at hl 0 rfl) ?_
  refine lv_iload_n hx hb d_law_124 rfl (lv_at hl 3 rfl) ?_
  refine lv_iconst (v := (3 : Int32)) hx hb d_law_125 (by decide) ?_
  refine lv_iadd hx hb d_law_126 ?_
  refine va_sld hx hb hX hbl hbA hS i3 d_law_127 ?_
  refine lv_if_eq (tgt := 135) hx hb d_law_128 (by decide) (fun c1 => ?_) (fun c1 => ?_)
  · skip
    refine lv_iconst (v := (0 : Int32)) hx hb d_law_135 (by decide) ?_
    refine lv_aload_n hx hb d_law_136 rfl (lv_at hl 0 rfl) ?_
    refine lv_iload_n hx hb d_law_137 rfl (lv_at hl 3 rfl) ?_
    refine lv_iconst (v := (4 : Int32)) hx hb d_law_138 (by decide) ?_
    refine lv_iadd hx hb d_law_139 ?_
    refine va_sld hx hb hX hbl hbA hS i4 d_law_140 ?_
    refine lv_if_eq (tgt := 148) hx hb d_law_141 (by decide) (fun c2 => ?_) (fun c2 => ?_)
    · skip
      refine lv_iconst (v := (0 : Int32)) hx hb d_law_148 (by decide) ?_
      have hPc := hP.sub (ws' := (wO h0 kw kf km qw qf qm v lc)) [0, 1, 2, 3, 4, 5, 6, 7, 8, 9, 10, 11, 12, 13, 14, 15, 16, 17, 18, 19] rfl
      have hDc := hD.sub (ws' := (wO h0 kw kf km qw qf qm v lc)) [0, 1, 2, 3, 4, 5, 6, 7, 8, 9, 10, 11, 12, 13, 14, 15, 16, 17, 18, 19] (by decide) rfl
      have hFc := va_free (wc := (wO h0 kw kf km qw qf qm v lc)) hD hS hA [0, 1, 2, 3, 4, 5, 6, 7, 8, 9, 10, 11, 12, 13, 14, 15, 16, 17, 18, 19] rfl
      refine va_calli (va_runV (As := [.int (xs (x3 + (1 : Int32)).toNatClampNeg), .int (xs (x3 + (2 : Int32)).toNatClampNeg), .int (0 : Int32), .int (0 : Int32)]) (rest := []) ⟨hx, hb, hml, hown, hts⟩ (c_O_tellClass l dC dI h0 kw kf km qw qf qm H.size v lc (xs (x3 + (1 : Int32)).toNatClampNeg) (xs (x3 + (2 : Int32)).toNatClampNeg) (0 : Int32) (0 : Int32) hR.wf) (cwV 4 hts k_LO_tellClass rfl rfl rfl (by decide +kernel) ⟨Nat.le_of_ble_eq_true rfl, Nat.le_of_ble_eq_true rfl⟩) ⟨fb_mu, va_recv hK hP (ci := 2) (q0 := 0) rfl rfl, fun U hU hW => ⟨rfl, by rw [hU], by rw [hU]; exact hPc, va_K.moved hW.alike (hK.sub (tys' := (tO kw kf km)) [0, 1, 2, 3, 4, 5, 6, 7, 8, 9, 10, 11, 12, 13, 14, 15] rfl), NX.warm hW hN, hDc.weaken (fun _ _ _ _ => trivial)⟩⟩ rfl rfl hl.1 rfl (lv_room (Nat.le_of_ble_eq_true rfl)) d_law_149 ⟨Nat.le_of_ble_eq_true rfl, Nat.le_of_ble_eq_true rfl⟩) hS (fun q _ h => hFc q h) hFc (fun r u t H1 locs ht hvm hpo hB hz1 hk1 hS => ?_)
      obtain ⟨rfl, rfl⟩ := hpo
      have hB : va_P (dC, dI) classes (wO h0 kw kf km qw qf qm (s_O_tellClass v (xs (x3 + (1 : Int32)).toNatClampNeg) (xs (x3 + (2 : Int32)).toNatClampNeg) (0 : Int32) (0 : Int32)) lc) H1 := hp_to ht hB
      obtain ⟨hP, hD⟩ := va_join (wr := (wR ka qa b0 b1 a0 a1 a2 a3 a4 a5 a6 a7 a8 a9 a10 a11 a12)) (w1 := (wO h0 kw kf km qw qf qm (s_O_tellClass v (xs (x3 + (1 : Int32)).toNatClampNeg) (xs (x3 + (2 : Int32)).toNatClampNeg) (0 : Int32) (0 : Int32)) lc)) hP hD [0, 1, 2, 3, 4, 5, 6, 7, 8, 9, 10, 11, 12, 13, 14, 15, 16, 17, 18, 19] [20, 21, 22, 23, 24, 25, 26, 27, 28, 29, 30, 31, 32, 33] rfl rfl (by decide) (by decide) hk1 hFc hB (ad_D hDc.self rfl)
      have hP := hP.sub (ws' := (wO h0 kw kf km qw qf qm (s_O_tellClass v (xs (x3 + (1 : Int32)).toNatClampNeg) (xs (x3 + (2 : Int32)).toNatClampNeg) (0 : Int32) (0 : Int32)) lc) ++ (wR ka qa b0 b1 a0 a1 a2 a3 a4 a5 a6 a7 a8 a9 a10 a11 a12)) [14, 15, 16, 17, 18, 19, 20, 21, 22, 23, 24, 25, 26, 27, 28, 29, 30, 31, 32, 33, 0, 1, 2, 3, 4, 5, 6, 7, 8, 9, 10, 11, 12, 13] rfl
      have hD := hD.sub (ws' := (wO h0 kw kf km qw qf qm (s_O_tellClass v (xs (x3 + (1 : Int32)).toNatClampNeg) (xs (x3 + (2 : Int32)).toNatClampNeg) (0 : Int32) (0 : Int32)) lc) ++ (wR ka qa b0 b1 a0 a1 a2 a3 a4 a5 a6 a7 a8 a9 a10 a11 a12)) [14, 15, 16, 17, 18, 19, 20, 21, 22, 23, 24, 25, 26, 27, 28, 29, 30, 31, 32, 33, 0, 1, 2, 3, 4, 5, 6, 7, 8, 9, 10, 11, 12, 13] (by decide) rfl
      generalize H1 = H at hP hS ⊢
      refine lv_aload_n hx hb d_law_152 rfl (lv_at hl 2 rfl) ?_
      refine lv_aload_n hx hb d_law_153 rfl (lv_at hl 0 rfl) ?_
      refine lv_iload_n hx hb d_law_154 rfl (lv_at hl 3 rfl) ?_
      refine lv_iconst (v := (1 : Int32)) hx hb d_law_155 (by decide) ?_
      refine lv_iadd hx hb d_law_156 ?_
      refine va_sld hx hb hX hbl hbA hS i1 d_law_157 ?_
      refine lv_aload_n hx hb d_law_158 rfl (lv_at hl 0 rfl) ?_
      refine lv_iload_n hx hb d_law_159 rfl (lv_at hl 3 rfl) ?_
      refine lv_iconst (v := (2 : Int32)) hx hb d_law_160 (by decide) ?_
      refine lv_iadd hx hb d_law_161 ?_
      refine va_sld hx hb hX hbl hbA hS i2 d_law_162 ?_
      refine lv_aload_n hx hb d_law_163 rfl (lv_at hl 0 rfl) ?_
      refine lv_iload_n hx hb d_law_164 rfl (lv_at hl 3 rfl) ?_
      refine lv_iconst (v := (3 : Int32)) hx hb d_law_165 (by decide) ?_
      refine lv_iadd hx hb d_law_166 ?_
      refine va_sld hx hb hX hbl hbA hS i3 d_law_167 ?_
      refine lv_if_eq (tgt := 175) hx hb d_law_168 (by decide) (fun c3 => ?_) (fun c3 => ?_)
      · skip
        refine lv_iconst (v := (0 : Int32)) hx hb d_law_175 (by decide) ?_
        refine lv_aload_n hx hb d_law_176 rfl (lv_at hl 0 rfl) ?_
        refine lv_iload_n hx hb d_law_177 rfl (lv_at hl 3 rfl) ?_
        refine lv_iconst (v := (4 : Int32)) hx hb d_law_178 (by decide) ?_
        refine lv_iadd hx hb d_law_179 ?_
        refine va_sld hx hb hX hbl hbA hS i4 d_law_180 ?_
        refine lv_if_eq (tgt := 188) hx hb d_law_181 (by decide) (fun c4 => ?_) (fun c4 => ?_)
        · skip
          refine lv_iconst (v := (0 : Int32)) hx hb d_law_188 (by decide) ?_
          have hPc := hP.sub (ws' := (wR ka qa b0 b1 a0 a1 a2 a3 a4 a5 a6 a7 a8 a9 a10 a11 a12)) [20, 21, 22, 23, 24, 25, 26, 27, 28, 29, 30, 31, 32, 33] rfl
          have hDc := hD.sub (ws' := (wR ka qa b0 b1 a0 a1 a2 a3 a4 a5 a6 a7 a8 a9 a10 a11 a12)) [20, 21, 22, 23, 24, 25, 26, 27, 28, 29, 30, 31, 32, 33] (by decide) rfl
          have hFc := va_free (wc := (wR ka qa b0 b1 a0 a1 a2 a3 a4 a5 a6 a7 a8 a9 a10 a11 a12)) hD hS hA [20, 21, 22, 23, 24, 25, 26, 27, 28, 29, 30, 31, 32, 33] rfl
          refine va_calli (va_runV (As := [.int (xs (x3 + (1 : Int32)).toNatClampNeg), .int (xs (x3 + (2 : Int32)).toNatClampNeg), .int (0 : Int32), .int (0 : Int32)]) (rest := [.int (f_O_tellClass v (xs (x3 + (1 : Int32)).toNatClampNeg) (xs (x3 + (2 : Int32)).toNatClampNeg) (0 : Int32) (0 : Int32))]) ⟨hx, hb, hml, hown, hts⟩ (c_R_tellClass l dC dI ka qa H.size b0 b1 a0 a1 a2 a3 a4 a5 a6 a7 a8 a9 a10 a11 a12 (xs (x3 + (1 : Int32)).toNatClampNeg) (xs (x3 + (2 : Int32)).toNatClampNeg) (0 : Int32) (0 : Int32) hR.vt) (cwV 4 hts k_LR_tellClass rfl rfl rfl (by decide +kernel) ⟨Nat.le_of_ble_eq_true rfl, Nat.le_of_ble_eq_true rfl⟩) ⟨fb_mu, va_recv hK hP (ci := 3) (q0 := 20) rfl rfl, fun U hU hW => ⟨rfl, by rw [hU], by rw [hU]; exact hPc, va_K.moved hW.alike (hK.sub (tys' := (tR ka)) [16, 17, 18, 19, 20, 21, 22, 23, 24, 25, 26, 27, 28] rfl), NX.warm hW hN, hDc.weaken (fun _ _ _ _ => trivial)⟩⟩ rfl rfl hl.1 rfl (lv_room (Nat.le_of_ble_eq_true rfl)) d_law_189 ⟨Nat.le_of_ble_eq_true rfl, Nat.le_of_ble_eq_true rfl⟩) hS (fun q _ h => hFc q h) hFc (fun r u t H1 locs ht hvm hpo hB hz1 hk1 hS => ?_)
          obtain ⟨rfl, rfl⟩ := hpo
          have hB : va_P (dC, dI) classes (wR ka qa (s_R_tellClass_b0 b0 a0 a1 a2 a3 a4 a5 (xs (x3 + (1 : Int32)).toNatClampNeg) (xs (x3 + (2 : Int32)).toNatClampNeg) (0 : Int32) (0 : Int32)) b1 a0 (s_R_tellClass_a1 b0 a0 a1 a2 a3 a4 a5 (xs (x3 + (1 : Int32)).toNatClampNeg) (xs (x3 + (2 : Int32)).toNatClampNeg) (0 : Int32) (0 : Int32)) (s_R_tellClass_a2 b0 a0 a1 a2 a3 a4 a5 (xs (x3 + (1 : Int32)).toNatClampNeg) (xs (x3 + (2 : Int32)).toNatClampNeg) (0 : Int32) (0 : Int32)) (s_R_tellClass_a3 b0 a0 a1 a2 a3 a4 a5 (xs (x3 + (1 : Int32)).toNatClampNeg) (xs (x3 + (2 : Int32)).toNatClampNeg) (0 : Int32) (0 : Int32)) (s_R_tellClass_a4 b0 a0 a1 a2 a3 a4 a5 (xs (x3 + (1 : Int32)).toNatClampNeg) (xs (x3 + (2 : Int32)).toNatClampNeg) (0 : Int32) (0 : Int32)) (s_R_tellClass_a5 b0 a0 a1 a2 a3 a4 a5 (xs (x3 + (1 : Int32)).toNatClampNeg) (xs (x3 + (2 : Int32)).toNatClampNeg) (0 : Int32) (0 : Int32)) a6 a7 a8 a9 a10 a11 a12) H1 := hp_to ht hB
          obtain ⟨hP, hD⟩ := va_join (wr := (wO h0 kw kf km qw qf qm (s_O_tellClass v (xs (x3 + (1 : Int32)).toNatClampNeg) (xs (x3 + (2 : Int32)).toNatClampNeg) (0 : Int32) (0 : Int32)) lc)) (w1 := (wR ka qa (s_R_tellClass_b0 b0 a0 a1 a2 a3 a4 a5 (xs (x3 + (1 : Int32)).toNatClampNeg) (xs (x3 + (2 : Int32)).toNatClampNeg) (0 : Int32) (0 : Int32)) b1 a0 (s_R_tellClass_a1 b0 a0 a1 a2 a3 a4 a5 (xs (x3 + (1 : Int32)).toNatClampNeg) (xs (x3 + (2 : Int32)).toNatClampNeg) (0 : Int32) (0 : Int32)) (s_R_tellClass_a2 b0 a0 a1 a2 a3 a4 a5 (xs (x3 + (1 : Int32)).toNatClampNeg) (xs (x3 + (2 : Int32)).toNatClampNeg) (0 : Int32) (0 : Int32)) (s_R_tellClass_a3 b0 a0 a1 a2 a3 a4 a5 (xs (x3 + (1 : Int32)).toNatClampNeg) (xs (x3 + (2 : Int32)).toNatClampNeg) (0 : Int32) (0 : Int32)) (s_R_tellClass_a4 b0 a0 a1 a2 a3 a4 a5 (xs (x3 + (1 : Int32)).toNatClampNeg) (xs (x3 + (2 : Int32)).toNatClampNeg) (0 : Int32) (0 : Int32)) (s_R_tellClass_a5 b0 a0 a1 a2 a3 a4 a5 (xs (x3 + (1 : Int32)).toNatClampNeg) (xs (x3 + (2 : Int32)).toNatClampNeg) (0 : Int32) (0 : Int32)) a6 a7 a8 a9 a10 a11 a12)) hP hD [20, 21, 22, 23, 24, 25, 26, 27, 28, 29, 30, 31, 32, 33] [0, 1, 2, 3, 4, 5, 6, 7, 8, 9, 10, 11, 12, 13, 14, 15, 16, 17, 18, 19] rfl rfl (by decide) (by decide) hk1 hFc hB (ad_D hDc.self rfl)
          generalize H1 = H at hP hS ⊢
          have hq := q_tellClass hR (p1 := (xs (x3 + (1 : Int32)).toNatClampNeg)) (p2 := (xs (x3 + (2 : Int32)).toNatClampNeg)) (p3 := (0 : Int32)) (p4 := (0 : Int32)) (by first | exact Or.inl rfl | exact Or.inr rfl) (by first | exact Or.inl rfl | exact Or.inr rfl)
          refine lv_icmp_eq (tgt := 850) hx hb d_law_192 (by decide) (fun _ => ?_) (fun cc => absurd hq.1 cc)
          exact hc (s_O_tellClass v (xs (x3 + (1 : Int32)).toNatClampNeg) (xs (x3 + (2 : Int32)).toNatClampNeg) (0 : Int32) (0 : Int32)) lc (s_R_tellClass_b0 b0 a0 a1 a2 a3 a4 a5 (xs (x3 + (1 : Int32)).toNatClampNeg) (xs (x3 + (2 : Int32)).toNatClampNeg) (0 : Int32) (0 : Int32)) b1 a0 (s_R_tellClass_a1 b0 a0 a1 a2 a3 a4 a5 (xs (x3 + (1 : Int32)).toNatClampNeg) (xs (x3 + (2 : Int32)).toNatClampNeg) (0 : Int32) (0 : Int32)) (s_R_tellClass_a2 b0 a0 a1 a2 a3 a4 a5 (xs (x3 + (1 : Int32)).toNatClampNeg) (xs (x3 + (2 : Int32)).toNatClampNeg) (0 : Int32) (0 : Int32)) (s_R_tellClass_a3 b0 a0 a1 a2 a3 a4 a5 (xs (x3 + (1 : Int32)).toNatClampNeg) (xs (x3 + (2 : Int32)).toNatClampNeg) (0 : Int32) (0 : Int32)) (s_R_tellClass_a4 b0 a0 a1 a2 a3 a4 a5 (xs (x3 + (1 : Int32)).toNatClampNeg) (xs (x3 + (2 : Int32)).toNatClampNeg) (0 : Int32) (0 : Int32)) (s_R_tellClass_a5 b0 a0 a1 a2 a3 a4 a5 (xs (x3 + (1 : Int32)).toNatClampNeg) (xs (x3 + (2 : Int32)).toNatClampNeg) (0 : Int32) (0 : Int32)) a6 a7 a8 a9 a10 a11 a12 H locs hP hD hS hq.2
        · exact absurd c2 c4
      · exact absurd c1 c3
    · skip
      refine lv_iconst (v := (1 : Int32)) hx hb d_law_144 (by decide) ?_
      refine lv_goto (tgt := 149) hx hb d_law_145 (by decide) ?_
      have hPc := hP.sub (ws' := (wO h0 kw kf km qw qf qm v lc)) [0, 1, 2, 3, 4, 5, 6, 7, 8, 9, 10, 11, 12, 13, 14, 15, 16, 17, 18, 19] rfl
      have hDc := hD.sub (ws' := (wO h0 kw kf km qw qf qm v lc)) [0, 1, 2, 3, 4, 5, 6, 7, 8, 9, 10, 11, 12, 13, 14, 15, 16, 17, 18, 19] (by decide) rfl
      have hFc := va_free (wc := (wO h0 kw kf km qw qf qm v lc)) hD hS hA [0, 1, 2, 3, 4, 5, 6, 7, 8, 9, 10, 11, 12, 13, 14, 15, 16, 17, 18, 19] rfl
      refine va_calli (va_runV (As := [.int (xs (x3 + (1 : Int32)).toNatClampNeg), .int (xs (x3 + (2 : Int32)).toNatClampNeg), .int (0 : Int32), .int (1 : Int32)]) (rest := []) ⟨hx, hb, hml, hown, hts⟩ (c_O_tellClass l dC dI h0 kw kf km qw qf qm H.size v lc (xs (x3 + (1 : Int32)).toNatClampNeg) (xs (x3 + (2 : Int32)).toNatClampNeg) (0 : Int32) (1 : Int32) hR.wf) (cwV 4 hts k_LO_tellClass rfl rfl rfl (by decide +kernel) ⟨Nat.le_of_ble_eq_true rfl, Nat.le_of_ble_eq_true rfl⟩) ⟨fb_mu, va_recv hK hP (ci := 2) (q0 := 0) rfl rfl, fun U hU hW => ⟨rfl, by rw [hU], by rw [hU]; exact hPc, va_K.moved hW.alike (hK.sub (tys' := (tO kw kf km)) [0, 1, 2, 3, 4, 5, 6, 7, 8, 9, 10, 11, 12, 13, 14, 15] rfl), NX.warm hW hN, hDc.weaken (fun _ _ _ _ => trivial)⟩⟩ rfl rfl hl.1 rfl (lv_room (Nat.le_of_ble_eq_true rfl)) d_law_149 ⟨Nat.le_of_ble_eq_true rfl, Nat.le_of_ble_eq_true rfl⟩) hS (fun q _ h => hFc q h) hFc (fun r u t H1 locs ht hvm hpo hB hz1 hk1 hS => ?_)
      obtain ⟨rfl, rfl⟩ := hpo
      have hB : va_P (dC, dI) classes (wO h0 kw kf km qw qf qm (s_O_tellClass v (xs (x3 + (1 : Int32)).toNatClampNeg) (xs (x3 + (2 : Int32)).toNatClampNeg) (0 : Int32) (1 : Int32)) lc) H1 := hp_to ht hB
      obtain ⟨hP, hD⟩ := va_join (wr := (wR ka qa b0 b1 a0 a1 a2 a3 a4 a5 a6 a7 a8 a9 a10 a11 a12)) (w1 := (wO h0 kw kf km qw qf qm (s_O_tellClass v (xs (x3 + (1 : Int32)).toNatClampNeg) (xs (x3 + (2 : Int32)).toNatClampNeg) (0 : Int32) (1 : Int32)) lc)) hP hD [0, 1, 2, 3, 4, 5, 6, 7, 8, 9, 10, 11, 12, 13, 14, 15, 16, 17, 18, 19] [20, 21, 22, 23, 24, 25, 26, 27, 28, 29, 30, 31, 32, 33] rfl rfl (by decide) (by decide) hk1 hFc hB (ad_D hDc.self rfl)
      have hP := hP.sub (ws' := (wO h0 kw kf km qw qf qm (s_O_tellClass v (xs (x3 + (1 : Int32)).toNatClampNeg) (xs (x3 + (2 : Int32)).toNatClampNeg) (0 : Int32) (1 : Int32)) lc) ++ (wR ka qa b0 b1 a0 a1 a2 a3 a4 a5 a6 a7 a8 a9 a10 a11 a12)) [14, 15, 16, 17, 18, 19, 20, 21, 22, 23, 24, 25, 26, 27, 28, 29, 30, 31, 32, 33, 0, 1, 2, 3, 4, 5, 6, 7, 8, 9, 10, 11, 12, 13] rfl
      have hD := hD.sub (ws' := (wO h0 kw kf km qw qf qm (s_O_tellClass v (xs (x3 + (1 : Int32)).toNatClampNeg) (xs (x3 + (2 : Int32)).toNatClampNeg) (0 : Int32) (1 : Int32)) lc) ++ (wR ka qa b0 b1 a0 a1 a2 a3 a4 a5 a6 a7 a8 a9 a10 a11 a12)) [14, 15, 16, 17, 18, 19, 20, 21, 22, 23, 24, 25, 26, 27, 28, 29, 30, 31, 32, 33, 0, 1, 2, 3, 4, 5, 6, 7, 8, 9, 10, 11, 12, 13] (by decide) rfl
      generalize H1 = H at hP hS ⊢
      refine lv_aload_n hx hb d_law_152 rfl (lv_at hl 2 rfl) ?_
      refine lv_aload_n hx hb d_law_153 rfl (lv_at hl 0 rfl) ?_
      refine lv_iload_n hx hb d_law_154 rfl (lv_at hl 3 rfl) ?_
      refine lv_iconst (v := (1 : Int32)) hx hb d_law_155 (by decide) ?_
      refine lv_iadd hx hb d_law_156 ?_
      refine va_sld hx hb hX hbl hbA hS i1 d_law_157 ?_
      refine lv_aload_n hx hb d_law_158 rfl (lv_at hl 0 rfl) ?_
      refine lv_iload_n hx hb d_law_159 rfl (lv_at hl 3 rfl) ?_
      refine lv_iconst (v := (2 : Int32)) hx hb d_law_160 (by decide) ?_
      refine lv_iadd hx hb d_law_161 ?_
      refine va_sld hx hb hX hbl hbA hS i2 d_law_162 ?_
      refine lv_aload_n hx hb d_law_163 rfl (lv_at hl 0 rfl) ?_
      refine lv_iload_n hx hb d_law_164 rfl (lv_at hl 3 rfl) ?_
      refine lv_iconst (v := (3 : Int32)) hx hb d_law_165 (by decide) ?_
      refine lv_iadd hx hb d_law_166 ?_
      refine va_sld hx hb hX hbl hbA hS i3 d_law_167 ?_
      refine lv_if_eq (tgt := 175) hx hb d_law_168 (by decide) (fun c5 => ?_) (fun c5 => ?_)
      · skip
        refine lv_iconst (v := (0 : Int32)) hx hb d_law_175 (by decide) ?_
        refine lv_aload_n hx hb d_law_176 rfl (lv_at hl 0 rfl) ?_
        refine lv_iload_n hx hb d_law_177 rfl (lv_at hl 3 rfl) ?_
        refine lv_iconst (v := (4 : Int32)) hx hb d_law_178 (by decide) ?_
        refine lv_iadd hx hb d_law_179 ?_
        refine va_sld hx hb hX hbl hbA hS i4 d_law_180 ?_
        refine lv_if_eq (tgt := 188) hx hb d_law_181 (by decide) (fun c6 => ?_) (fun c6 => ?_)
        · exact absurd c6 c2
        · skip
          refine lv_iconst (v := (1 : Int32)) hx hb d_law_184 (by decide) ?_
          refine lv_goto (tgt := 189) hx hb d_law_185 (by decide) ?_
          have hPc := hP.sub (ws' := (wR ka qa b0 b1 a0 a1 a2 a3 a4 a5 a6 a7 a8 a9 a10 a11 a12)) [20, 21, 22, 23, 24, 25, 26, 27, 28, 29, 30, 31, 32, 33] rfl
          have hDc := hD.sub (ws' := (wR ka qa b0 b1 a0 a1 a2 a3 a4 a5 a6 a7 a8 a9 a10 a11 a12)) [20, 21, 22, 23, 24, 25, 26, 27, 28, 29, 30, 31, 32, 33] (by decide) rfl
          have hFc := va_free (wc := (wR ka qa b0 b1 a0 a1 a2 a3 a4 a5 a6 a7 a8 a9 a10 a11 a12)) hD hS hA [20, 21, 22, 23, 24, 25, 26, 27, 28, 29, 30, 31, 32, 33] rfl
          refine va_calli (va_runV (As := [.int (xs (x3 + (1 : Int32)).toNatClampNeg), .int (xs (x3 + (2 : Int32)).toNatClampNeg), .int (0 : Int32), .int (1 : Int32)]) (rest := [.int (f_O_tellClass v (xs (x3 + (1 : Int32)).toNatClampNeg) (xs (x3 + (2 : Int32)).toNatClampNeg) (0 : Int32) (1 : Int32))]) ⟨hx, hb, hml, hown, hts⟩ (c_R_tellClass l dC dI ka qa H.size b0 b1 a0 a1 a2 a3 a4 a5 a6 a7 a8 a9 a10 a11 a12 (xs (x3 + (1 : Int32)).toNatClampNeg) (xs (x3 + (2 : Int32)).toNatClampNeg) (0 : Int32) (1 : Int32) hR.vt) (cwV 4 hts k_LR_tellClass rfl rfl rfl (by decide +kernel) ⟨Nat.le_of_ble_eq_true rfl, Nat.le_of_ble_eq_true rfl⟩) ⟨fb_mu, va_recv hK hP (ci := 3) (q0 := 20) rfl rfl, fun U hU hW => ⟨rfl, by rw [hU], by rw [hU]; exact hPc, va_K.moved hW.alike (hK.sub (tys' := (tR ka)) [16, 17, 18, 19, 20, 21, 22, 23, 24, 25, 26, 27, 28] rfl), NX.warm hW hN, hDc.weaken (fun _ _ _ _ => trivial)⟩⟩ rfl rfl hl.1 rfl (lv_room (Nat.le_of_ble_eq_true rfl)) d_law_189 ⟨Nat.le_of_ble_eq_true rfl, Nat.le_of_ble_eq_true rfl⟩) hS (fun q _ h => hFc q h) hFc (fun r u t H1 locs ht hvm hpo hB hz1 hk1 hS => ?_)
          obtain ⟨rfl, rfl⟩ := hpo
          have hB : va_P (dC, dI) classes (wR ka qa (s_R_tellClass_b0 b0 a0 a1 a2 a3 a4 a5 (xs (x3 + (1 : Int32)).toNatClampNeg) (xs (x3 + (2 : Int32)).toNatClampNeg) (0 : Int32) (1 : Int32)) b1 a0 (s_R_tellClass_a1 b0 a0 a1 a2 a3 a4 a5 (xs (x3 + (1 : Int32)).toNatClampNeg) (xs (x3 + (2 : Int32)).toNatClampNeg) (0 : Int32) (1 : Int32)) (s_R_tellClass_a2 b0 a0 a1 a2 a3 a4 a5 (xs (x3 + (1 : Int32)).toNatClampNeg) (xs (x3 + (2 : Int32)).toNatClampNeg) (0 : Int32) (1 : Int32)) (s_R_tellClass_a3 b0 a0 a1 a2 a3 a4 a5 (xs (x3 + (1 : Int32)).toNatClampNeg) (xs (x3 + (2 : Int32)).toNatClampNeg) (0 : Int32) (1 : Int32)) (s_R_tellClass_a4 b0 a0 a1 a2 a3 a4 a5 (xs (x3 + (1 : Int32)).toNatClampNeg) (xs (x3 + (2 : Int32)).toNatClampNeg) (0 : Int32) (1 : Int32)) (s_R_tellClass_a5 b0 a0 a1 a2 a3 a4 a5 (xs (x3 + (1 : Int32)).toNatClampNeg) (xs (x3 + (2 : Int32)).toNatClampNeg) (0 : Int32) (1 : Int32)) a6 a7 a8 a9 a10 a11 a12) H1 := hp_to ht hB
          obtain ⟨hP, hD⟩ := va_join (wr := (wO h0 kw kf km qw qf qm (s_O_tellClass v (xs (x3 + (1 : Int32)).toNatClampNeg) (xs (x3 + (2 : Int32)).toNatClampNeg) (0 : Int32) (1 : Int32)) lc)) (w1 := (wR ka qa (s_R_tellClass_b0 b0 a0 a1 a2 a3 a4 a5 (xs (x3 + (1 : Int32)).toNatClampNeg) (xs (x3 + (2 : Int32)).toNatClampNeg) (0 : Int32) (1 : Int32)) b1 a0 (s_R_tellClass_a1 b0 a0 a1 a2 a3 a4 a5 (xs (x3 + (1 : Int32)).toNatClampNeg) (xs (x3 + (2 : Int32)).toNatClampNeg) (0 : Int32) (1 : Int32)) (s_R_tellClass_a2 b0 a0 a1 a2 a3 a4 a5 (xs (x3 + (1 : Int32)).toNatClampNeg) (xs (x3 + (2 : Int32)).toNatClampNeg) (0 : Int32) (1 : Int32)) (s_R_tellClass_a3 b0 a0 a1 a2 a3 a4 a5 (xs (x3 + (1 : Int32)).toNatClampNeg) (xs (x3 + (2 : Int32)).toNatClampNeg) (0 : Int32) (1 : Int32)) (s_R_tellClass_a4 b0 a0 a1 a2 a3 a4 a5 (xs (x3 + (1 : Int32)).toNatClampNeg) (xs (x3 + (2 : Int32)).toNatClampNeg) (0 : Int32) (1 : Int32)) (s_R_tellClass_a5 b0 a0 a1 a2 a3 a4 a5 (xs (x3 + (1 : Int32)).toNatClampNeg) (xs (x3 + (2 : Int32)).toNatClampNeg) (0 : Int32) (1 : Int32)) a6 a7 a8 a9 a10 a11 a12)) hP hD [20, 21, 22, 23, 24, 25, 26, 27, 28, 29, 30, 31, 32, 33] [0, 1, 2, 3, 4, 5, 6, 7, 8, 9, 10, 11, 12, 13, 14, 15, 16, 17, 18, 19] rfl rfl (by decide) (by decide) hk1 hFc hB (ad_D hDc.self rfl)
          generalize H1 = H at hP hS ⊢
          have hq := q_tellClass hR (p1 := (xs (x3 + (1 : Int32)).toNatClampNeg)) (p2 := (xs (x3 + (2 : Int32)).toNatClampNeg)) (p3 := (0 : Int32)) (p4 := (1 : Int32)) (by first | exact Or.inl rfl | exact Or.inr rfl) (by first | exact Or.inl rfl | exact Or.inr rfl)
          refine lv_icmp_eq (tgt := 850) hx hb d_law_192 (by decide) (fun _ => ?_) (fun cc => absurd hq.1 cc)
          exact hc (s_O_tellClass v (xs (x3 + (1 : Int32)).toNatClampNeg) (xs (x3 + (2 : Int32)).toNatClampNeg) (0 : Int32) (1 : Int32)) lc (s_R_tellClass_b0 b0 a0 a1 a2 a3 a4 a5 (xs (x3 + (1 : Int32)).toNatClampNeg) (xs (x3 + (2 : Int32)).toNatClampNeg) (0 : Int32) (1 : Int32)) b1 a0 (s_R_tellClass_a1 b0 a0 a1 a2 a3 a4 a5 (xs (x3 + (1 : Int32)).toNatClampNeg) (xs (x3 + (2 : Int32)).toNatClampNeg) (0 : Int32) (1 : Int32)) (s_R_tellClass_a2 b0 a0 a1 a2 a3 a4 a5 (xs (x3 + (1 : Int32)).toNatClampNeg) (xs (x3 + (2 : Int32)).toNatClampNeg) (0 : Int32) (1 : Int32)) (s_R_tellClass_a3 b0 a0 a1 a2 a3 a4 a5 (xs (x3 + (1 : Int32)).toNatClampNeg) (xs (x3 + (2 : Int32)).toNatClampNeg) (0 : Int32) (1 : Int32)) (s_R_tellClass_a4 b0 a0 a1 a2 a3 a4 a5 (xs (x3 + (1 : Int32)).toNatClampNeg) (xs (x3 + (2 : Int32)).toNatClampNeg) (0 : Int32) (1 : Int32)) (s_R_tellClass_a5 b0 a0 a1 a2 a3 a4 a5 (xs (x3 + (1 : Int32)).toNatClampNeg) (xs (x3 + (2 : Int32)).toNatClampNeg) (0 : Int32) (1 : Int32)) a6 a7 a8 a9 a10 a11 a12 H locs hP hD hS hq.2
      · exact absurd c1 c5
  · skip
    refine lv_iconst (v := (1 : Int32)) hx hb d_law_131 (by decide) ?_
    refine lv_goto (tgt := 136) hx hb d_law_132 (by decide) ?_
    refine lv_aload_n hx hb d_law_136 rfl (lv_at hl 0 rfl) ?_
    refine lv_iload_n hx hb d_law_137 rfl (lv_at hl 3 rfl) ?_
    refine lv_iconst (v := (4 : Int32)) hx hb d_law_138 (by decide) ?_
    refine lv_iadd hx hb d_law_139 ?_
    refine va_sld hx hb hX hbl hbA hS i4 d_law_140 ?_
    refine lv_if_eq (tgt := 148) hx hb d_law_141 (by decide) (fun c7 => ?_) (fun c7 => ?_)
    · skip
      refine lv_iconst (v := (0 : Int32)) hx hb d_law_148 (by decide) ?_
      have hPc := hP.sub (ws' := (wO h0 kw kf km qw qf qm v lc)) [0, 1, 2, 3, 4, 5, 6, 7, 8, 9, 10, 11, 12, 13, 14, 15, 16, 17, 18, 19] rfl
      have hDc := hD.sub (ws' := (wO h0 kw kf km qw qf qm v lc)) [0, 1, 2, 3, 4, 5, 6, 7, 8, 9, 10, 11, 12, 13, 14, 15, 16, 17, 18, 19] (by decide) rfl
      have hFc := va_free (wc := (wO h0 kw kf km qw qf qm v lc)) hD hS hA [0, 1, 2, 3, 4, 5, 6, 7, 8, 9, 10, 11, 12, 13, 14, 15, 16, 17, 18, 19] rfl
      refine va_calli (va_runV (As := [.int (xs (x3 + (1 : Int32)).toNatClampNeg), .int (xs (x3 + (2 : Int32)).toNatClampNeg), .int (1 : Int32), .int (0 : Int32)]) (rest := []) ⟨hx, hb, hml, hown, hts⟩ (c_O_tellClass l dC dI h0 kw kf km qw qf qm H.size v lc (xs (x3 + (1 : Int32)).toNatClampNeg) (xs (x3 + (2 : Int32)).toNatClampNeg) (1 : Int32) (0 : Int32) hR.wf) (cwV 4 hts k_LO_tellClass rfl rfl rfl (by decide +kernel) ⟨Nat.le_of_ble_eq_true rfl, Nat.le_of_ble_eq_true rfl⟩) ⟨fb_mu, va_recv hK hP (ci := 2) (q0 := 0) rfl rfl, fun U hU hW => ⟨rfl, by rw [hU], by rw [hU]; exact hPc, va_K.moved hW.alike (hK.sub (tys' := (tO kw kf km)) [0, 1, 2, 3, 4, 5, 6, 7, 8, 9, 10, 11, 12, 13, 14, 15] rfl), NX.warm hW hN, hDc.weaken (fun _ _ _ _ => trivial)⟩⟩ rfl rfl hl.1 rfl (lv_room (Nat.le_of_ble_eq_true rfl)) d_law_149 ⟨Nat.le_of_ble_eq_true rfl, Nat.le_of_ble_eq_true rfl⟩) hS (fun q _ h => hFc q h) hFc (fun r u t H1 locs ht hvm hpo hB hz1 hk1 hS => ?_)
      obtain ⟨rfl, rfl⟩ := hpo
      have hB : va_P (dC, dI) classes (wO h0 kw kf km qw qf qm (s_O_tellClass v (xs (x3 + (1 : Int32)).toNatClampNeg) (xs (x3 + (2 : Int32)).toNatClampNeg) (1 : Int32) (0 : Int32)) lc) H1 := hp_to ht hB
      obtain ⟨hP, hD⟩ := va_join (wr := (wR ka qa b0 b1 a0 a1 a2 a3 a4 a5 a6 a7 a8 a9 a10 a11 a12)) (w1 := (wO h0 kw kf km qw qf qm (s_O_tellClass v (xs (x3 + (1 : Int32)).toNatClampNeg) (xs (x3 + (2 : Int32)).toNatClampNeg) (1 : Int32) (0 : Int32)) lc)) hP hD [0, 1, 2, 3, 4, 5, 6, 7, 8, 9, 10, 11, 12, 13, 14, 15, 16, 17, 18, 19] [20, 21, 22, 23, 24, 25, 26, 27, 28, 29, 30, 31, 32, 33] rfl rfl (by decide) (by decide) hk1 hFc hB (ad_D hDc.self rfl)
      have hP := hP.sub (ws' := (wO h0 kw kf km qw qf qm (s_O_tellClass v (xs (x3 + (1 : Int32)).toNatClampNeg) (xs (x3 + (2 : Int32)).toNatClampNeg) (1 : Int32) (0 : Int32)) lc) ++ (wR ka qa b0 b1 a0 a1 a2 a3 a4 a5 a6 a7 a8 a9 a10 a11 a12)) [14, 15, 16, 17, 18, 19, 20, 21, 22, 23, 24, 25, 26, 27, 28, 29, 30, 31, 32, 33, 0, 1, 2, 3, 4, 5, 6, 7, 8, 9, 10, 11, 12, 13] rfl
      have hD := hD.sub (ws' := (wO h0 kw kf km qw qf qm (s_O_tellClass v (xs (x3 + (1 : Int32)).toNatClampNeg) (xs (x3 + (2 : Int32)).toNatClampNeg) (1 : Int32) (0 : Int32)) lc) ++ (wR ka qa b0 b1 a0 a1 a2 a3 a4 a5 a6 a7 a8 a9 a10 a11 a12)) [14, 15, 16, 17, 18, 19, 20, 21, 22, 23, 24, 25, 26, 27, 28, 29, 30, 31, 32, 33, 0, 1, 2, 3, 4, 5, 6, 7, 8, 9, 10, 11, 12, 13] (by decide) rfl
      generalize H1 = H at hP hS ⊢
      refine lv_aload_n hx hb d_law_152 rfl (lv_at hl 2 rfl) ?_
      refine lv_aload_n hx hb d_law_153 rfl (lv_at hl 0 rfl) ?_
      refine lv_iload_n hx hb d_law_154 rfl (lv_at hl 3 rfl) ?_
      refine lv_iconst (v := (1 : Int32)) hx hb d_law_155 (by decide) ?_
      refine lv_iadd hx hb d_law_156 ?_
      refine va_sld hx hb hX hbl hbA hS i1 d_law_157 ?_
      refine lv_aload_n hx hb d_law_158 rfl (lv_at hl 0 rfl) ?_
      refine lv_iload_n hx hb d_law_159 rfl (lv_at hl 3 rfl) ?_
      refine lv_iconst (v := (2 : Int32)) hx hb d_law_160 (by decide) ?_
      refine lv_iadd hx hb d_law_161 ?_
      refine va_sld hx hb hX hbl hbA hS i2 d_law_162 ?_
      refine lv_aload_n hx hb d_law_163 rfl (lv_at hl 0 rfl) ?_
      refine lv_iload_n hx hb d_law_164 rfl (lv_at hl 3 rfl) ?_
      refine lv_iconst (v := (3 : Int32)) hx hb d_law_165 (by decide) ?_
      refine lv_iadd hx hb d_law_166 ?_
      refine va_sld hx hb hX hbl hbA hS i3 d_law_167 ?_
      refine lv_if_eq (tgt := 175) hx hb d_law_168 (by decide) (fun c8 => ?_) (fun c8 => ?_)
      · exact absurd c8 c1
      · skip
        refine lv_iconst (v := (1 : Int32)) hx hb d_law_171 (by decide) ?_
        refine lv_goto (tgt := 176) hx hb d_law_172 (by decide) ?_
        refine lv_aload_n hx hb d_law_176 rfl (lv_at hl 0 rfl) ?_
        refine lv_iload_n hx hb d_law_177 rfl (lv_at hl 3 rfl) ?_
        refine lv_iconst (v := (4 : Int32)) hx hb d_law_178 (by decide) ?_
        refine lv_iadd hx hb d_law_179 ?_
        refine va_sld hx hb hX hbl hbA hS i4 d_law_180 ?_
        refine lv_if_eq (tgt := 188) hx hb d_law_181 (by decide) (fun c9 => ?_) (fun c9 => ?_)
        · skip
          refine lv_iconst (v := (0 : Int32)) hx hb d_law_188 (by decide) ?_
          have hPc := hP.sub (ws' := (wR ka qa b0 b1 a0 a1 a2 a3 a4 a5 a6 a7 a8 a9 a10 a11 a12)) [20, 21, 22, 23, 24, 25, 26, 27, 28, 29, 30, 31, 32, 33] rfl
          have hDc := hD.sub (ws' := (wR ka qa b0 b1 a0 a1 a2 a3 a4 a5 a6 a7 a8 a9 a10 a11 a12)) [20, 21, 22, 23, 24, 25, 26, 27, 28, 29, 30, 31, 32, 33] (by decide) rfl
          have hFc := va_free (wc := (wR ka qa b0 b1 a0 a1 a2 a3 a4 a5 a6 a7 a8 a9 a10 a11 a12)) hD hS hA [20, 21, 22, 23, 24, 25, 26, 27, 28, 29, 30, 31, 32, 33] rfl
          refine va_calli (va_runV (As := [.int (xs (x3 + (1 : Int32)).toNatClampNeg), .int (xs (x3 + (2 : Int32)).toNatClampNeg), .int (1 : Int32), .int (0 : Int32)]) (rest := [.int (f_O_tellClass v (xs (x3 + (1 : Int32)).toNatClampNeg) (xs (x3 + (2 : Int32)).toNatClampNeg) (1 : Int32) (0 : Int32))]) ⟨hx, hb, hml, hown, hts⟩ (c_R_tellClass l dC dI ka qa H.size b0 b1 a0 a1 a2 a3 a4 a5 a6 a7 a8 a9 a10 a11 a12 (xs (x3 + (1 : Int32)).toNatClampNeg) (xs (x3 + (2 : Int32)).toNatClampNeg) (1 : Int32) (0 : Int32) hR.vt) (cwV 4 hts k_LR_tellClass rfl rfl rfl (by decide +kernel) ⟨Nat.le_of_ble_eq_true rfl, Nat.le_of_ble_eq_true rfl⟩) ⟨fb_mu, va_recv hK hP (ci := 3) (q0 := 20) rfl rfl, fun U hU hW => ⟨rfl, by rw [hU], by rw [hU]; exact hPc, va_K.moved hW.alike (hK.sub (tys' := (tR ka)) [16, 17, 18, 19, 20, 21, 22, 23, 24, 25, 26, 27, 28] rfl), NX.warm hW hN, hDc.weaken (fun _ _ _ _ => trivial)⟩⟩ rfl rfl hl.1 rfl (lv_room (Nat.le_of_ble_eq_true rfl)) d_law_189 ⟨Nat.le_of_ble_eq_true rfl, Nat.le_of_ble_eq_true rfl⟩) hS (fun q _ h => hFc q h) hFc (fun r u t H1 locs ht hvm hpo hB hz1 hk1 hS => ?_)
          obtain ⟨rfl, rfl⟩ := hpo
          have hB : va_P (dC, dI) classes (wR ka qa (s_R_tellClass_b0 b0 a0 a1 a2 a3 a4 a5 (xs (x3 + (1 : Int32)).toNatClampNeg) (xs (x3 + (2 : Int32)).toNatClampNeg) (1 : Int32) (0 : Int32)) b1 a0 (s_R_tellClass_a1 b0 a0 a1 a2 a3 a4 a5 (xs (x3 + (1 : Int32)).toNatClampNeg) (xs (x3 + (2 : Int32)).toNatClampNeg) (1 : Int32) (0 : Int32)) (s_R_tellClass_a2 b0 a0 a1 a2 a3 a4 a5 (xs (x3 + (1 : Int32)).toNatClampNeg) (xs (x3 + (2 : Int32)).toNatClampNeg) (1 : Int32) (0 : Int32)) (s_R_tellClass_a3 b0 a0 a1 a2 a3 a4 a5 (xs (x3 + (1 : Int32)).toNatClampNeg) (xs (x3 + (2 : Int32)).toNatClampNeg) (1 : Int32) (0 : Int32)) (s_R_tellClass_a4 b0 a0 a1 a2 a3 a4 a5 (xs (x3 + (1 : Int32)).toNatClampNeg) (xs (x3 + (2 : Int32)).toNatClampNeg) (1 : Int32) (0 : Int32)) (s_R_tellClass_a5 b0 a0 a1 a2 a3 a4 a5 (xs (x3 + (1 : Int32)).toNatClampNeg) (xs (x3 + (2 : Int32)).toNatClampNeg) (1 : Int32) (0 : Int32)) a6 a7 a8 a9 a10 a11 a12) H1 := hp_to ht hB
          obtain ⟨hP, hD⟩ := va_join (wr := (wO h0 kw kf km qw qf qm (s_O_tellClass v (xs (x3 + (1 : Int32)).toNatClampNeg) (xs (x3 + (2 : Int32)).toNatClampNeg) (1 : Int32) (0 : Int32)) lc)) (w1 := (wR ka qa (s_R_tellClass_b0 b0 a0 a1 a2 a3 a4 a5 (xs (x3 + (1 : Int32)).toNatClampNeg) (xs (x3 + (2 : Int32)).toNatClampNeg) (1 : Int32) (0 : Int32)) b1 a0 (s_R_tellClass_a1 b0 a0 a1 a2 a3 a4 a5 (xs (x3 + (1 : Int32)).toNatClampNeg) (xs (x3 + (2 : Int32)).toNatClampNeg) (1 : Int32) (0 : Int32)) (s_R_tellClass_a2 b0 a0 a1 a2 a3 a4 a5 (xs (x3 + (1 : Int32)).toNatClampNeg) (xs (x3 + (2 : Int32)).toNatClampNeg) (1 : Int32) (0 : Int32)) (s_R_tellClass_a3 b0 a0 a1 a2 a3 a4 a5 (xs (x3 + (1 : Int32)).toNatClampNeg) (xs (x3 + (2 : Int32)).toNatClampNeg) (1 : Int32) (0 : Int32)) (s_R_tellClass_a4 b0 a0 a1 a2 a3 a4 a5 (xs (x3 + (1 : Int32)).toNatClampNeg) (xs (x3 + (2 : Int32)).toNatClampNeg) (1 : Int32) (0 : Int32)) (s_R_tellClass_a5 b0 a0 a1 a2 a3 a4 a5 (xs (x3 + (1 : Int32)).toNatClampNeg) (xs (x3 + (2 : Int32)).toNatClampNeg) (1 : Int32) (0 : Int32)) a6 a7 a8 a9 a10 a11 a12)) hP hD [20, 21, 22, 23, 24, 25, 26, 27, 28, 29, 30, 31, 32, 33] [0, 1, 2, 3, 4, 5, 6, 7, 8, 9, 10, 11, 12, 13, 14, 15, 16, 17, 18, 19] rfl rfl (by decide) (by decide) hk1 hFc hB (ad_D hDc.self rfl)
          generalize H1 = H at hP hS ⊢
          have hq := q_tellClass hR (p1 := (xs (x3 + (1 : Int32)).toNatClampNeg)) (p2 := (xs (x3 + (2 : Int32)).toNatClampNeg)) (p3 := (1 : Int32)) (p4 := (0 : Int32)) (by first | exact Or.inl rfl | exact Or.inr rfl) (by first | exact Or.inl rfl | exact Or.inr rfl)
          refine lv_icmp_eq (tgt := 850) hx hb d_law_192 (by decide) (fun _ => ?_) (fun cc => absurd hq.1 cc)
          exact hc (s_O_tellClass v (xs (x3 + (1 : Int32)).toNatClampNeg) (xs (x3 + (2 : Int32)).toNatClampNeg) (1 : Int32) (0 : Int32)) lc (s_R_tellClass_b0 b0 a0 a1 a2 a3 a4 a5 (xs (x3 + (1 : Int32)).toNatClampNeg) (xs (x3 + (2 : Int32)).toNatClampNeg) (1 : Int32) (0 : Int32)) b1 a0 (s_R_tellClass_a1 b0 a0 a1 a2 a3 a4 a5 (xs (x3 + (1 : Int32)).toNatClampNeg) (xs (x3 + (2 : Int32)).toNatClampNeg) (1 : Int32) (0 : Int32)) (s_R_tellClass_a2 b0 a0 a1 a2 a3 a4 a5 (xs (x3 + (1 : Int32)).toNatClampNeg) (xs (x3 + (2 : Int32)).toNatClampNeg) (1 : Int32) (0 : Int32)) (s_R_tellClass_a3 b0 a0 a1 a2 a3 a4 a5 (xs (x3 + (1 : Int32)).toNatClampNeg) (xs (x3 + (2 : Int32)).toNatClampNeg) (1 : Int32) (0 : Int32)) (s_R_tellClass_a4 b0 a0 a1 a2 a3 a4 a5 (xs (x3 + (1 : Int32)).toNatClampNeg) (xs (x3 + (2 : Int32)).toNatClampNeg) (1 : Int32) (0 : Int32)) (s_R_tellClass_a5 b0 a0 a1 a2 a3 a4 a5 (xs (x3 + (1 : Int32)).toNatClampNeg) (xs (x3 + (2 : Int32)).toNatClampNeg) (1 : Int32) (0 : Int32)) a6 a7 a8 a9 a10 a11 a12 H locs hP hD hS hq.2
        · exact absurd c7 c9
    · skip
      refine lv_iconst (v := (1 : Int32)) hx hb d_law_144 (by decide) ?_
      refine lv_goto (tgt := 149) hx hb d_law_145 (by decide) ?_
      have hPc := hP.sub (ws' := (wO h0 kw kf km qw qf qm v lc)) [0, 1, 2, 3, 4, 5, 6, 7, 8, 9, 10, 11, 12, 13, 14, 15, 16, 17, 18, 19] rfl
      have hDc := hD.sub (ws' := (wO h0 kw kf km qw qf qm v lc)) [0, 1, 2, 3, 4, 5, 6, 7, 8, 9, 10, 11, 12, 13, 14, 15, 16, 17, 18, 19] (by decide) rfl
      have hFc := va_free (wc := (wO h0 kw kf km qw qf qm v lc)) hD hS hA [0, 1, 2, 3, 4, 5, 6, 7, 8, 9, 10, 11, 12, 13, 14, 15, 16, 17, 18, 19] rfl
      refine va_calli (va_runV (As := [.int (xs (x3 + (1 : Int32)).toNatClampNeg), .int (xs (x3 + (2 : Int32)).toNatClampNeg), .int (1 : Int32), .int (1 : Int32)]) (rest := []) ⟨hx, hb, hml, hown, hts⟩ (c_O_tellClass l dC dI h0 kw kf km qw qf qm H.size v lc (xs (x3 + (1 : Int32)).toNatClampNeg) (xs (x3 + (2 : Int32)).toNatClampNeg) (1 : Int32) (1 : Int32) hR.wf) (cwV 4 hts k_LO_tellClass rfl rfl rfl (by decide +kernel) ⟨Nat.le_of_ble_eq_true rfl, Nat.le_of_ble_eq_true rfl⟩) ⟨fb_mu, va_recv hK hP (ci := 2) (q0 := 0) rfl rfl, fun U hU hW => ⟨rfl, by rw [hU], by rw [hU]; exact hPc, va_K.moved hW.alike (hK.sub (tys' := (tO kw kf km)) [0, 1, 2, 3, 4, 5, 6, 7, 8, 9, 10, 11, 12, 13, 14, 15] rfl), NX.warm hW hN, hDc.weaken (fun _ _ _ _ => trivial)⟩⟩ rfl rfl hl.1 rfl (lv_room (Nat.le_of_ble_eq_true rfl)) d_law_149 ⟨Nat.le_of_ble_eq_true rfl, Nat.le_of_ble_eq_true rfl⟩) hS (fun q _ h => hFc q h) hFc (fun r u t H1 locs ht hvm hpo hB hz1 hk1 hS => ?_)
      obtain ⟨rfl, rfl⟩ := hpo
      have hB : va_P (dC, dI) classes (wO h0 kw kf km qw qf qm (s_O_tellClass v (xs (x3 + (1 : Int32)).toNatClampNeg) (xs (x3 + (2 : Int32)).toNatClampNeg) (1 : Int32) (1 : Int32)) lc) H1 := hp_to ht hB
      obtain ⟨hP, hD⟩ := va_join (wr := (wR ka qa b0 b1 a0 a1 a2 a3 a4 a5 a6 a7 a8 a9 a10 a11 a12)) (w1 := (wO h0 kw kf km qw qf qm (s_O_tellClass v (xs (x3 + (1 : Int32)).toNatClampNeg) (xs (x3 + (2 : Int32)).toNatClampNeg) (1 : Int32) (1 : Int32)) lc)) hP hD [0, 1, 2, 3, 4, 5, 6, 7, 8, 9, 10, 11, 12, 13, 14, 15, 16, 17, 18, 19] [20, 21, 22, 23, 24, 25, 26, 27, 28, 29, 30, 31, 32, 33] rfl rfl (by decide) (by decide) hk1 hFc hB (ad_D hDc.self rfl)
      have hP := hP.sub (ws' := (wO h0 kw kf km qw qf qm (s_O_tellClass v (xs (x3 + (1 : Int32)).toNatClampNeg) (xs (x3 + (2 : Int32)).toNatClampNeg) (1 : Int32) (1 : Int32)) lc) ++ (wR ka qa b0 b1 a0 a1 a2 a3 a4 a5 a6 a7 a8 a9 a10 a11 a12)) [14, 15, 16, 17, 18, 19, 20, 21, 22, 23, 24, 25, 26, 27, 28, 29, 30, 31, 32, 33, 0, 1, 2, 3, 4, 5, 6, 7, 8, 9, 10, 11, 12, 13] rfl
      have hD := hD.sub (ws' := (wO h0 kw kf km qw qf qm (s_O_tellClass v (xs (x3 + (1 : Int32)).toNatClampNeg) (xs (x3 + (2 : Int32)).toNatClampNeg) (1 : Int32) (1 : Int32)) lc) ++ (wR ka qa b0 b1 a0 a1 a2 a3 a4 a5 a6 a7 a8 a9 a10 a11 a12)) [14, 15, 16, 17, 18, 19, 20, 21, 22, 23, 24, 25, 26, 27, 28, 29, 30, 31, 32, 33, 0, 1, 2, 3, 4, 5, 6, 7, 8, 9, 10, 11, 12, 13] (by decide) rfl
      generalize H1 = H at hP hS ⊢
      refine lv_aload_n hx hb d_law_152 rfl (lv_at hl 2 rfl) ?_
      refine lv_aload_n hx hb d_law_153 rfl (lv_at hl 0 rfl) ?_
      refine lv_iload_n hx hb d_law_154 rfl (lv_at hl 3 rfl) ?_
      refine lv_iconst (v := (1 : Int32)) hx hb d_law_155 (by decide) ?_
      refine lv_iadd hx hb d_law_156 ?_
      refine va_sld hx hb hX hbl hbA hS i1 d_law_157 ?_
      refine lv_aload_n hx hb d_law_158 rfl (lv_at hl 0 rfl) ?_
      refine lv_iload_n hx hb d_law_159 rfl (lv_at hl 3 rfl) ?_
      refine lv_iconst (v := (2 : Int32)) hx hb d_law_160 (by decide) ?_
      refine lv_iadd hx hb d_law_161 ?_
      refine va_sld hx hb hX hbl hbA hS i2 d_law_162 ?_
      refine lv_aload_n hx hb d_law_163 rfl (lv_at hl 0 rfl) ?_
      refine lv_iload_n hx hb d_law_164 rfl (lv_at hl 3 rfl) ?_
      refine lv_iconst (v := (3 : Int32)) hx hb d_law_165 (by decide) ?_
      refine lv_iadd hx hb d_law_166 ?_
      refine va_sld hx hb hX hbl hbA hS i3 d_law_167 ?_
      refine lv_if_eq (tgt := 175) hx hb d_law_168 (by decide) (fun c10 => ?_) (fun c10 => ?_)
      · exact absurd c10 c1
      · skip
        refine lv_iconst (v := (1 : Int32)) hx hb d_law_171 (by decide) ?_
        refine lv_goto (tgt := 176) hx hb d_law_172 (by decide) ?_
        refine lv_aload_n hx hb d_law_176 rfl (lv_at hl 0 rfl) ?_
        refine lv_iload_n hx hb d_law_177 rfl (lv_at hl 3 rfl) ?_
        refine lv_iconst (v := (4 : Int32)) hx hb d_law_178 (by decide) ?_
        refine lv_iadd hx hb d_law_179 ?_
        refine va_sld hx hb hX hbl hbA hS i4 d_law_180 ?_
        refine lv_if_eq (tgt := 188) hx hb d_law_181 (by decide) (fun c11 => ?_) (fun c11 => ?_)
        · exact absurd c11 c7
        · skip
          refine lv_iconst (v := (1 : Int32)) hx hb d_law_184 (by decide) ?_
          refine lv_goto (tgt := 189) hx hb d_law_185 (by decide) ?_
          have hPc := hP.sub (ws' := (wR ka qa b0 b1 a0 a1 a2 a3 a4 a5 a6 a7 a8 a9 a10 a11 a12)) [20, 21, 22, 23, 24, 25, 26, 27, 28, 29, 30, 31, 32, 33] rfl
          have hDc := hD.sub (ws' := (wR ka qa b0 b1 a0 a1 a2 a3 a4 a5 a6 a7 a8 a9 a10 a11 a12)) [20, 21, 22, 23, 24, 25, 26, 27, 28, 29, 30, 31, 32, 33] (by decide) rfl
          have hFc := va_free (wc := (wR ka qa b0 b1 a0 a1 a2 a3 a4 a5 a6 a7 a8 a9 a10 a11 a12)) hD hS hA [20, 21, 22, 23, 24, 25, 26, 27, 28, 29, 30, 31, 32, 33] rfl
          refine va_calli (va_runV (As := [.int (xs (x3 + (1 : Int32)).toNatClampNeg), .int (xs (x3 + (2 : Int32)).toNatClampNeg), .int (1 : Int32), .int (1 : Int32)]) (rest := [.int (f_O_tellClass v (xs (x3 + (1 : Int32)).toNatClampNeg) (xs (x3 + (2 : Int32)).toNatClampNeg) (1 : Int32) (1 : Int32))]) ⟨hx, hb, hml, hown, hts⟩ (c_R_tellClass l dC dI ka qa H.size b0 b1 a0 a1 a2 a3 a4 a5 a6 a7 a8 a9 a10 a11 a12 (xs (x3 + (1 : Int32)).toNatClampNeg) (xs (x3 + (2 : Int32)).toNatClampNeg) (1 : Int32) (1 : Int32) hR.vt) (cwV 4 hts k_LR_tellClass rfl rfl rfl (by decide +kernel) ⟨Nat.le_of_ble_eq_true rfl, Nat.le_of_ble_eq_true rfl⟩) ⟨fb_mu, va_recv hK hP (ci := 3) (q0 := 20) rfl rfl, fun U hU hW => ⟨rfl, by rw [hU], by rw [hU]; exact hPc, va_K.moved hW.alike (hK.sub (tys' := (tR ka)) [16, 17, 18, 19, 20, 21, 22, 23, 24, 25, 26, 27, 28] rfl), NX.warm hW hN, hDc.weaken (fun _ _ _ _ => trivial)⟩⟩ rfl rfl hl.1 rfl (lv_room (Nat.le_of_ble_eq_true rfl)) d_law_189 ⟨Nat.le_of_ble_eq_true rfl, Nat.le_of_ble_eq_true rfl⟩) hS (fun q _ h => hFc q h) hFc (fun r u t H1 locs ht hvm hpo hB hz1 hk1 hS => ?_)
          obtain ⟨rfl, rfl⟩ := hpo
          have hB : va_P (dC, dI) classes (wR ka qa (s_R_tellClass_b0 b0 a0 a1 a2 a3 a4 a5 (xs (x3 + (1 : Int32)).toNatClampNeg) (xs (x3 + (2 : Int32)).toNatClampNeg) (1 : Int32) (1 : Int32)) b1 a0 (s_R_tellClass_a1 b0 a0 a1 a2 a3 a4 a5 (xs (x3 + (1 : Int32)).toNatClampNeg) (xs (x3 + (2 : Int32)).toNatClampNeg) (1 : Int32) (1 : Int32)) (s_R_tellClass_a2 b0 a0 a1 a2 a3 a4 a5 (xs (x3 + (1 : Int32)).toNatClampNeg) (xs (x3 + (2 : Int32)).toNatClampNeg) (1 : Int32) (1 : Int32)) (s_R_tellClass_a3 b0 a0 a1 a2 a3 a4 a5 (xs (x3 + (1 : Int32)).toNatClampNeg) (xs (x3 + (2 : Int32)).toNatClampNeg) (1 : Int32) (1 : Int32)) (s_R_tellClass_a4 b0 a0 a1 a2 a3 a4 a5 (xs (x3 + (1 : Int32)).toNatClampNeg) (xs (x3 + (2 : Int32)).toNatClampNeg) (1 : Int32) (1 : Int32)) (s_R_tellClass_a5 b0 a0 a1 a2 a3 a4 a5 (xs (x3 + (1 : Int32)).toNatClampNeg) (xs (x3 + (2 : Int32)).toNatClampNeg) (1 : Int32) (1 : Int32)) a6 a7 a8 a9 a10 a11 a12) H1 := hp_to ht hB
          obtain ⟨hP, hD⟩ := va_join (wr := (wO h0 kw kf km qw qf qm (s_O_tellClass v (xs (x3 + (1 : Int32)).toNatClampNeg) (xs (x3 + (2 : Int32)).toNatClampNeg) (1 : Int32) (1 : Int32)) lc)) (w1 := (wR ka qa (s_R_tellClass_b0 b0 a0 a1 a2 a3 a4 a5 (xs (x3 + (1 : Int32)).toNatClampNeg) (xs (x3 + (2 : Int32)).toNatClampNeg) (1 : Int32) (1 : Int32)) b1 a0 (s_R_tellClass_a1 b0 a0 a1 a2 a3 a4 a5 (xs (x3 + (1 : Int32)).toNatClampNeg) (xs (x3 + (2 : Int32)).toNatClampNeg) (1 : Int32) (1 : Int32)) (s_R_tellClass_a2 b0 a0 a1 a2 a3 a4 a5 (xs (x3 + (1 : Int32)).toNatClampNeg) (xs (x3 + (2 : Int32)).toNatClampNeg) (1 : Int32) (1 : Int32)) (s_R_tellClass_a3 b0 a0 a1 a2 a3 a4 a5 (xs (x3 + (1 : Int32)).toNatClampNeg) (xs (x3 + (2 : Int32)).toNatClampNeg) (1 : Int32) (1 : Int32)) (s_R_tellClass_a4 b0 a0 a1 a2 a3 a4 a5 (xs (x3 + (1 : Int32)).toNatClampNeg) (xs (x3 + (2 : Int32)).toNatClampNeg) (1 : Int32) (1 : Int32)) (s_R_tellClass_a5 b0 a0 a1 a2 a3 a4 a5 (xs (x3 + (1 : Int32)).toNatClampNeg) (xs (x3 + (2 : Int32)).toNatClampNeg) (1 : Int32) (1 : Int32)) a6 a7 a8 a9 a10 a11 a12)) hP hD [20, 21, 22, 23, 24, 25, 26, 27, 28, 29, 30, 31, 32, 33] [0, 1, 2, 3, 4, 5, 6, 7, 8, 9, 10, 11, 12, 13, 14, 15, 16, 17, 18, 19] rfl rfl (by decide) (by decide) hk1 hFc hB (ad_D hDc.self rfl)
          generalize H1 = H at hP hS ⊢
          have hq := q_tellClass hR (p1 := (xs (x3 + (1 : Int32)).toNatClampNeg)) (p2 := (xs (x3 + (2 : Int32)).toNatClampNeg)) (p3 := (1 : Int32)) (p4 := (1 : Int32)) (by first | exact Or.inl rfl | exact Or.inr rfl) (by first | exact Or.inl rfl | exact Or.inr rfl)
          refine lv_icmp_eq (tgt := 850) hx hb d_law_192 (by decide) (fun _ => ?_) (fun cc => absurd hq.1 cc)
          exact hc (s_O_tellClass v (xs (x3 + (1 : Int32)).toNatClampNeg) (xs (x3 + (2 : Int32)).toNatClampNeg) (1 : Int32) (1 : Int32)) lc (s_R_tellClass_b0 b0 a0 a1 a2 a3 a4 a5 (xs (x3 + (1 : Int32)).toNatClampNeg) (xs (x3 + (2 : Int32)).toNatClampNeg) (1 : Int32) (1 : Int32)) b1 a0 (s_R_tellClass_a1 b0 a0 a1 a2 a3 a4 a5 (xs (x3 + (1 : Int32)).toNatClampNeg) (xs (x3 + (2 : Int32)).toNatClampNeg) (1 : Int32) (1 : Int32)) (s_R_tellClass_a2 b0 a0 a1 a2 a3 a4 a5 (xs (x3 + (1 : Int32)).toNatClampNeg) (xs (x3 + (2 : Int32)).toNatClampNeg) (1 : Int32) (1 : Int32)) (s_R_tellClass_a3 b0 a0 a1 a2 a3 a4 a5 (xs (x3 + (1 : Int32)).toNatClampNeg) (xs (x3 + (2 : Int32)).toNatClampNeg) (1 : Int32) (1 : Int32)) (s_R_tellClass_a4 b0 a0 a1 a2 a3 a4 a5 (xs (x3 + (1 : Int32)).toNatClampNeg) (xs (x3 + (2 : Int32)).toNatClampNeg) (1 : Int32) (1 : Int32)) (s_R_tellClass_a5 b0 a0 a1 a2 a3 a4 a5 (xs (x3 + (1 : Int32)).toNatClampNeg) (xs (x3 + (2 : Int32)).toNatClampNeg) (1 : Int32) (1 : Int32)) a6 a7 a8 a9 a10 a11 a12 H locs hP hD hS hq.2
