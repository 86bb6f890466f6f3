set_option maxHeartbeats 4000000 in
set_option maxRecDepth 100000 in
theorem law_c11 {p : Program} {l : Launch} {e : Env} {s : State} {m : MethodId} {below : List Frame} {meth : Method} {c : Code} {dC : Nat → ClassId} {dI : Nat → Nat → Nat} {b L : Nat} {xs : Nat → Int32} (hL : L ≤ 3072) (C0 : lw_At p s m meth c b L xs) (hN : NX s) {h0 : Nat} {kw kf km ka : Nat → ClassId} {qw qf qm qa : Nat → Nat} (hK : va_K (dC, dI) classes (tO kw kf km ++ tR ka) s) {x3 : Int32} {i : Nat} (ex : x3 = nI i) (hi : i + 6 ≤ L) {ls : Array Slot} (hl : lv_has ls 4 [(0, .ref b), (1, .ref h0), (2, .ref (qa 0)), (3, .int x3)]) (hc : LW p l e s m below meth c dC dI h0 kw kf km qw qf qm ka qa b 850 ls) : LW p l e s m below meth c dC dI h0 kw kf km qw qf qm ka qa b 675 ls := by
  obtain ⟨hx, hb, hr, hml, hown, hts0, hX, hbl, hlocks, hgv⟩ := C0
  have hts : ∀ w ∈ lw_g, w.before #[Value.ref b] s = true := fun w hw => hts0 w (lw_g_in hw)
  have hA : ∀ q : Nat, s.heap.size ≤ q → (fun q : Nat => s.heap.size ≤ q) q := fun _ h => h
  have hbA : ¬ (fun q : Nat => s.heap.size ≤ q) b := Nat.not_le.mpr hbl
  have i1 : vp_in (x3 + (1 : Int32)) L := law_ix (k := 1) ex hL (by omega)
  have i2 : vp_in (x3 + (2 : Int32)) L := law_ix (k := 2) ex hL (by omega)
  have i3 : vp_in (x3 + (3 : Int32)) L := law_ix (k := 3) ex hL (by omega)
  have i4 : vp_in (x3 + (4 : Int32)) L := law_ix (k := 4) ex hL (by omega)
  have i5 : vp_in (x3 + (5 : Int32)) L := law_ix (k := 5) ex hL (by omega)
  intro v lc b0 b1 a0 a1 a2 a3 a4 a5 a6 a7 a8 a9 a10 a11 a12 H locs hP hD hS hR
  refine lv_aload_n hx hb d_law_675 rfl (lv_at hl 1 rfl) ?_
  refine lv_aload_n hx hb d_law_676 rfl (lv_at hl 0 rfl) ?_
  refine lv_iload_n hx hb d_law_677 rfl (lv_at hl 3 rfl) ?_
  refine lv_iconst (v := (1 : Int32)) hx hb d_law_678 (by decide) ?_
  refine lv_iadd hx hb d_law_679 ?_
  refine va_sld hx hb hX hbl hbA hS i1 d_law_680 ?_
  refine lv_aload_n hx hb d_law_681 rfl (lv_at hl 0 rfl) ?_
  refine lv_iload_n hx hb d_law_682 rfl (lv_at hl 3 rfl) ?_
  refine lv_iconst (v := (2 : Int32)) hx hb d_law_683 (by decide) ?_
  refine lv_iadd hx hb d_law_684 ?_
  refine va_sld hx hb hX hbl hbA hS i2 d_law_685 ?_
  refine va_calli (va_runV (As := [.int (xs (x3 + (1 : Int32)).toNatClampNeg), .int (xs (x3 + (2 : Int32)).toNatClampNeg)]) (rest := []) ⟨hx, hb, hml, hown, hts⟩ (c_O_isA l dC dI h0 kw kf km qw qf qm H.size v lc (xs (x3 + (1 : Int32)).toNatClampNeg) (xs (x3 + (2 : Int32)).toNatClampNeg) hR.wf) (cwV 2 hts k_LO_isA rfl rfl rfl (by decide +kernel) ⟨Nat.le_of_ble_eq_true rfl, Nat.le_of_ble_eq_true rfl⟩) ⟨fb_ro, va_recv hK hP (ci := 2) (q0 := 0) rfl rfl, fun U hU hW => ⟨rfl, by rw [hU], by rw [hU]; exact hP.sub (ws' := (wO h0 kw kf km qw qf qm v lc)) [0, 1, 2, 3, 4, 5, 6, 7, 8, 9, 10, 11, 12, 13, 14, 15, 16, 17, 18, 19] rfl, va_K.moved hW.alike (hK.sub (tys' := (tO kw kf km)) [0, 1, 2, 3, 4, 5, 6, 7, 8, 9, 10, 11, 12, 13, 14, 15] rfl), NX.warm hW hN⟩⟩ rfl rfl hl.1 rfl (lv_room (Nat.le_of_ble_eq_true rfl)) d_law_686 ⟨Nat.le_of_ble_eq_true rfl, Nat.le_of_ble_eq_true rfl⟩) hS (fun z h1 h2 => absurd h1 (Nat.not_lt.mpr h2)) (fun z h => hA z (Nat.le_trans hS.1 h)) (fun r u t H1 locs ht hvm hpo hB hz1 hk1 hS => ?_)
  subst hpo
  have hP := kp_P hP hk1
  generalize H1 = H at hP hS ⊢
  refine lv_aload_n hx hb d_law_689 rfl (lv_at hl 2 rfl) ?_
  refine lv_aload_n hx hb d_law_690 rfl (lv_at hl 0 rfl) ?_
  refine lv_iload_n hx hb d_law_691 rfl (lv_at hl 3 rfl) ?_
  refine lv_iconst (v := (1 : Int32)) hx hb d_law_692 (by decide) ?_
  refine lv_iadd hx hb d_law_693 ?_
  refine va_sld hx hb hX hbl hbA hS i1 d_law_694 ?_
  refine lv_aload_n hx hb d_law_695 rfl (lv_at hl 0 rfl) ?_
  refine lv_iload_n hx hb d_law_696 rfl (lv_at hl 3 rfl) ?_
  refine lv_iconst (v := (2 : Int32)) hx hb d_law_697 (by decide) ?_
  refine lv_iadd hx hb d_law_698 ?_
  refine va_sld hx hb hX hbl hbA hS i2 d_law_699 ?_
  have hPc := hP.sub (ws' := (wR ka qa b0 b1 a0 a1 a2 a3 a4 a5 a6 a7 a8 a9 a10 a11 a12)) [20, 21, 22, 23, 24, 25, 26, 27, 28, 29, 30, 31, 32, 33] rfl
  have hDc := hD.sub (ws' := (wR ka qa b0 b1 a0 a1 a2 a3 a4 a5 a6 a7 a8 a9 a10 a11 a12)) [20, 21, 22, 23, 24, 25, 26, 27, 28, 29, 30, 31, 32, 33] (by decide) rfl
  have hFc := va_free (wc := (wR ka qa b0 b1 a0 a1 a2 a3 a4 a5 a6 a7 a8 a9 a10 a11 a12)) hD hS hA [20, 21, 22, 23, 24, 25, 26, 27, 28, 29, 30, 31, 32, 33] rfl
  refine va_calli (va_runV (As := [.int (xs (x3 + (1 : Int32)).toNatClampNeg), .int (xs (x3 + (2 : Int32)).toNatClampNeg)]) (rest := [.int (f_O_isA v (xs (x3 + (1 : Int32)).toNatClampNeg) (xs (x3 + (2 : Int32)).toNatClampNeg))]) ⟨hx, hb, hml, hown, hts⟩ (c_R_isA l dC dI ka qa H.size b0 b1 a0 a1 a2 a3 a4 a5 a6 a7 a8 a9 a10 a11 a12 (xs (x3 + (1 : Int32)).toNatClampNeg) (xs (x3 + (2 : Int32)).toNatClampNeg) hR.vt hR.vpar hR.vdir hR.vdc) (cwV 2 hts k_LR_isA rfl rfl rfl (by decide +kernel) ⟨Nat.le_of_ble_eq_true rfl, Nat.le_of_ble_eq_true rfl⟩) ⟨fb_mu, va_recv hK hP (ci := 3) (q0 := 20) rfl rfl, fun U hU hW => ⟨rfl, by rw [hU], by rw [hU]; exact hPc, va_K.moved hW.alike (hK.sub (tys' := (tR ka)) [16, 17, 18, 19, 20, 21, 22, 23, 24, 25, 26, 27, 28] rfl), NX.warm hW hN, hDc.weaken (fun _ _ _ _ => trivial)⟩⟩ rfl rfl hl.1 rfl (lv_room (Nat.le_of_ble_eq_true rfl)) d_law_700 ⟨Nat.le_of_ble_eq_true rfl, Nat.le_of_ble_eq_true rfl⟩) hS (fun q _ h => hFc q h) hFc (fun r u t H1 locs ht hvm hpo hB hz1 hk1 hS => ?_)
  obtain ⟨rfl, rfl⟩ := hpo
  have hB : va_P (dC, dI) classes (wR ka qa b0 b1 a0 a1 a2 a3 a4 a5 a6 a7 a8 a9 (s_R_isA_a10 b0 a4 a6 a7 a10 (xs (x3 + (1 : Int32)).toNatClampNeg) (xs (x3 + (2 : Int32)).toNatClampNeg)) a11 a12) H1 := hp_to ht hB
  obtain ⟨hP, hD⟩ := va_join (wr := (wO h0 kw kf km qw qf qm v lc)) (w1 := (wR ka qa b0 b1 a0 a1 a2 a3 a4 a5 a6 a7 a8 a9 (s_R_isA_a10 b0 a4 a6 a7 a10 (xs (x3 + (1 : Int32)).toNatClampNeg) (xs (x3 + (2 : Int32)).toNatClampNeg)) a11 a12)) hP hD [20, 21, 22, 23, 24, 25, 26, 27, 28, 29, 30, 31, 32, 33] [0, 1, 2, 3, 4, 5, 6, 7, 8, 9, 10, 11, 12, 13, 14, 15, 16, 17, 18, 19] rfl rfl (by decide) (by decide) hk1 hFc hB (ad_D hDc.self rfl)
  generalize H1 = H at hP hS ⊢
  have hq := q_isA hR (a10 := a10) (p1 := (xs (x3 + (1 : Int32)).toNatClampNeg)) (p2 := (xs (x3 + (2 : Int32)).toNatClampNeg))
  refine lv_icmp_eq (tgt := 850) hx hb d_law_703 (by decide) (fun _ => ?_) (fun cc => absurd hq cc)
  exact hc v lc b0 b1 a0 a1 a2 a3 a4 a5 a6 a7 a8 a9 (s_R_isA_a10 b0 a4 a6 a7 a10 (xs (x3 + (1 : Int32)).toNatClampNeg) (xs (x3 + (2 : Int32)).toNatClampNeg)) a11 a12 H locs hP hD hS hR
