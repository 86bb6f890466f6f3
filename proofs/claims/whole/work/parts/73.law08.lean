set_option maxHeartbeats 4000000 in
set_option maxRecDepth 100000 in
theorem law_c8 {p : Program} {l : Launch} {e : Env} {s : State} {m : MethodId} {below : List Frame} {meth : Method} {c : Code} {dC : Nat → ClassId} {dI : Nat → Nat → Nat} {b L : Nat} {xs : Nat → Int32} (hL : L ≤ 3072) (C0 : lw_At p s m meth c b L xs) (hN : NX s) {h0 : Nat} {kw kf km ka : Nat → ClassId} {qw qf qm qa : Nat → Nat} (hK : va_K (dC, dI) classes (tO kw kf km ++ tR ka) s) {x3 : Int32} {i : Nat} (ex : x3 = nI i) (hi : i + 6 ≤ L) {ls : Array Slot} (hl : lv_has ls 4 [(0, .ref b), (1, .ref h0), (2, .ref (qa 0)), (3, .int x3)]) (hc : LW p l e s m below meth c dC dI h0 kw kf km qw qf qm ka qa b 850 ls) : LW p l e s m below meth c dC dI h0 kw kf km qw qf qm ka qa b 530 ls := by
  obtain ⟨hx, hb, hr, hml, hown, hts0, hX, hbl, hlocks, hgv⟩ := C0
  have hts : ∀ w ∈ lw_g, w.before #[Value.ref b] s = true := fun w hw => hts0 w (lw_g_in hw)
  have hA : ∀ q : Nat, s.heap.size ≤ q → (fun q : Nat => s.heap.size ≤ q) q := fun _ h => h
  have hbA : ¬ (fun q : Nat => s.heap.size ≤ q) b := Nat.not_le.mpr hbl
  have i1 : vp_in (x3 + (1 : Int32)) L := law_ix (k := 1) ex hL (by omega)
  have i2 : vp_in (x3 + (2 : Int32)) L := law_ix (k := 2) ex hL (by omega)
  have i3 : vp_in (x3 + (3 : Int32)) L := law_ix (k := 3) ex hL (by omega)
  have i4 : vp_in (x3 + (4 : Int32)) L := law_ix (k := 4) ex hL (by omega)
  have i5 : vp_in (x3 + (5 : Int32)) L := law_ix (k := 5) ex hL (by omega)
  intro v lc b0 b1 a0 a1 a2 a3 a4 a5 a6 a7 a8 a9 a10 a11 a12 H locs hP hD hS hR
  refine lv_aload_n hx hb d_law_530 rfl (lv_at hl 1 rfl) ?_
  refine va_calli (va_runV (As := []) (rest := []) ⟨hx, hb, hml, hown, hts⟩ (c_O_choices l dC dI h0 kw kf km qw qf qm H.size v lc  ) (cwV 0 hts k_LO_choices rfl rfl rfl (by decide +kernel) ⟨Nat.le_of_ble_eq_true rfl, Nat.le_of_ble_eq_true rfl⟩) ⟨fb_ro, va_recv hK hP (ci := 2) (q0 := 0) rfl rfl, fun U hU hW => ⟨rfl, by rw [hU], by rw [hU]; exact hP.sub (ws' := (wO h0 kw kf km qw qf qm v lc)) [0, 1, 2, 3, 4, 5, 6, 7, 8, 9, 10, 11, 12, 13, 14, 15, 16, 17, 18, 19] rfl, va_K.moved hW.alike (hK.sub (tys' := (tO kw kf km)) [0, 1, 2, 3, 4, 5, 6, 7, 8, 9, 10, 11, 12, 13, 14, 15] rfl), NX.warm hW hN⟩⟩ rfl rfl hl.1 rfl (lv_room (Nat.le_of_ble_eq_true rfl)) d_law_531 ⟨Nat.le_of_ble_eq_true rfl, Nat.le_of_ble_eq_true rfl⟩) hS (fun z h1 h2 => absurd h1 (Nat.not_lt.mpr h2)) (fun z h => hA z (Nat.le_trans hS.1 h)) (fun r u t H1 locs ht hvm hpo hB hz1 hk1 hS => ?_)
  have hpo : r = (f_O_choices v lc) := hpo
  rw [hpo]
  have hP := kp_P hP hk1
  generalize H1 = H at hP hS ⊢
  refine lv_aload_n hx hb d_law_534 rfl (lv_at hl 2 rfl) ?_
  refine va_calli (va_runV (As := []) (rest := [.int (f_O_choices v lc)]) ⟨hx, hb, hml, hown, hts⟩ (c_R_choices l dC dI ka qa H.size b0 b1 a0 a1 a2 a3 a4 a5 a6 a7 a8 a9 a10 a11 a12  ) (cwV 0 hts k_LR_choices rfl rfl rfl (by decide +kernel) ⟨Nat.le_of_ble_eq_true rfl, Nat.le_of_ble_eq_true rfl⟩) ⟨fb_ro, va_recv hK hP (ci := 3) (q0 := 20) rfl rfl, fun U hU hW => ⟨rfl, by rw [hU], by rw [hU]; exact hP.sub (ws' := (wR ka qa b0 b1 a0 a1 a2 a3 a4 a5 a6 a7 a8 a9 a10 a11 a12)) [20, 21, 22, 23, 24, 25, 26, 27, 28, 29, 30, 31, 32, 33] rfl, va_K.moved hW.alike (hK.sub (tys' := (tR ka)) [16, 17, 18, 19, 20, 21, 22, 23, 24, 25, 26, 27, 28] rfl), NX.warm hW hN⟩⟩ rfl rfl hl.1 rfl (lv_room (Nat.le_of_ble_eq_true rfl)) d_law_535 ⟨Nat.le_of_ble_eq_true rfl, Nat.le_of_ble_eq_true rfl⟩) hS (fun z h1 h2 => absurd h1 (Nat.not_lt.mpr h2)) (fun z h => hA z (Nat.le_trans hS.1 h)) (fun r u t H1 locs ht hvm hpo hB hz1 hk1 hS => ?_)
  have hpo : r = (f_R_choices b1) := hpo
  rw [hpo]
  have hP := kp_P hP hk1
  generalize H1 = H at hP hS ⊢
  have hq := q_choices hR 
  refine lv_icmp_eq (tgt := 850) hx hb d_law_538 (by decide) (fun _ => ?_) (fun cc => absurd hq cc)
  exact hc v lc b0 b1 a0 a1 a2 a3 a4 a5 a6 a7 a8 a9 a10 a11 a12 H locs hP hD hS hR
