theorem law_out {i L : Nat} (hL : L ≤ 3072) (hi : i ≤ 4000) (c : ¬ (Int32.ofNat L - (6 : Int32)) < nI i) : i + 6 ≤ L := by
  have h1 : (Int32.ofNat L - (6 : Int32)).toInt = (L : Int) - 6 := pk_sub_toInt (a := L) (b := 6) (by omega) (by omega)
  have h2 : (nI i).toInt = (i : Int) := nI_toInt (by omega)
  rw [Int32.lt_iff_toInt_lt, h1, h2] at c
  omega
set_option maxHeartbeats 4000000 in
set_option maxRecDepth 100000 in
theorem law_loop {p : Program} {l : Launch} {e : Env} {s : State} {m : MethodId} {below : List Frame} {meth : Method} {c : Code} {dC : Nat → ClassId} {dI : Nat → Nat → Nat} {b L : Nat} {xs : Nat → Int32} (hL : L ≤ 3072) (C0 : lw_At p s m meth c b L xs) (hN : NX s) {h0 : Nat} {kw kf km ka : Nat → ClassId} {qw qf qm qa : Nat → Nat} (hK : va_K (dC, dI) classes (tO kw kf km ++ tR ka) s) : ∀ (n i : Nat) (x3 : Int32), x3 = nI i → i ≤ 3072 → L + 1 ≤ i + n → ∀ (ls : Array Slot), lv_has ls 4 [(0, .ref b), (1, .ref h0), (2, .ref (qa 0)), (3, .int x3)] → LW p l e s m below meth c dC dI h0 kw kf km qw qf qm ka qa b 18 ls := by
  obtain ⟨hx, hb, hr, hml, hown, hts0, hX, hbl, hlocks, hgv⟩ := id C0
  have hA : ∀ q : Nat, s.heap.size ≤ q → (fun q : Nat => s.heap.size ≤ q) q := fun _ h => h
  have hbA : ¬ (fun q : Nat => s.heap.size ≤ q) b := Nat.not_le.mpr hbl
  have stop : ∀ (i : Nat) (x3 : Int32), x3 = nI i → i ≤ 3072 → ∀ (ls : Array Slot), lv_has ls 4 [(0, .ref b), (1, .ref h0), (2, .ref (qa 0)), (3, .int x3)] → (i + 6 ≤ L → LW p l e s m below meth c dC dI h0 kw kf km qw qf qm ka qa b 27 ls) → LW p l e s m below meth c dC dI h0 kw kf km qw qf qm ka qa b 18 ls := by
    intro i x3 ex hi3 ls hl hgo v lc b0 b1 a0 a1 a2 a3 a4 a5 a6 a7 a8 a9 a10 a11 a12 H locs hP hD hS hR
    refine lv_iload_n hx hb d_law_18 rfl (lv_at hl 3 rfl) ?_
    refine lv_aload_n hx hb d_law_19 rfl (lv_at hl 0 rfl) ?_
    refine va_slen hx hb hX hbl hbA hS d_law_20 ?_
    refine lv_bipush (v := (6 : Int32)) hx hb d_law_21 (by decide +kernel) ?_
    refine lv_isub hx hb d_law_23 ?_
    refine lv_icmp_gt (tgt := 856) hx hb d_law_24 (by decide) (fun c1 => ?_) (fun c1 => ?_)
    · refine lv_iconst (v := (1 : Int32)) hx hb d_law_856 (by decide) ?_
      refine va_forget (fun q hq => hS.2.2 q hq) ?_
      exact lw_ret hx hb hr hlocks d_law_857
    · exact hgo (law_out hL (by omega) (by rw [ex] at c1; exact c1)) v lc b0 b1 a0 a1 a2 a3 a4 a5 a6 a7 a8 a9 a10 a11 a12 H locs hP hD hS hR
  intro n
  induction n with
  | zero =>
    intro i x3 ex hi3 hin ls hl
    exact stop i x3 ex hi3 ls hl (fun hi => by exfalso; omega)
  | succ n ih =>
    intro i x3 ex hi3 hin ls hl
    refine stop i x3 ex hi3 ls hl (fun hi => ?_)
    have hcont : LW p l e s m below meth c dC dI h0 kw kf km qw qf qm ka qa b 850 ls := by
      intro v lc b0 b1 a0 a1 a2 a3 a4 a5 a6 a7 a8 a9 a10 a11 a12 H locs hP hD hS hR
      obtain ⟨x9, ex9⟩ : ∃ y : Int32, y = x3 + 6 := ⟨_, rfl⟩
      refine lv_iinc (v := x9) (lv' := [(3, .int x9), (0, .ref b), (1, .ref h0), (2, .ref (qa 0))]) hx hb d_law_850 hl (k := 3) rfl (by rw [ex9]; rfl) (by decide) rfl (fun ls hl => ?_)
      refine lv_goto (tgt := 18) hx hb d_law_853 (by decide) ?_
      exact ih (i + 6) x9 (by rw [ex9, ex]; exact nI_add i 6) (by omega) (by omega) ls (lv_sub hl [1, 2, 3, 0] rfl) v lc b0 b1 a0 a1 a2 a3 a4 a5 a6 a7 a8 a9 a10 a11 a12 H locs hP hD hS hR
    intro v lc b0 b1 a0 a1 a2 a3 a4 a5 a6 a7 a8 a9 a10 a11 a12 H locs hP hD hS hR
    have i0 : vp_in x3 L := by rw [ex]; exact vp_in_nI (by omega) (by omega)
    refine lv_aload_n hx hb d_law_27 rfl (lv_at hl 0 rfl) ?_
    refine lv_iload_n hx hb d_law_28 rfl (lv_at hl 3 rfl) ?_
    refine va_sld hx hb hX hbl hbA hS i0 d_law_29 ?_
    refine lv_bipush (v := (15 : Int32)) hx hb d_law_30 (by decide +kernel) ?_
    refine lv_iand hx hb d_law_32 ?_
    have hj : ∃ j : Nat, j < 16 ∧ (xs x3.toNatClampNeg &&& (15 : Int32)) = nI j := ⟨_, Nat.mod_lt _ (by decide), pk_and (xs x3.toNatClampNeg) 4 (by decide +kernel)⟩
    obtain ⟨j, hj, ej⟩ := hj
    have hjs : j = 0 ∨ j = 1 ∨ j = 2 ∨ j = 3 ∨ j = 4 ∨ j = 5 ∨ j = 6 ∨ j = 7 ∨ j = 8 ∨ j = 9 ∨ j = 10 ∨ j = 11 ∨ j = 12 ∨ j = 13 ∨ j = 14 ∨ j = 15 := by omega
    generalize xs x3.toNatClampNeg &&& (15 : Int32) = z at ej ⊢
    rcases hjs with rfl | rfl | rfl | rfl | rfl | rfl | rfl | rfl | rfl | rfl | rfl | rfl | rfl | rfl | rfl | rfl
    · refine lv_tableIn (tgt := 112) (off := 79) hx hb d_law_33 (by rw [ej]; decide +kernel) (by rw [ej]; decide +kernel) (by rw [ej]; rfl) (by decide) ?_
      exact law_c0 hL C0 hN hK ex hi hl hcont v lc b0 b1 a0 a1 a2 a3 a4 a5 a6 a7 a8 a9 a10 a11 a12 H locs hP hD hS hR
    · refine lv_tableIn (tgt := 197) (off := 164) hx hb d_law_33 (by rw [ej]; decide +kernel) (by rw [ej]; decide +kernel) (by rw [ej]; rfl) (by decide) ?_
      exact law_c1 hL C0 hN hK ex hi hl hcont v lc b0 b1 a0 a1 a2 a3 a4 a5 a6 a7 a8 a9 a10 a11 a12 H locs hP hD hS hR
    · refine lv_tableIn (tgt := 246) (off := 213) hx hb d_law_33 (by rw [ej]; decide +kernel) (by rw [ej]; decide +kernel) (by rw [ej]; rfl) (by decide) ?_
      exact law_c2 hL C0 hN hK ex hi hl hcont v lc b0 b1 a0 a1 a2 a3 a4 a5 a6 a7 a8 a9 a10 a11 a12 H locs hP hD hS hR
    · refine lv_tableIn (tgt := 279) (off := 246) hx hb d_law_33 (by rw [ej]; decide +kernel) (by rw [ej]; decide +kernel) (by rw [ej]; rfl) (by decide) ?_
      exact law_c3 hL C0 hN hK ex hi hl hcont v lc b0 b1 a0 a1 a2 a3 a4 a5 a6 a7 a8 a9 a10 a11 a12 H locs hP hD hS hR
    · refine lv_tableIn (tgt := 312) (off := 279) hx hb d_law_33 (by rw [ej]; decide +kernel) (by rw [ej]; decide +kernel) (by rw [ej]; rfl) (by decide) ?_
      exact law_c4 hL C0 hN hK ex hi hl hcont v lc b0 b1 a0 a1 a2 a3 a4 a5 a6 a7 a8 a9 a10 a11 a12 H locs hP hD hS hR
    · refine lv_tableIn (tgt := 381) (off := 348) hx hb d_law_33 (by rw [ej]; decide +kernel) (by rw [ej]; decide +kernel) (by rw [ej]; rfl) (by decide) ?_
      exact law_c5 hL C0 hN hK ex hi hl hcont v lc b0 b1 a0 a1 a2 a3 a4 a5 a6 a7 a8 a9 a10 a11 a12 H locs hP hD hS hR
    · refine lv_tableIn (tgt := 434) (off := 401) hx hb d_law_33 (by rw [ej]; decide +kernel) (by rw [ej]; decide +kernel) (by rw [ej]; rfl) (by decide) ?_
      exact law_c6 hL C0 hN hK ex hi hl hcont v lc b0 b1 a0 a1 a2 a3 a4 a5 a6 a7 a8 a9 a10 a11 a12 H locs hP hD hS hR
    · refine lv_tableIn (tgt := 477) (off := 444) hx hb d_law_33 (by rw [ej]; decide +kernel) (by rw [ej]; decide +kernel) (by rw [ej]; rfl) (by decide) ?_
      exact law_c7 hL C0 hN hK ex hi hl hcont v lc b0 b1 a0 a1 a2 a3 a4 a5 a6 a7 a8 a9 a10 a11 a12 H locs hP hD hS hR
    · refine lv_tableIn (tgt := 530) (off := 497) hx hb d_law_33 (by rw [ej]; decide +kernel) (by rw [ej]; decide +kernel) (by rw [ej]; rfl) (by decide) ?_
      exact law_c8 hL C0 hN hK ex hi hl hcont v lc b0 b1 a0 a1 a2 a3 a4 a5 a6 a7 a8 a9 a10 a11 a12 H locs hP hD hS hR
    · refine lv_tableIn (tgt := 543) (off := 510) hx hb d_law_33 (by rw [ej]; decide +kernel) (by rw [ej]; decide +kernel) (by rw [ej]; rfl) (by decide) ?_
      exact law_c9 hL C0 hN hK ex hi hl hcont v lc b0 b1 a0 a1 a2 a3 a4 a5 a6 a7 a8 a9 a10 a11 a12 H locs hP hD hS hR
    · refine lv_tableIn (tgt := 612) (off := 579) hx hb d_law_33 (by rw [ej]; decide +kernel) (by rw [ej]; decide +kernel) (by rw [ej]; rfl) (by decide) ?_
      exact law_c10 hL C0 hN hK ex hi hl hcont v lc b0 b1 a0 a1 a2 a3 a4 a5 a6 a7 a8 a9 a10 a11 a12 H locs hP hD hS hR
    · refine lv_tableIn (tgt := 675) (off := 642) hx hb d_law_33 (by rw [ej]; decide +kernel) (by rw [ej]; decide +kernel) (by rw [ej]; rfl) (by decide) ?_
      exact law_c11 hL C0 hN hK ex hi hl hcont v lc b0 b1 a0 a1 a2 a3 a4 a5 a6 a7 a8 a9 a10 a11 a12 H locs hP hD hS hR
    · refine lv_tableIn (tgt := 708) (off := 675) hx hb d_law_33 (by rw [ej]; decide +kernel) (by rw [ej]; decide +kernel) (by rw [ej]; rfl) (by decide) ?_
      exact law_c12 hL C0 hN hK ex hi hl hcont v lc b0 b1 a0 a1 a2 a3 a4 a5 a6 a7 a8 a9 a10 a11 a12 H locs hP hD hS hR
    · refine lv_tableIn (tgt := 741) (off := 708) hx hb d_law_33 (by rw [ej]; decide +kernel) (by rw [ej]; decide +kernel) (by rw [ej]; rfl) (by decide) ?_
      exact law_c13 hL C0 hN hK ex hi hl hcont v lc b0 b1 a0 a1 a2 a3 a4 a5 a6 a7 a8 a9 a10 a11 a12 H locs hP hD hS hR
    · refine lv_tableIn (tgt := 784) (off := 751) hx hb d_law_33 (by rw [ej]; decide +kernel) (by rw [ej]; decide +kernel) (by rw [ej]; rfl) (by decide) ?_
      exact law_c14 hL C0 hN hK ex hi hl hcont v lc b0 b1 a0 a1 a2 a3 a4 a5 a6 a7 a8 a9 a10 a11 a12 H locs hP hD hS hR
    · refine lv_tableIn (tgt := 817) (off := 784) hx hb d_law_33 (by rw [ej]; decide +kernel) (by rw [ej]; decide +kernel) (by rw [ej]; rfl) (by decide) ?_
      exact law_c15 hL C0 hN hK ex hi hl hcont v lc b0 b1 a0 a1 a2 a3 a4 a5 a6 a7 a8 a9 a10 a11 a12 H locs hP hD hS hR
