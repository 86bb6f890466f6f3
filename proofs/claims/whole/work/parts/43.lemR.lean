def bt (x : Int32) (i : Nat) : Bool := x.toBitVec.getLsbD i
theorem b_ext {x y : Int32} (h : ∀ i, i < 32 → bt x i = bt y i) : x = y := Int32.toBitVec_inj.mp (BitVec.eq_of_getLsbD_eq (fun i hi => h i hi))
theorem b_or (x y : Int32) (i : Nat) : bt (x ||| y) i = (bt x i || bt y i) := by unfold bt; rw [Int32.toBitVec_or, BitVec.getLsbD_or]
theorem b_and (x y : Int32) (i : Nat) : bt (x &&& y) i = (bt x i && bt y i) := by unfold bt; rw [Int32.toBitVec_and, BitVec.getLsbD_and]
theorem b_xor (x y : Int32) (i : Nat) : bt (x ^^^ y) i = (bt x i ^^ bt y i) := by unfold bt; rw [Int32.toBitVec_xor, BitVec.getLsbD_xor]
theorem b_big {x : Int32} {i : Nat} (h : 32 ≤ i) : bt x i = false := BitVec.getLsbD_of_ge _ _ h
theorem b_255 (i : Nat) : bt 255 i = decide (i < 8) := by
  rcases Nat.lt_or_ge i 32 with h | h
  · exact (by decide +kernel : ∀ i, i < 32 → bt 255 i = decide (i < 8)) i h
  · rw [b_big h, decide_eq_false (by omega)]
theorem b_65535 (i : Nat) : bt 65535 i = decide (i < 16) := by
  rcases Nat.lt_or_ge i 32 with h | h
  · exact (by decide +kernel : ∀ i, i < 32 → bt 65535 i = decide (i < 16)) i h
  · rw [b_big h, decide_eq_false (by omega)]
theorem b_m1 : ∀ i, i < 32 → bt (-1) i = true := by decide +kernel
theorem b_0 (i : Nat) : bt 0 i = false := BitVec.getLsbD_zero
theorem s_l : ∀ n, n < 32 → ((nI n &&& 31).toBitVec.smod 32).toNat = n := by decide +kernel
theorem s_u : ∀ n, n < 32 → (((nI n).toUInt32 &&& Int32.toUInt32 31).toBitVec % 32).toNat = n := by decide +kernel
theorem b_shl (n : Nat) (hn : n < 32) (x : Int32) {i : Nat} (hi : i < 32) : bt (x <<< (nI n &&& 31)) i = (decide (n ≤ i) && bt x (i - n)) := by
  unfold bt
  rw [Int32.toBitVec_shiftLeft]
  show (x.toBitVec <<< ((nI n &&& 31).toBitVec.smod 32).toNat).getLsbD i = _
  rw [s_l n hn, BitVec.getLsbD_shiftLeft]
  rcases Nat.lt_or_ge i n with h | h
  · simp [h, Nat.not_le.mpr h]
  · simp [hi, h, Nat.not_lt.mpr h]
theorem b_sshr (n : Nat) (hn : n < 32) (x : Int32) {i : Nat} (hi : i < 32) : bt (x >>> (nI n &&& 31)) i = if n + i < 32 then bt x (n + i) else bt x 31 := by
  unfold bt
  rw [Int32.toBitVec_shiftRight]
  show (x.toBitVec.sshiftRight ((nI n &&& 31).toBitVec.smod 32).toNat).getLsbD i = _
  rw [s_l n hn, BitVec.getLsbD_sshiftRight, BitVec.msb_eq_getLsbD_last]
  simp [hi]
theorem one_shl {k i : Nat} (hk : k < 32) (hi : i < 32) : bt ((1 : Int32) <<< (nI k &&& (31 : Int32))) i = decide (i = k) := by
  rw [b_shl k hk _ hi]
  by_cases h : i = k
  · subst h; simp; decide +kernel
  · by_cases h2 : k ≤ i
    · obtain ⟨j, rfl⟩ : ∃ j, i = k + (j + 1) := ⟨i - k - 1, by omega⟩
      have h3 : bt (1 : Int32) (j + 1) = false := (by decide +kernel : ∀ j, j < 32 → bt (1 : Int32) (j + 1) = false) j (by omega)
      simp [h, show k + (j + 1) - k = j + 1 by omega, h3]
    · simp [h, h2]
theorem sb0 {x : Int32} {k : Nat} (hk : k < 32) : ((x >>> (nI k &&& (31 : Int32))) &&& (1 : Int32)) = (0 : Int32) ↔ bt x k = false := by
  constructor
  · intro h
    have h1 : bt ((x >>> (nI k &&& (31 : Int32))) &&& (1 : Int32)) 0 = false := by rw [h]; exact b_0 0
    rw [b_and, b_sshr k hk x (by omega)] at h1
    have h2 : bt (1 : Int32) 0 = true := by decide +kernel
    rw [h2] at h1
    simpa [hk] using h1
  · intro h
    refine b_ext (fun i hi => ?_)
    rw [b_and, b_0]
    by_cases e : i = 0
    · subst e
      rw [b_sshr k hk x (by omega)]
      simp [hk, h]
    · have h3 : bt (1 : Int32) i = false := (by decide +kernel : ∀ i, i < 32 → i ≠ 0 → bt (1 : Int32) i = false) i hi e
      rw [h3]; simp
def fInv (s d : Int32) (y : Nat → Int32) (n : Nat) : Prop := ∃ (dn : Nat) (U : List Nat), d = nI dn ∧ dn + 5 * U.length ≤ 66 ∧ dn + 6 * U.length + 1 ≤ n ∧ (∀ i, i < 13 → bt s i = false → i ∈ U) ∧ (∀ i, i < dn → vp_in (y i) 13)
theorem fI_0 {s d : Int32} {y : Nat → Int32} (h : fInv s d y 0) : False := by
  obtain ⟨dn, U, -, -, h3, -⟩ := h
  omega
theorem fI_start {y : Nat → Int32} {x : Int32} (hx : vp_in x 13) : fInv 0 1 (upd y (0 : Int32).toNatClampNeg x) 80 := by
  refine ⟨1, List.range 13, rfl, by simp, by simp, fun i hi _ => List.mem_range.mpr hi, fun i hi => ?_⟩
  have e : i = (0 : Int32).toNatClampNeg := by
    have : (0 : Int32).toNatClampNeg = 0 := by decide +kernel
    omega
  unfold upd
  rw [if_pos e]; exact hx
theorem ff_k {d : Int32} {dn : Nat} (hd : d = nI dn) (hb : dn ≤ 66) (c : ¬ d ≤ (0 : Int32)) : 1 ≤ dn := by
  have h : d.toInt = dn := by rw [hd]; exact nI_toInt (by omega)
  have h0 := zero_i
  rw [Int32.le_iff_toInt_le] at c; omega
theorem ff_m {d : Int32} {dn : Nat} (hd : d = nI dn) (hb : dn ≤ 66) (c : ¬ d ≤ (0 : Int32)) : d + (-1 : Int32) = nI (dn - 1) := by
  have h := ff_k hd hb c
  obtain ⟨j, rfl⟩ : ∃ j, dn = j + 1 := ⟨dn - 1, by omega⟩
  rw [hd]; exact pk_m1 j
theorem ff_ix {d : Int32} {dn : Nat} (hd : d = nI dn) (hb : dn ≤ 66) (c : ¬ d ≤ (0 : Int32)) : vp_in (d + (-1 : Int32)) 80 := by
  rw [ff_m hd hb c]; exact vp_in_nI (by omega) (by decide)
theorem ff_t {d : Int32} {dn : Nat} {y : Nat → Int32} (hd : d = nI dn) (hb : dn ≤ 66) (c : ¬ d ≤ (0 : Int32)) (hy : ∀ i, i < dn → vp_in (y i) 13) : vp_in (y (d + (-1 : Int32)).toNatClampNeg) 13 := by
  have h := ff_k hd hb c
  rw [ff_m hd hb c, nI_clamp (by omega)]
  exact hy _ (by omega)
theorem ff_pop {s d : Int32} {dn n : Nat} {U : List Nat} {y : Nat → Int32} (hd : d = nI dn) (h1 : dn + 5 * U.length ≤ 66) (h2 : dn + 6 * U.length + 1 ≤ n + 1) (h3 : ∀ i, i < 13 → bt s i = false → i ∈ U) (h4 : ∀ i, i < dn → vp_in (y i) 13) (c : ¬ d ≤ (0 : Int32)) : fInv s (d + (-1 : Int32)) y n := by
  have h := ff_k hd (by omega) c
  exact ⟨dn - 1, U, ff_m hd (by omega) c, by omega, by omega, h3, fun i hi => h4 i (by omega)⟩
/-- the inner loop: what is pushed stays in bounds; D is the most that the depth comes to -/
def gInv (D : Nat) (d k : Int32) (y : Nat → Int32) (n : Nat) : Prop := ∃ (dn j : Nat), d = nI dn ∧ k + (1 : Int32) = nI j ∧ j ≤ 4 ∧ dn + j ≤ D ∧ D ≤ 76 ∧ j + 1 ≤ n ∧ (∀ i, i < dn → vp_in (y i) 13)
theorem gI_0 {D : Nat} {d k : Int32} {y : Nat → Int32} (h : gInv D d k y 0) : False := by
  obtain ⟨dn, j, -, -, -, -, -, h3, -⟩ := h
  omega
theorem k1_sub {k : Int32} {j : Nat} (e : k + (1 : Int32) = nI j) : k = nI j - (1 : Int32) := by rw [← e, Int32.add_sub_cancel]
theorem gI_j {D n : Nat} {d k : Int32} {y : Nat → Int32} (h : gInv D d k y n) (c : ¬ k < (0 : Int32)) : ∃ (dn j : Nat), d = nI dn ∧ k = nI j ∧ j < 4 ∧ dn + (j + 1) ≤ D ∧ D ≤ 76 ∧ j + 2 ≤ n ∧ (∀ i, i < dn → vp_in (y i) 13) := by
  obtain ⟨dn, j, h1, h2, h3, h4, h5, h6, h7⟩ := h
  have e := k1_sub h2
  cases j with
  | zero =>
    exfalso
    apply c
    rw [e]; decide +kernel
  | succ j => exact ⟨dn, j, h1, by rw [e]; exact nI_pred j, by omega, by omega, h5, by omega, h7⟩
theorem gI_ix {D n : Nat} {d k : Int32} {y : Nat → Int32} (h : gInv D d k y n) (c : ¬ k < (0 : Int32)) : vp_in d 80 := by
  obtain ⟨dn, j, h1, -, -, h4, h5, -, -⟩ := gI_j h c
  rw [h1]; exact vp_in_nI (by omega) (by decide)
theorem gI_d {D n : Nat} {d k x : Int32} {y : Nat → Int32} (hx : vp_in x 13) (h : gInv D d k y n) (c : ¬ k < (0 : Int32)) : vp_in (((4 : Int32) * x) + k) 52 := by
  obtain ⟨dn, j, -, h2, h3, -⟩ := gI_j h c
  exact jn_dc hx h2 h3
theorem gI_step {D n : Nat} {d k v : Int32} {y : Nat → Int32} (hv : vp_in v 13) (h : gInv D d k y (n + 1)) (c : ¬ k < (0 : Int32)) : gInv D (d + (1 : Int32)) (k + (-1 : Int32)) (upd y d.toNatClampNeg v) n := by
  obtain ⟨dn, j, h1, h2, h3, h4, h5, h6, h7⟩ := gI_j h c
  refine ⟨dn + 1, j, by rw [h1]; exact nI_1 dn, ?_, by omega, by omega, h5, by omega, fun i hi => ?_⟩
  · rw [h2, Int32.add_assoc, show (-1 : Int32) + 1 = 0 from by decide +kernel, Int32.add_zero]
  · have e : d.toNatClampNeg = dn := by rw [h1]; exact nI_clamp (by omega)
    unfold upd
    rw [e]
    split
    · exact hv
    · exact h7 i (by omega)
theorem gI_start {D dn : Nat} {d c : Int32} {y : Nat → Int32} (h1 : d = nI dn) (hc : 0 ≤ c.toInt ∧ c.toInt ≤ 4) (hD : dn + 4 ≤ D) (hD2 : D ≤ 76) (hy : ∀ i, i < dn → vp_in (y i) 13) : gInv D d (c - (1 : Int32)) y 14 := by
  obtain ⟨j, hj, e⟩ := vp_in_of (x := c) (n := 5) (vp_in_iff.mpr (by omega)) (by decide)
  exact ⟨dn, j, h1, by rw [e, Int32.sub_add_cancel], by omega, by omega, hD2, by omega, hy⟩
theorem in80_0 : vp_in (0 : Int32) 80 := by rw [vp_in_iff]; decide +kernel
theorem gI_start1 {dn : Nat} {d c v : Int32} {y : Nat → Int32} (hd : d = nI dn) (hb : dn ≤ 66) (cc : ¬ d ≤ (0 : Int32)) (hc : 0 ≤ c.toInt ∧ c.toInt ≤ 4) (hv : vp_in v 13) (hy : ∀ i, i < dn → vp_in (y i) 13) : gInv (dn + 4) ((d + (-1 : Int32)) + (1 : Int32)) (c - (1 : Int32)) (upd y (d + (-1 : Int32)).toNatClampNeg v) 14 := by
  have h := ff_k hd hb cc
  have e : (d + (-1 : Int32)).toNatClampNeg = dn - 1 := by rw [ff_m hd hb cc]; exact nI_clamp (by omega)
  refine gI_start (dn := dn) ?_ hc (by omega) (by omega) (fun i hi => ?_)
  · rw [ff_m hd hb cc, nI_1, show dn - 1 + 1 = dn by omega]
  · rw [e]
    unfold upd
    split
    · exact hv
    · exact hy i hi
theorem gI_res {a4 a6 a7 a8 : Nat → Int32} {p1 p2 x5 : Int32} (hdi : vDir a6) (hx : vp_in x5 13) : ∀ (n D : Nat) (d k : Int32) (y : Nat → Int32), gInv D d k y n → ∃ dn, (lfin_R_findField_103 a4 a6 a7 a8 p1 p2 x5 n d k y).1 = nI dn ∧ dn ≤ D ∧ ∀ i, i < dn → vp_in ((lfin_R_findField_103 a4 a6 a7 a8 p1 p2 x5 n d k y).2.2 i) 13 := by
  intro n
  induction n with
  | zero => intro D d k y h; exact (gI_0 h).elim
  | succ n ih =>
    intro D d k y h
    rw [lfin_R_findField_103_s]
    by_cases c : k < (0 : Int32)
    · rw [if_pos c]
      obtain ⟨dn, j, h1, -, -, h4, -, -, h7⟩ := h
      exact ⟨dn, h1, by omega, h7⟩
    · rw [if_neg c]
      exact ih D _ _ _ (gI_step (dir_in hdi (gI_d hx h c)) h c)
theorem ff_push {s d t e : Int32} {dn n : Nat} {U : List Nat} {z : Nat → Int32} (hd : d = nI dn) (h1 : dn + 5 * U.length ≤ 66) (h2 : dn + 6 * U.length + 1 ≤ n + 1) (h3 : ∀ i, i < 13 → bt s i = false → i ∈ U) (c : ¬ d ≤ (0 : Int32)) (ht : vp_in t 13) (cu : ((s >>> (t &&& (31 : Int32))) &&& (1 : Int32)) = (0 : Int32)) (h : ∃ k, e = nI k ∧ k ≤ dn + 4 ∧ ∀ i, i < k → vp_in (z i) 13) : fInv (s ||| ((1 : Int32) <<< (t &&& (31 : Int32)))) e z n := by
  have hk := ff_k hd (by omega) c
  have htl := in_lt ht
  rw [in_k ht] at cu ⊢
  have hm : t.toNatClampNeg ∈ U := h3 _ htl ((sb0 (by omega)).mp cu)
  have hl := List.length_erase_of_mem hm
  have hp := List.length_pos_of_mem hm
  obtain ⟨k, e1, e2, e3⟩ := h
  refine ⟨k, U.erase t.toNatClampNeg, e1, by omega, by omega, fun i hi hb => ?_, e3⟩
  rw [b_or, one_shl (by omega) (by omega)] at hb
  simp only [Bool.or_eq_false_iff, decide_eq_false_iff_not] at hb
  exact (List.mem_erase_of_ne hb.2).mpr (h3 i hi hb.1)
