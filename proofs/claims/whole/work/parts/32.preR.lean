/-! THE REFERENCE: its cells, its bounds -/
def wR (ka : Nat → ClassId) (qa : Nat → Nat) (b0 b1 : Int32) (a0 a1 a2 a3 a4 a5 a6 a7 a8 a9 a10 a11 a12 : Nat → Int32) : va_W := [(qa 0, .inr (3, [.int b0, .ref (qa 1), .ref (qa 2), .ref (qa 3), .ref (qa 4), .ref (qa 5), .ref (qa 6), .ref (qa 7), .ref (qa 8), .ref (qa 9), .ref (qa 10), .ref (qa 11), .ref (qa 12), .ref (qa 13), .int b1])), (qa 1, .inl (ka 0, 13, .inl a0)), (qa 2, .inl (ka 1, 13, .inl a1)), (qa 3, .inl (ka 2, 13, .inl a2)), (qa 4, .inl (ka 3, 13, .inl a3)), (qa 5, .inl (ka 4, 13, .inl a4)), (qa 6, .inl (ka 5, 13, .inl a5)), (qa 7, .inl (ka 6, 52, .inl a6)), (qa 8, .inl (ka 7, 13, .inl a7)), (qa 9, .inl (ka 8, 52, .inl a8)), (qa 10, .inl (ka 9, 52, .inl a9)), (qa 11, .inl (ka 10, 13, .inl a10)), (qa 12, .inl (ka 11, 169, .inl a11)), (qa 13, .inl (ka 12, 80, .inl a12))]
def tR (ka : Nat → ClassId) : List (ClassId × FieldType) := [(ka 0, .boolean), (ka 1, .boolean), (ka 2, .boolean), (ka 3, .int), (ka 4, .int), (ka 5, .int), (ka 6, .int), (ka 7, .int), (ka 8, .int), (ka 9, .int), (ka 10, .int), (ka 11, .boolean), (ka 12, .int)]
theorem ad_R {A : Nat → Prop} {ka : Nat → ClassId} {qa : Nat → Nat} {b0 b1 : Int32} {a0 a1 a2 a3 a4 a5 a6 a7 a8 a9 a10 a11 a12 c0 c1 c2 c3 c4 c5 c6 c7 c8 c9 c10 c11 c12 : Nat → Int32} {d0 d1 : Int32} (h : va_D A (wR ka qa b0 b1 a0 a1 a2 a3 a4 a5 a6 a7 a8 a9 a10 a11 a12)) : va_D A (wR ka qa d0 d1 c0 c1 c2 c3 c4 c5 c6 c7 c8 c9 c10 c11 c12) := ad_D h rfl
theorem pr2 {α β : Type} {a c : α} {b d : β} (h1 : a = c) (h2 : b = d) : (a, b) = (c, d) := by rw [h1, h2]
def vT (b : Int32) : Prop := 0 ≤ b.toInt ∧ b.toInt ≤ 12
def vPar (a : Nat → Int32) : Prop := ∀ i, i < 13 → ∃ j, a i = nI j ∧ j ≤ 12 ∧ (j < i ∨ j = 0)
def vDir (a : Nat → Int32) : Prop := ∀ i, i < 52 → vp_in (a i) 13
def vDc (a : Nat → Int32) : Prop := ∀ i, i < 13 → 0 ≤ (a i).toInt ∧ (a i).toInt ≤ 4
theorem leT {b x : Int32} {k : Nat} (hT : vT b) (et : x = nI k) (h2 : k ≤ 13) (c : ¬ b < x) : k ≤ 12 := by
  have h := et_i et h2
  have h3 := hT
  unfold vT at h3
  rw [Int32.lt_iff_toInt_lt] at c; omega
theorem rltDc {a : Nat → Int32} {x y : Int32} {k : Nat} (hdc : vDc a) (et : x = nI k) (h2 : k ≤ 13) (c : ¬ (a y.toNatClampNeg) ≤ x) (hp : vp_in y 13) : k < 4 := by
  have h := et_i et h2
  have h3 := hdc _ (in_lt hp)
  rw [Int32.le_iff_toInt_le] at c; omega
theorem jx4 {a b : Nat} : ((4 : Int32) * nI a) + nI b = nI (4 * a + b) := by
  rw [show (4 : Int32) = nI 4 from rfl, pk_mul, nI_add]
theorem jn_dc {x y : Int32} {k : Nat} (hp : vp_in y 13) (et : x = nI k) (h : k < 4) : vp_in (((4 : Int32) * y) + x) 52 := by
  rw [in_k hp, et, jx4]
  have := in_lt hp
  exact vp_in_nI (by omega) (by decide)
theorem jn_52 {x y : Int32} (hp : vp_in y 13) (hx : vp_in x 4) : vp_in (((4 : Int32) * y) + x) 52 := jn_dc hp (in_k hx) (in_lt hx)
theorem jx13 {a b : Nat} : ((13 : Int32) * nI a) + nI b = nI (13 * a + b) := by
  rw [show (13 : Int32) = nI 13 from rfl, pk_mul, nI_add]
theorem jn_169 {x y : Int32} (hp : vp_in y 13) (hx : vp_in x 13) : vp_in (((13 : Int32) * y) + x) 169 := by
  rw [in_k hp, in_k hx, jx13]
  have := in_lt hp
  have := in_lt hx
  exact vp_in_nI (by omega) (by decide)
theorem par_in {a : Nat → Int32} {x : Int32} (hpa : vPar a) (hx : vp_in x 13) : vp_in (a x.toNatClampNeg) 13 := by
  obtain ⟨j, e, h, -⟩ := hpa _ (in_lt hx)
  rw [e]; exact vp_in_nI (by omega) (by decide)
theorem par_et {a : Nat → Int32} {x : Int32} (hpa : vPar a) (hx : vp_in x 13) : a x.toNatClampNeg = nI (a x.toNatClampNeg).toNatClampNeg := in_k (par_in hpa hx)
theorem par_h2 {a : Nat → Int32} {x : Int32} (hpa : vPar a) (hx : vp_in x 13) : (a x.toNatClampNeg).toNatClampNeg ≤ 12 := by
  have := in_lt (par_in hpa hx)
  omega
theorem zero_i : (0 : Int32).toInt = 0 := by decide +kernel
theorem dz_k {x : Int32} {k : Nat} (et : x = nI k) (h2 : k ≤ 12) (c : ¬ x ≤ (0 : Int32)) : 1 ≤ k := by
  have h := et_i et (by omega)
  have h4 := zero_i
  rw [Int32.le_iff_toInt_le] at c; omega
theorem par_h1 {a : Nat → Int32} {x : Int32} {k n : Nat} (hpa : vPar a) (et : x = nI k) (h2 : k ≤ 12) (h1 : k + 1 ≤ n + 1) (c : ¬ x ≤ (0 : Int32)) : (a x.toNatClampNeg).toNatClampNeg + 1 ≤ n := by
  have hk := dz_k et h2 c
  have hx : x.toNatClampNeg = k := by rw [et]; exact nI_clamp (by omega)
  obtain ⟨j, e, h, h3⟩ := hpa x.toNatClampNeg (by omega)
  rw [e, nI_clamp (by omega)]
  omega
theorem dz_et {x : Int32} {k : Nat} (et : x = nI k) (h2 : k ≤ 12) (c : ¬ x ≤ (0 : Int32)) : x + (-1 : Int32) = nI (k - 1) := by
  have h := dz_k et h2 c
  obtain ⟨j, rfl⟩ : ∃ j, k = j + 1 := ⟨k - 1, by omega⟩
  rw [et]; exact pk_m1 j
theorem dz_h1 {x : Int32} {k n : Nat} (et : x = nI k) (h2 : k ≤ 12) (h1 : k + 1 ≤ n + 1) (c : ¬ x ≤ (0 : Int32)) : k - 1 + 1 ≤ n := by
  have h := dz_k et h2 c
  omega
theorem dz_h0 {x : Int32} {k n : Nat} (et : x = nI k) (h2 : k ≤ 12) (h1 : k + 1 ≤ n + 1) (c : ¬ x ≤ (0 : Int32)) : 0 + 1 ≤ n := by
  have h := dz_k et h2 c
  omega
theorem vT_in {b : Int32} (hT : vT b) : vp_in b 13 := by
  unfold vT at hT
  rw [vp_in_iff]; omega
theorem vT_inc {b : Int32} (hT : vT b) (c : ¬ b = (12 : Int32)) : vp_in (b + (1 : Int32)) 13 := by
  unfold vT at hT
  have h12 : (12 : Int32).toInt = 12 := by decide +kernel
  have h1 : b.toInt ≠ 12 := fun h => c (Int32.toInt_inj.mp (h.trans h12.symm))
  obtain ⟨j, hj, e⟩ := vp_in_of (x := b) (n := 12) (vp_in_iff.mpr (by omega)) (by decide)
  rw [e, nI_1]; exact vp_in_nI (by omega) (by decide)
theorem dir_in {a : Nat → Int32} {x : Int32} (hdi : vDir a) (h : vp_in x 52) : vp_in (a x.toNatClampNeg) 13 := hdi _ (in_lt h)
