theorem rin_has {b x : Int32} (hT : vT b) (c : ¬ (f_R_there b x) = (0 : Int32)) : vp_in x 13 := by
  unfold vT at hT
  unfold f_R_there f_R_in at c
  have h1 := one_i
  by_cases c1 : x < (1 : Int32)
  · rw [if_pos c1] at c; exact absurd rfl c
  · rw [if_neg c1] at c
    by_cases c2 : b < x
    · rw [if_pos c2] at c; exact absurd rfl c
    · rw [Int32.lt_iff_toInt_lt] at c1 c2
      rw [vp_in_iff]; omega
theorem jn_name {x : Int32} (c : ¬ (f_R_in x (0 : Int32) (3 : Int32)) = (0 : Int32)) : vp_in x 4 := by
  unfold f_R_in at c
  have h0 := zero_i
  have h3 : (3 : Int32).toInt = 3 := by decide +kernel
  by_cases c1 : x < (0 : Int32)
  · rw [if_pos c1] at c; exact absurd rfl c
  · rw [if_neg c1] at c
    by_cases c2 : (3 : Int32) < x
    · rw [if_pos c2] at c; exact absurd rfl c
    · rw [Int32.lt_iff_toInt_lt] at c1 c2
      rw [vp_in_iff]; omega
theorem in_tell {b0 : Int32} {a1 a3 a5 : Nat → Int32} {x y : Int32} (h : vp_in (b0 + (1 : Int32)) 13) : vp_in (f_R_tell b0 a1 a3 a5 x y) 13 := h
theorem jn_nd {a : Nat → Int32} {x : Int32} (hdc : vDc a) (hp : vp_in x 13) (c : ¬ (a x.toNatClampNeg) = (4 : Int32)) : vp_in (((4 : Int32) * x) + (a x.toNatClampNeg)) 52 := by
  have h3 := hdc _ (in_lt hp)
  have h4 : (4 : Int32).toInt = 4 := by decide +kernel
  have h5 : (a x.toNatClampNeg).toInt ≠ 4 := fun h => c (Int32.toInt_inj.mp (h.trans h4.symm))
  obtain ⟨j, hj, e⟩ := vp_in_of (x := a x.toNatClampNeg) (n := 4) (vp_in_iff.mpr (by omega)) (by decide)
  exact jn_dc hp e hj
