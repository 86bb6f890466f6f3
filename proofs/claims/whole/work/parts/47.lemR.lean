/-! ranges of the reference's answers -/
theorem in_rffL {a4 a6 a7 a8 : Nat → Int32} {p1 p2 : Int32} (hpa : vPar a4) (hdi : vDir a6) (hdc : vDc a7) : ∀ (n : Nat) (s d : Int32) (y : Nat → Int32), fInv s d y n → vp_in (lr_R_findField_12 a4 a6 a7 a8 p1 p2 n s d y) 13 := by
  intro n
  induction n with
  | zero => intro s d y h; exact (fI_0 h).elim
  | succ n ih =>
    intro s d y h
    obtain ⟨dn, U, hd, hu1, hu2, hu3, hu4⟩ := h
    rw [lr_R_findField_12_s]
    by_cases c1 : d ≤ (0 : Int32)
    · rw [if_pos c1]; exact in_0
    · rw [if_neg c1]
      have ht := ff_t hd (by omega) c1 hu4
      split
      · split
        · rename_i c3
          split
          · exact ih _ _ _ (ff_push hd hu1 hu2 hu3 c1 ht c3 (gI_res hdi ht 14 _ _ _ _ (gI_start (ff_m hd (by omega) c1) (hdc _ (in_lt ht)) (by omega) (by omega) (fun i hi => hu4 i (by omega)))))
          · exact ih _ _ _ (ff_push hd hu1 hu2 hu3 c1 ht c3 (gI_res hdi ht 14 _ _ _ _ (gI_start1 hd (by omega) c1 (hdc _ (in_lt ht)) (par_in hpa ht) hu4)))
        · exact ih _ _ _ (ff_pop hd hu1 hu2 hu3 hu4 c1)
      · exact ht
theorem in_rff {a4 a6 a7 a8 a12 : Nat → Int32} {p1 p2 : Int32} (hpa : vPar a4) (hdi : vDir a6) (hdc : vDc a7) (hp : vp_in p1 13) : vp_in (f_R_findField a4 a6 a7 a8 a12 p1 p2) 13 := in_rffL hpa hdi hdc 80 _ _ _ (fI_start hp)
theorem in_onlyL {b0 : Int32} {a9 : Nat → Int32} {p1 p2 : Int32} (hT : vT b0) : ∀ (n k c : Nat) (x4 : Int32), 14 ≤ k + n → k ≤ 13 → c ≤ k → vp_in x4 13 → ¬ (lr_R_only_8 b0 a9 p1 p2 n (nI c) x4 (nI k)) ≤ (0 : Int32) → vp_in (lr_R_only_8 b0 a9 p1 p2 n (nI c) x4 (nI k)) 13 := by
  intro n
  induction n with
  | zero => intro k c x4 h1 h2; exfalso; omega
  | succ n ih =>
    intro k c x4 h1 h2 hc hx
    rw [lr_R_only_8_s]
    by_cases c1 : b0 < nI k
    · rw [if_pos c1]
      split
      · intro _; exact hx
      · intro h
        exfalso
        apply h
        rw [Int32.le_iff_toInt_le, zero_i]
        have := sb_negT (w := c) (by omega)
        omega
    · rw [if_neg c1]
      have hk := leT hT rfl h2 c1
      rw [nI_1]
      split
      · exact ih (k + 1) c x4 (by omega) (by omega) (by omega) hx
      · split
        · rw [nI_1]; exact ih (k + 1) (c + 1) (nI k) (by omega) (by omega) (by omega) (in_et rfl hk)
        · exact ih (k + 1) c x4 (by omega) (by omega) (by omega) hx
theorem in_only {b0 : Int32} {a9 : Nat → Int32} {p1 p2 : Int32} (hT : vT b0) (h : ¬ (f_R_only b0 a9 p1 p2) ≤ (0 : Int32)) : vp_in (f_R_only b0 a9 p1 p2) 13 := in_onlyL hT 14 1 0 0 (by omega) (by omega) (by omega) in_0 h
theorem in_fabL {b0 : Int32} {a0 a9 a10 : Nat → Int32} {p1 p2 : Int32} : ∀ (n k : Nat) (x5 y : Int32), k + 1 ≤ n → k ≤ 12 → vp_in x5 13 → vp_in (lr_R_findAbove_40 b0 a0 a9 a10 p1 p2 n x5 (nI k) y) 13 := by
  intro n
  induction n with
  | zero => intro k x5 y h1; exfalso; omega
  | succ n ih =>
    intro k x5 y h1 h2 hx
    rw [lr_R_findAbove_40_s]
    by_cases c1 : nI k ≤ (0 : Int32)
    · rw [if_pos c1]; exact hx
    · rw [if_neg c1, dz_et rfl h2 c1]
      have hk := dz_k rfl h2 c1
      split
      · exact ih (k - 1) x5 y (by omega) (by omega) hx
      · exact ih (k - 1) (nI k) _ (by omega) (by omega) (in_et rfl h2)
theorem in_fab {b0 b1 : Int32} {a0 a9 a10 : Nat → Int32} {p1 p2 : Int32} (hT : vT b0) : vp_in (f_R_findAbove b0 b1 a0 a9 a10 p1 p2) 13 := by
  unfold f_R_findAbove
  split
  · have h := in_lt (vT_in hT)
    have h2 := in_fabL (b0 := b0) (a0 := a0) (a9 := a9) (a10 := a10) (p1 := p1) (p2 := p2) 14 b0.toNatClampNeg 0 b1 (by omega) (by omega) in_0
    rw [← in_k (vT_in hT)] at h2
    exact h2
  · rename_i c; exact in_only hT c
theorem in_fmL {b0 b1 : Int32} {a0 a4 a9 a10 : Nat → Int32} {p1 p2 p3 : Int32} (hT : vT b0) (hpa : vPar a4) : ∀ (n k : Nat), k + 1 ≤ n → k ≤ 12 → vp_in (lr_R_findMethod_3 b0 b1 a0 a4 a9 a10 p1 p2 p3 n (nI k)) 13 := by
  intro n
  induction n with
  | zero => intro k h1; exfalso; omega
  | succ n ih =>
    intro k h1 h2
    rw [lr_R_findMethod_3_s]
    by_cases c1 : nI k ≤ (0 : Int32)
    · rw [if_pos c1]; exact in_fab hT
    · rw [if_neg c1]
      split
      · split
        · rw [par_et hpa (in_et rfl h2)]; exact ih _ (par_h1 hpa rfl h2 h1 c1) (par_h2 hpa (in_et rfl h2))
        · exact ih 0 (dz_h0 rfl h2 h1 c1) (by omega)
      · exact in_et rfl h2
theorem in_fm {b0 b1 : Int32} {a0 a4 a9 a10 : Nat → Int32} {p1 p2 p3 : Int32} (hT : vT b0) (hpa : vPar a4) (hp : vp_in p2 13) : vp_in (f_R_findMethod b0 b1 a0 a4 a9 a10 p1 p2 p3) 13 := by
  have h := in_lt hp
  unfold f_R_findMethod
  have h2 := in_fmL (b1 := b1) (a0 := a0) (a9 := a9) (a10 := a10) (p1 := p1) (p2 := p2) (p3 := p3) hT hpa 14 p2.toNatClampNeg (by omega) (by omega)
  rw [← in_k hp] at h2
  exact h2
