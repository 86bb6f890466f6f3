theorem in03 {x : Int32} (c : ¬ (f_R_in x (0 : Int32) (3 : Int32)) = (0 : Int32)) (h0 : ¬ x = (0 : Int32)) (h1 : ¬ x = (1 : Int32)) (h2 : ¬ x = (2 : Int32)) : x = (3 : Int32) := by
  obtain ⟨j, hj, e⟩ := vp_in_of (jn_name c) (by decide)
  subst e
  match j, hj with
  | 0, _ => exact absurd rfl h0
  | 1, _ => exact absurd rfl h1
  | 2, _ => exact absurd rfl h2
  | 3, _ => rfl
  | j + 4, h => exact absurd h (by omega)
theorem ge_of {x : Int32} (h : ¬ x ≤ (0 : Int32)) : (0 : Int32) ≤ x := by
  rw [Int32.le_iff_toInt_le] at h ⊢
  omega
theorem no_ge {x : Int32} {p : Prop} (h : (0 : Int32) ≤ x) (e : x.toInt < 0) : p := by
  have h0 := zero_i
  rw [Int32.le_iff_toInt_le] at h; omega
theorem in_rsd {b0 : Int32} {a0 a1 a3 a4 a5 a6 a7 a8 a9 a10 a12 : Nat → Int32} {p1 p2 p3 p4 : Int32} (hT : vT b0) (hpa : vPar a4) (hdi : vDir a6) (hdc : vDc a7) (hp : vp_in p3 13) (h : (0 : Int32) ≤ f_R_resolved b0 a0 a1 a3 a4 a5 a6 a7 a8 a9 a10 a12 p1 p2 p3 p4) : vp_in (f_R_resolved b0 a0 a1 a3 a4 a5 a6 a7 a8 a9 a10 a12 p1 p2 p3 p4) 13 := by
  revert h
  unfold f_R_resolved
  split
  · intro h; exact no_ge h (by decide +kernel)
  · split
    · split
      · intro h; exact no_ge h (by decide +kernel)
      · split
        · intro h; exact no_ge h (by decide +kernel)
        · intro _; exact in_rff hpa hdi hdc hp
    · split
      · split
        · split
          · intro h; exact no_ge h (by decide +kernel)
          · split
            · intro h; exact no_ge h (by decide +kernel)
            · intro _; exact in_fm hT hpa hp
        · intro h; exact no_ge h (by decide +kernel)
      · split
        · split
          · intro h; exact no_ge h (by decide +kernel)
          · split
            · intro h; exact no_ge h (by decide +kernel)
            · intro _; exact in_fm hT hpa hp
        · intro h; exact no_ge h (by decide +kernel)
theorem in_coded {b0 : Int32} {a9 : Nat → Int32} {p1 p2 : Int32} (hT : vT b0) (h : (0 : Int32) ≤ f_R_coded b0 a9 p1 p2) : vp_in (f_R_coded b0 a9 p1 p2) 13 := by
  revert h
  unfold f_R_coded
  split
  · split
    · intro h; exact no_ge h (by decide +kernel)
    · intro h; exact no_ge h (by decide +kernel)
  · rename_i c; intro _; exact in_only hT c
theorem in_sldL {b0 : Int32} {a0 a3 a4 a6 a7 a9 a10 a11 : Nat → Int32} {p1 p2 p3 : Int32} (hT : vT b0) (hpa : vPar a4) : ∀ (n k : Nat), k + 1 ≤ n → k ≤ 12 → (0 : Int32) ≤ lr_R_selected_19 b0 a0 a3 a4 a6 a7 a9 a10 a11 p1 p2 p3 n (nI k) → vp_in (lr_R_selected_19 b0 a0 a3 a4 a6 a7 a9 a10 a11 p1 p2 p3 n (nI k)) 13 := by
  intro n
  induction n with
  | zero => intro k h1; exfalso; omega
  | succ n ih =>
    intro k h1 h2
    rw [lr_R_selected_19_s]
    by_cases c1 : nI k ≤ (0 : Int32)
    · rw [if_pos c1]; exact in_coded hT
    · rw [if_neg c1]
      split
      · rw [par_et hpa (in_et rfl h2)]; exact ih _ (par_h1 hpa rfl h2 h1 c1) (par_h2 hpa (in_et rfl h2))
      · intro _; exact in_et rfl h2
theorem in_sld {b0 : Int32} {a0 a3 a4 a6 a7 a9 a10 a11 : Nat → Int32} {p1 p2 p3 : Int32} (hT : vT b0) (hpa : vPar a4) (h1 : vp_in p1 13) (h2 : vp_in p2 13) (h : (0 : Int32) ≤ f_R_selected b0 a0 a3 a4 a6 a7 a9 a10 a11 p1 p2 p3) : vp_in (f_R_selected b0 a0 a3 a4 a6 a7 a9 a10 a11 p1 p2 p3) 13 := by
  revert h
  unfold f_R_selected
  split
  · have hl := in_lt h1
    have h3 := in_sldL (b0 := b0) (a0 := a0) (a3 := a3) (a4 := a4) (a6 := a6) (a7 := a7) (a9 := a9) (a10 := a10) (a11 := a11) (p1 := p1) (p2 := p2) (p3 := p3) hT hpa 14 p1.toNatClampNeg (by omega) (by omega)
    rw [← in_k h1] at h3
    exact h3
  · intro _; exact h2
