/-! counting bits; the least and the greatest -/
/-- how many of the bits 1 .. m are set -/
def cn (x : Int32) : Nat → Nat
  | 0 => 0
  | m + 1 => cn x m + (if bt x (m + 1) then 1 else 0)
theorem cn_le {x : Int32} : ∀ m, cn x m ≤ m := by
  intro m
  induction m with
  | zero => exact Nat.le_refl 0
  | succ m ih => unfold cn; split <;> omega
theorem cn_hi {x : Int32} {T : Nat} : ∀ m, (∀ j, T < j → j ≤ m → bt x j = false) → T ≤ m → cn x m = cn x T := by
  intro m
  induction m with
  | zero => intro _ h; rw [show T = 0 by omega]
  | succ m ih =>
    intro h1 h2
    by_cases e : T = m + 1
    · rw [e]
    · unfold cn
      rw [h1 (m + 1) (by omega) (by omega), ih (fun j a b => h1 j a (by omega)) (by omega)]
      cases T <;> simp [cn]
theorem cn_zero {x : Int32} : ∀ m, cn x m = 0 ↔ ∀ j, 1 ≤ j → j ≤ m → bt x j = false := by
  intro m
  induction m with
  | zero => exact ⟨fun _ j h1 h2 => by exfalso; omega, fun _ => rfl⟩
  | succ m ih =>
    constructor
    · intro h j h1 h2
      have h3 : cn x m = 0 ∧ bt x (m + 1) = false := by
        unfold cn at h
        split at h
        · exfalso; omega
        · rename_i h4
          exact ⟨by omega, by simpa using h4⟩
      by_cases e : j = m + 1
      · rw [e]; exact h3.2
      · exact ih.mp h3.1 j h1 (by omega)
    · intro h
      unfold cn
      rw [ih.mpr (fun j h1 h2 => h j h1 (by omega)), h (m + 1) (by omega) (by omega)]
      simp
theorem cn_one {x : Int32} : ∀ m, cn x m = 1 → ∃ j, 1 ≤ j ∧ j ≤ m ∧ bt x j = true ∧ ∀ k, 1 ≤ k → k ≤ m → bt x k = true → k = j := by
  intro m
  induction m with
  | zero => intro h; cases h
  | succ m ih =>
    intro h
    unfold cn at h
    split at h
    · rename_i h4
      have h5 := (cn_zero (x := x) m).mp (by omega)
      refine ⟨m + 1, by omega, by omega, h4, fun k h1 h2 h3 => ?_⟩
      by_cases e : k = m + 1
      · exact e
      · rw [h5 k h1 (by omega)] at h3; cases h3
    · rename_i h4
      obtain ⟨j, q1, q2, q3, q4⟩ := ih (by omega)
      refine ⟨j, q1, by omega, q3, fun k h1 h2 h3 => ?_⟩
      by_cases e : k = m + 1
      · rw [e] at h3; exact absurd h3 h4
      · exact q4 k h1 (by omega) h3
theorem cn_up {x : Int32} {j : Nat} (h1 : 1 ≤ j) (h : bt x j = true) : ∀ m, j ≤ m → 1 ≤ cn x m := by
  intro m hm
  rcases Nat.eq_zero_or_pos (cn x m) with e | e
  · have := (cn_zero m).mp e j h1 hm
    rw [h] at this; cases this
  · exact e
/-- the sets at hand: bits 1 .. 12 alone -/
def sm (x : Int32) : Prop := ∀ j, j < 32 → bt x j = true → 1 ≤ j ∧ j ≤ 12
def bcAll : Nat → Bool
  | 0 => true
  | k + 1 => decide (f_J_bitCount (nI (2 * k)) = nI (cn (nI (2 * k)) 12)) && bcAll k
set_option maxRecDepth 100000 in
set_option maxHeartbeats 4000000 in
theorem bcAll_ok : bcAll 4096 = true := by decide +kernel
theorem bcAll_at : ∀ (n k : Nat), bcAll n = true → k < n → f_J_bitCount (nI (2 * k)) = nI (cn (nI (2 * k)) 12) := by
  intro n
  induction n with
  | zero => intro k _ h; exfalso; omega
  | succ n ih =>
    intro k h hk
    unfold bcAll at h
    simp only [Bool.and_eq_true, decide_eq_true_eq] at h
    by_cases e : k = n
    · rw [e]; exact h.1
    · exact ih k h.2 (by omega)
theorem sm_nat {x : Int32} (h : sm x) : ∃ k, k < 4096 ∧ x = nI (2 * k) := by
  have h1 : x.toBitVec.toNat < 2 ^ 13 := by
    refine Nat.lt_pow_two_of_testBit _ (fun i hi => ?_)
    rcases Nat.lt_or_ge i 32 with q | q
    · have h2 : bt x i = false := by
        cases e : bt x i with
        | false => rfl
        | true => have := h i q e; exfalso; omega
      exact h2
    · exact b_big q
  have h2 : x.toBitVec.toNat % 2 = 0 := by
    have h3 : bt x 0 = false := by
      cases e : bt x 0 with
      | false => rfl
      | true => have := h 0 (by omega) e; exfalso; omega
    have h4 : x.toBitVec.toNat.testBit 0 = false := h3
    rw [Nat.testBit_zero] at h4
    simpa using h4
  refine ⟨x.toBitVec.toNat / 2, by omega, ?_⟩
  rw [show 2 * (x.toBitVec.toNat / 2) = x.toBitVec.toNat by omega]
  apply Int32.toBitVec_inj.mp
  apply BitVec.eq_of_toNat_eq
  rw [pk_tn (by omega)]
theorem bc_cn {x : Int32} (h : sm x) : f_J_bitCount x = nI (cn x 12) := by
  obtain ⟨k, hk, e⟩ := sm_nat h
  rw [e]; exact bcAll_at 4096 k bcAll_ok hk
/-- the least -/
theorem leastL {x : Int32} : ∀ (n k : Nat), 14 ≤ k + n → 1 ≤ k → k ≤ 13 → ((∀ j, k ≤ j → j ≤ 12 → bt x j = false) ∧ lr_O_leastOf x n (nI k) = 0) ∨ ∃ r, k ≤ r ∧ r ≤ 12 ∧ bt x r = true ∧ (∀ j, k ≤ j → j < r → bt x j = false) ∧ lr_O_leastOf x n (nI k) = nI r := by
  intro n
  induction n with
  | zero => intro k h1 h2 h3; exfalso; omega
  | succ n ih =>
    intro k h1 h2 h3
    rw [lr_O_leastOf_s]
    by_cases c : 12 < k
    · rw [if_pos ((i12_iff (by omega)).mpr c)]
      exact Or.inl ⟨fun j a b => by exfalso; omega, rfl⟩
    · rw [if_neg (fun h => c ((i12_iff (by omega)).mp h))]
      by_cases c2 : bt x k = true
      · rw [if_neg ((hb1 (by omega)).mpr c2)]
        exact Or.inr ⟨k, by omega, by omega, c2, fun j a b => by exfalso; omega, rfl⟩
      · have c3 : bt x k = false := by simpa using c2
        rw [if_pos ((hb0 (by omega)).mpr c3), nI_1]
        rcases ih (k + 1) (by omega) (by omega) (by omega) with ⟨q1, q2⟩ | ⟨r, q1, q2, q3, q4, q5⟩
        · refine Or.inl ⟨fun j a b => ?_, q2⟩
          by_cases e : j = k
          · rw [e]; exact c3
          · exact q1 j (by omega) b
        · refine Or.inr ⟨r, by omega, q2, q3, fun j a b => ?_, q5⟩
          by_cases e : j = k
          · rw [e]; exact c3
          · exact q4 j (by omega) b
theorem least_sp {x : Int32} : ((∀ j, 1 ≤ j → j ≤ 12 → bt x j = false) ∧ f_O_leastOf x = 0) ∨ ∃ r, 1 ≤ r ∧ r ≤ 12 ∧ bt x r = true ∧ (∀ j, 1 ≤ j → j < r → bt x j = false) ∧ f_O_leastOf x = nI r := leastL 14 1 (by omega) (by omega) (by omega)
theorem greatL {x : Int32} : ∀ (n k : Nat), k + 1 ≤ n → k ≤ 12 → ((∀ j, 1 ≤ j → j ≤ k → bt x j = false) ∧ lr_O_greatestOf x n (nI k) = 0) ∨ ∃ r, 1 ≤ r ∧ r ≤ k ∧ bt x r = true ∧ (∀ j, r < j → j ≤ k → bt x j = false) ∧ lr_O_greatestOf x n (nI k) = nI r := by
  intro n
  induction n with
  | zero => intro k h1 h2; exfalso; omega
  | succ n ih =>
    intro k h1 h2
    rw [lr_O_greatestOf_s]
    cases k with
    | zero =>
      rw [if_pos ((ilt1_iff (by omega)).mpr rfl)]
      exact Or.inl ⟨fun j a b => by exfalso; omega, rfl⟩
    | succ k =>
      rw [if_neg (fun h => by have := (ilt1_iff (by omega)).mp h; omega), pk_m1]
      by_cases c2 : bt x (k + 1) = true
      · rw [if_neg ((hb1 (by omega)).mpr c2)]
        exact Or.inr ⟨k + 1, by omega, by omega, c2, fun j a b => by exfalso; omega, rfl⟩
      · have c3 : bt x (k + 1) = false := by simpa using c2
        rw [if_pos ((hb0 (by omega)).mpr c3)]
        rcases ih k (by omega) (by omega) with ⟨q1, q2⟩ | ⟨r, q1, q2, q3, q4, q5⟩
        · refine Or.inl ⟨fun j a b => ?_, q2⟩
          by_cases e : j = k + 1
          · rw [e]; exact c3
          · exact q1 j a (by omega)
        · refine Or.inr ⟨r, q1, by omega, q3, fun j a b => ?_, q5⟩
          by_cases e : j = k + 1
          · rw [e]; exact c3
          · exact q4 j a (by omega)
theorem great_sp {x : Int32} : ((∀ j, 1 ≤ j → j ≤ 12 → bt x j = false) ∧ f_O_greatestOf x = 0) ∨ ∃ r, 1 ≤ r ∧ r ≤ 12 ∧ bt x r = true ∧ (∀ j, r < j → j ≤ 12 → bt x j = false) ∧ f_O_greatestOf x = nI r := greatL 14 12 (by omega) (by omega)
