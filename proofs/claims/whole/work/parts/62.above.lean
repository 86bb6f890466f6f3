/-! closeAbove makes the sets strictly above -/
theorem ca_in {b0 : Int32} {a4 a6 a7 : Nat → Int32} (hdi : vDir a6) (hdc : vDc a7) {i : Nat} (hi : i < 13) (hd : ∀ k, k < dnN a7 i → drN a6 i k < i) : ∀ (n k : Nat) (y : Nat → Int32), 5 ≤ k + n → k ≤ dnN a7 i → (∀ t, t ≠ i → (lfin_R_closeAbove_51 b0 a4 a6 a7 (nI i) n (nI k) y).2 t = y t) ∧ ∀ j, j < 32 → (bt ((lfin_R_closeAbove_51 b0 a4 a6 a7 (nI i) n (nI k) y).2 i) j = true ↔ (bt (y i) j = true ∨ ∃ k', k ≤ k' ∧ k' < dnN a7 i ∧ (bt (y (drN a6 i k')) j = true ∨ j = drN a6 i k'))) := by
  intro n
  induction n with
  | zero =>
    intro k y h1 h2
    have := dn_le hdc hi
    exfalso; omega
  | succ n ih =>
    intro k y h1 h2
    have h4 := dn_le hdc hi
    rw [lfin_R_closeAbove_51_s, cl (by omega : i < 1000), dn_nI hdc hi]
    by_cases c : dnN a7 i ≤ k
    · rw [if_pos ((ile_iff (by omega) (by omega)).mpr c)]
      refine ⟨fun t _ => rfl, fun j hj => ⟨fun h => Or.inl h, ?_⟩⟩
      rintro (h | ⟨k', h5, h6, -⟩)
      · exact h
      · exfalso; omega
    · rw [if_neg (fun h => c ((ile_iff (by omega) (by omega)).mp h)), cl4 hi (by omega), nI_1]
      have hk : k < dnN a7 i := by omega
      have hdl := hd k hk
      rw [dr_nI hdi hi (by omega : k < 4), cl (by omega : drN a6 i k < 1000)]
      obtain ⟨q1, q2⟩ := ih (k + 1) (upd y i (y i ||| (y (drN a6 i k) ||| (1 : Int32) <<< (nI (drN a6 i k) &&& (31 : Int32))))) (by omega) (by omega)
      refine ⟨fun t ht => by rw [q1 t ht, upd_ne ht], fun j hj => ?_⟩
      rw [q2 j hj, upd_at, b_or, b_or, one_shl (by omega) hj]
      constructor
      · rintro (h | ⟨k', h5, h6, h7⟩)
        · simp only [Bool.or_eq_true, decide_eq_true_eq] at h
          rcases h with h | h
          · exact Or.inl h
          · exact Or.inr ⟨k, by omega, hk, h⟩
        · rw [upd_ne (by have := hd k' h6; omega)] at h7
          exact Or.inr ⟨k', by omega, h6, h7⟩
      · rintro (h | ⟨k', h5, h6, h7⟩)
        · exact Or.inl (by rw [h]; rfl)
        · by_cases e : k' = k
          · subst e
            refine Or.inl ?_
            simp only [Bool.or_eq_true, decide_eq_true_eq]
            exact Or.inr h7
          · refine Or.inr ⟨k', by omega, h6, ?_⟩
            rw [upd_ne (by have := hd k' h6; omega)]
            exact h7
def AbOK (F : Nat → Nat → Bool) (y : Nat → Int32) (m : Nat) : Prop := ∀ t, 1 ≤ t → t < m → ∀ j, j < 32 → (bt (y t) j = true ↔ (F t j = true ∧ j ≠ t))
theorem ab_step {F : Nat → Nat → Bool} {y : Nat → Int32} {m s j : Nat} (h : AbOK F y m) (hr : F s s = true) (h1 : 1 ≤ s) (h2 : s < m) (hj : j < 32) : (bt (y s) j = true ∨ j = s) ↔ F s j = true := by
  rw [h s h1 h2 j hj]
  constructor
  · rintro (⟨h3, -⟩ | rfl)
    · exact h3
    · exact hr
  · intro h3
    by_cases e : j = s
    · exact Or.inr e
    · exact Or.inl ⟨h3, e⟩
theorem ca_out {T : Nat} {a0 a4 a6 a7 : Nat → Int32} {F : Nat → Nat → Bool} (hw : Wd T (IN a0) (parN a4) (dnN a7) (drN a6) F) (hpa : vPar a4) (hdi : vDir a6) (hdc : vDc a7) : ∀ (n i : Nat) (y : Nat → Int32), 14 ≤ i + n → 1 ≤ i → i ≤ T + 1 → AbOK F y i → AbOK F (la10_R_closeAbove_2 (nI T) a4 a6 a7 n (nI i) y) (T + 1) := by
  have hT := hw.1
  intro n
  induction n with
  | zero => intro i y h1 h2 h3 h4; exfalso; omega
  | succ n ih =>
    intro i y h1 h2 h3 h4
    rw [la10_R_closeAbove_2_s]
    by_cases c : T < i
    · rw [if_pos ((ilt_iff (by omega) (by omega)).mpr c)]
      have : i = T + 1 := by omega
      rw [← this]; exact h4
    · rw [if_neg (fun h => c ((ilt_iff (by omega) (by omega)).mp h)), cl (by omega : i < 1000), nI_1]
      have hi : i < 13 := by omega
      have hx := hw.2 i h2 (by omega)
      have hd : ∀ k, k < dnN a7 i → drN a6 i k < i := fun k hk => (hx.2.1.2 k hk).2.1
      have hd4 := dn_le hdc hi
      have key : ∀ z : Int32, (∀ j, j < 32 → (bt z j = true ↔ (parN a4 i ≠ 0 ∧ F (parN a4 i) j = true))) → AbOK F (lfin_R_closeAbove_51 (nI T) a4 a6 a7 (nI i) 14 (0 : Int32) (upd y i z)).2 (i + 1) := by
        intro z hz t ht1 ht2 j hj
        obtain ⟨q1, q2⟩ := ca_in (b0 := nI T) (a4 := a4) hdi hdc hi hd 14 0 (upd y i z) (by omega) (by omega)
        rw [nI_0] at q1 q2
        by_cases e : t = i
        · subst e
          rw [q2 j hj, upd_at, hz j hj, F_above hw ht1 (by omega)]
          constructor
          · rintro (⟨h5, h6⟩ | ⟨k, -, h6, h7⟩)
            · exact ⟨_, Or.inl ⟨h5, rfl⟩, h6⟩
            · have h8 := hx.2.1.2 k h6
              rw [upd_ne (by omega)] at h7
              exact ⟨_, Or.inr ⟨k, h6, rfl⟩, (ab_step h4 (F_refl hw h8.1 (by omega)) h8.1 h8.2.1 hj).mp h7⟩
          · rintro ⟨s, (⟨h5, rfl⟩ | ⟨k, h6, rfl⟩), h7⟩
            · exact Or.inl ⟨h5, h7⟩
            · have h8 := hx.2.1.2 k h6
              refine Or.inr ⟨k, by omega, h6, ?_⟩
              rw [upd_ne (by omega)]
              exact (ab_step h4 (F_refl hw h8.1 (by omega)) h8.1 h8.2.1 hj).mpr h7
        · rw [q1 t e, upd_ne e]
          exact h4 t ht1 (by omega) j hj
      have hpl := par_lt hpa hi
      rw [par_nI hpa hi]
      by_cases c2 : parN a4 i = 0
      · rw [if_pos ((i0_iff (by omega)).mpr c2)]
        refine ih (i + 1) _ (by omega) (by omega) (by omega) (key _ (fun j hj => ?_))
        rw [b_0]
        constructor
        · intro h; cases h
        · rintro ⟨h, -⟩; exact absurd c2 h
      · rw [if_neg (fun h => c2 ((i0_iff (by omega)).mp h)), cl (by omega : parN a4 i < 1000)]
        refine ih (i + 1) _ (by omega) (by omega) (by omega) (key _ (fun j hj => ?_))
        rw [b_or, one_shl (by omega) hj]
        simp only [Bool.or_eq_true, decide_eq_true_eq]
        have h5 := hx.1.1
        rw [ab_step h4 (F_refl hw (by omega) (by omega)) (by omega) h5 hj]
        exact ⟨fun h => ⟨c2, h⟩, fun h => h.2⟩
theorem ca_ok {T : Nat} {a0 a4 a6 a7 a10 : Nat → Int32} {F : Nat → Nat → Bool} (hw : Wd T (IN a0) (parN a4) (dnN a7) (drN a6) F) (hpa : vPar a4) (hdi : vDir a6) (hdc : vDc a7) : AbOK F (s_R_closeAbove_a10 (nI T) a4 a6 a7 a10) (T + 1) := ca_out hw hpa hdi hdc 14 1 a10 (by omega) (by omega) (by omega) (fun t h1 h2 => by exfalso; omega)
