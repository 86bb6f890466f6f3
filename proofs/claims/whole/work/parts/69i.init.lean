/-! THE RELATION at the start -/
theorem rel_m0 {y : Nat → Int32} (h : ∀ i, i < 52 → y i = -1) : RelM m0 y := by
  have key : ∀ (g : Int32 → Bool), g (-1) = false → ∀ q, q < 4 → ∀ i, i < 32 → bt (0 : Int32) i = (rg i && g (y (4 * i + q))) := by
    intro g hg q hq i hi
    rw [b_0]
    cases e : rg i with
    | false => rfl
    | true =>
      have h13 : i < 13 := by
        unfold rg at e
        rw [decide_eq_true_eq] at e
        exact e.2
      rw [h (4 * i + q) (by omega), hg]; rfl
  intro q hq
  refine ⟨fun i hi => key eH e_m1.1 q hq i hi, fun i hi => key eS e_m1.2.1 q hq i hi, fun i hi => key eA e_m1.2.2.1 q hq i hi, fun i hi => key eP e_m1.2.2.2 q hq i hi, fun i h1 h2 he => ?_, fun i hi => Or.inl (h _ (by omega))⟩
  rw [h _ (by omega), e_m1.1] at he; cases he
theorem rel_init {y8 y9 : Nat → Int32} (h : ∀ i, i < 52 → y8 i = -1 ∧ y9 i = -1) : Rel v0 0 0 0 (fun _ => 0) (fun _ => 0) (fun _ => 0) (fun _ => 0) (fun _ => 0) (fun _ => 0) (fun _ => 0) (fun _ => 0) y8 y9 (fun _ => 0) := by
  refine ⟨⟨0, nI_0.symm, ?_⟩, rfl, rel_m0 (fun i hi => (h i hi).1), rel_m0 (fun i hi => (h i hi).2), vZ_0, ?_, ?_⟩
  · refine ⟨nI_0.symm, ⟨rfl, rfl, rfl, rfl, rfl⟩, ⟨by omega, fun i h1 h2 => by exfalso; omega⟩, rfl, ⟨fun j hj => ?_, fun j hj => ?_, fun j hj => ?_⟩, fun i _ _ => ⟨rfl, rfl, rfl, rfl, rfl⟩, fun i _ => Or.inl rfl, ?_, ?_, ?_⟩
    · show bt (0 : Int32) j = _
      rw [b_0]; simp [IN]
    · show bt (0 : Int32) j = _
      rw [b_0]; simp [IN]
    · show bt (0 : Int32) j = _
      rw [b_0]; simp [IN]
    · intro i hi; exact ⟨0, nI_0.symm, by omega, Or.inr rfl⟩
    · intro i hi; exact in_0
    · intro i hi
      show 0 ≤ (0 : Int32).toInt ∧ (0 : Int32).toInt ≤ 4
      rw [zero_i]; omega
  · rw [← nI_0]
    refine RelX.mk (by omega) (fun i q h1 h2 hq => ⟨fun _ => (h _ (by omega)).2, fun h3 => by exfalso; omega⟩)
  · intro i q hi hq
    rw [(h (4 * i + q) (by omega)).1]; decide
