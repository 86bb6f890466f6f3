/-! FIELDS: the class's search and the reference's -/
def Gs (ch : Nat → List Nat) (own hf : Nat → Bool) : Nat → Nat → Nat
  | 0, _ => 0
  | n + 1, t => if own t = true then t else match (ch t).find? hf with
    | some s => Gs ch own hf n s
    | none => 0
theorem Gs_s {ch : Nat → List Nat} {own hf : Nat → Bool} (n t : Nat) : Gs ch own hf (n + 1) t = if own t = true then t else match (ch t).find? hf with
    | some s => Gs ch own hf n s
    | none => 0 := rfl
theorem Gs_fuel {ch : Nat → List Nat} {own hf : Nat → Bool} {T : Nat} (hch : ∀ t s, 1 ≤ t → t ≤ T → s ∈ ch t → 1 ≤ s ∧ s < t) : ∀ (t n m : Nat), 1 ≤ t → t ≤ T → t ≤ n → t ≤ m → Gs ch own hf n t = Gs ch own hf m t := by
  intro t
  induction t using Nat.strongRecOn with
  | _ t ih =>
    intro n m h1 h2 h3 h4
    obtain ⟨n, rfl⟩ : ∃ k, n = k + 1 := ⟨n - 1, by omega⟩
    obtain ⟨m, rfl⟩ : ∃ k, m = k + 1 := ⟨m - 1, by omega⟩
    rw [Gs_s, Gs_s]
    split
    · rfl
    · cases e : (ch t).find? hf with
      | none => rfl
      | some s =>
        have := hch t s h1 h2 (List.mem_of_find?_eq_some e)
        exact ih s this.2 n m this.1 (by omega) (by omega) (by omega)
/-- the steps of a type, in the order of the search -/
def chN (a4 a6 a7 : Nat → Int32) (t : Nat) : List Nat := (List.range (dnN a7 t)).map (drN a6 t) ++ (if parN a4 t = 0 then [] else [parN a4 t])
theorem ch_St {a4 a6 a7 : Nat → Int32} {t s : Nat} : s ∈ chN a4 a6 a7 t ↔ St (parN a4) (dnN a7) (drN a6) t s := by
  unfold chN St
  rw [List.mem_append, List.mem_map]
  constructor
  · rintro (⟨k, hk, e⟩ | h)
    · exact Or.inr ⟨k, List.mem_range.mp hk, e.symm⟩
    · split at h
      · cases h
      · rename_i h0
        exact Or.inl ⟨h0, List.mem_singleton.mp h⟩
  · rintro (⟨h0, e⟩ | ⟨k, hk, e⟩)
    · rw [if_neg h0]; exact Or.inr (List.mem_singleton.mpr e)
    · exact Or.inl ⟨k, List.mem_range.mpr hk, e.symm⟩
def hfB (f : Nat → Int32) (x : Int32) (t : Nat) : Bool := decide (¬ (f t &&& x) = 0)
theorem hf_iff {f : Nat → Int32} {x : Int32} {t : Nat} : hfB f x t = true ↔ ∃ j, j < 32 ∧ FN f t j = true ∧ bt x j = true := by
  unfold hfB FN
  rw [decide_eq_true_eq]
  constructor
  · intro h
    refine Decidable.byContradiction (fun hn => h (b_ext (fun j hj => ?_)))
    rw [b_and, b_0]
    cases e : (bt (f t) j && bt x j) with
    | false => rfl
    | true =>
      rw [Bool.and_eq_true] at e
      exact absurd ⟨j, hj, e⟩ hn
  · rintro ⟨j, hj, h1, h2⟩ e
    have : bt (f t &&& x) j = false := by rw [e]; exact b_0 j
    rw [b_and, h1, h2] at this; cases this
section
variable {T : Nat} {v : ES} {a0 a1 a2 a3 a4 a5 a6 a7 : Nat → Int32}
theorem hf_own (h : RelW T v.1 a0 a1 a2 a3 a4 a5 a6 a7) {x : Int32} {t : Nat} (h1 : 1 ≤ t) (h2 : t ≤ T) (ho : bt x t = true) : hfB (v.1.1 5) x t = true := by
  have hT := h.2.2.1.1
  exact hf_iff.mpr ⟨t, by omega, F_refl h.2.2.1 h1 h2, ho⟩
theorem hf_step (h : RelW T v.1 a0 a1 a2 a3 a4 a5 a6 a7) {x : Int32} {t s : Nat} (h1 : 1 ≤ t) (h2 : t ≤ T) (hs : s ∈ chN a4 a6 a7 t) (ho : hfB (v.1.1 5) x s = true) : hfB (v.1.1 5) x t = true := by
  obtain ⟨j, hj, h3, h4⟩ := hf_iff.mp ho
  exact hf_iff.mpr ⟨j, hj, F_step h.2.2.1 h1 h2 (ch_St.mp hs) h3, h4⟩
theorem hf_some (h : RelW T v.1 a0 a1 a2 a3 a4 a5 a6 a7) {x : Int32} {t : Nat} (h1 : 1 ≤ t) (h2 : t ≤ T) (hf : hfB (v.1.1 5) x t = true) (hn : ¬ bt x t = true) : ∃ s, (chN a4 a6 a7 t).find? (hfB (v.1.1 5) x) = some s ∧ 1 ≤ s ∧ s < t ∧ hfB (v.1.1 5) x s = true := by
  obtain ⟨j, hj, h3, h4⟩ := hf_iff.mp hf
  rcases ((h.2.2.1.2 t h1 h2).2.2 j).mp h3 with e | ⟨s, hs, h5⟩
  · rw [e] at h4; exact absurd h4 hn
  · have hsm : s ∈ chN a4 a6 a7 t := ch_St.mpr hs
    cases e : (chN a4 a6 a7 t).find? (hfB (v.1.1 5) x) with
    | none =>
      have := List.find?_eq_none.mp e s hsm
      exact absurd (hf_iff.mpr ⟨j, hj, h5, h4⟩) this
    | some s' =>
      have h6 := St_lt h.2.2.1 h1 h2 (ch_St.mp (List.mem_of_find?_eq_some e))
      exact ⟨s', rfl, h6.1, h6.2.1, List.find?_some e⟩
theorem hf_none (h : RelW T v.1 a0 a1 a2 a3 a4 a5 a6 a7) {x : Int32} {t : Nat} (h1 : 1 ≤ t) (h2 : t ≤ T) (hf : ¬ hfB (v.1.1 5) x t = true) : (chN a4 a6 a7 t).find? (hfB (v.1.1 5) x) = none :=
  List.find?_eq_none.mpr (fun s hs hh => hf (hf_step h h1 h2 hs hh))
theorem ch_lt (h : RelW T v.1 a0 a1 a2 a3 a4 a5 a6 a7) : ∀ t s, 1 ≤ t → t ≤ T → s ∈ chN a4 a6 a7 t → 1 ≤ s ∧ s < t := by
  intro t s h1 h2 hs
  have h6 := St_lt h.2.2.1 h1 h2 (ch_St.mp hs)
  exact ⟨h6.1, h6.2.1⟩
theorem nx_loop (h : RelW T v.1 a0 a1 a2 a3 a4 a5 a6 a7) {x : Int32} {t : Nat} (h1 : 1 ≤ t) (h2 : t ≤ T) : ∀ (n k m : Nat), 6 ≤ k + n → k + m = dnN a7 t → lr_W_nextToSearch v.1 (nI t) x n (nI k) = match ((List.range' k m).map (drN a6 t)).find? (hfB (v.1.1 5) x) with
    | some s => nI s
    | none => nI (parN a4 t) := by
  obtain ⟨q0, q1, q2, q3, q4⟩ := h.2.1
  have hT := h.2.2.1.1
  have hpa := h.2.2.2.2.2.2.2.1
  have hdi := h.2.2.2.2.2.2.2.2.1
  have hdc := h.2.2.2.2.2.2.2.2.2
  have hd4 := dn_le hdc (show t < 13 by omega)
  intro n
  induction n with
  | zero => intro k m h3 h4; exfalso; omega
  | succ n ih =>
    intro k m h3 h4
    rw [lr_W_nextToSearch_s, q0, q3, cl (by omega : t < 1000), dn_nI hdc (show t < 13 by omega)]
    cases m with
    | zero =>
      rw [if_pos ((ile_iff (by omega) (by omega)).mpr (by omega)), List.range'_zero, List.map_nil, List.find?_nil, par_nI hpa (show t < 13 by omega)]
    | succ m =>
      rw [if_neg (fun q => by have := (ile_iff (by omega) (by omega)).mp q; omega), nI_1]
      unfold f_W_directAt
      have hdl := dr_lt hdi (show t < 13 by omega) (show k < 4 by omega)
      rw [q4, cl4' (by omega) (by omega), dr_nI hdi (show t < 13 by omega) (show k < 4 by omega), cl (by omega : drN a6 t k < 1000), List.range'_succ, List.map_cons, List.find?_cons]
      by_cases c : hfB (v.1.1 5) x (drN a6 t k) = true
      · rw [c, if_neg (by unfold hfB at c; simpa using c)]
      · have c' : hfB (v.1.1 5) x (drN a6 t k) = false := by simpa using c
        rw [c', if_pos (by unfold hfB at c; simpa using c)]
        exact ih (k + 1) m (by omega) (by omega)
theorem nx_eq (h : RelW T v.1 a0 a1 a2 a3 a4 a5 a6 a7) {x : Int32} {t s : Nat} (h1 : 1 ≤ t) (h2 : t ≤ T) (hs : (chN a4 a6 a7 t).find? (hfB (v.1.1 5) x) = some s) : f_W_nextToSearch v.1 (nI t) x = nI s := by
  unfold f_W_nextToSearch
  rw [← nI_0, nx_loop h h1 h2 14 0 (dnN a7 t) (by omega) (by omega), ← List.range_eq_range']
  unfold chN at hs
  rw [List.find?_append] at hs
  cases e : ((List.range (dnN a7 t)).map (drN a6 t)).find? (hfB (v.1.1 5) x) with
  | some s' =>
    rw [e] at hs
    simp at hs
    rw [hs]
  | none =>
    rw [e] at hs
    by_cases c : parN a4 t = 0
    · rw [if_pos c] at hs; simp at hs
    · rw [if_neg c] at hs
      simp only [Option.none_or, List.find?_cons, List.find?_nil] at hs
      split at hs
      · simp at hs; rw [hs]
      · cases hs
theorem se_loop (h : RelW T v.1 a0 a1 a2 a3 a4 a5 a6 a7) {x p : Int32} : ∀ (n t k : Nat), 1 ≤ t → t ≤ T → k + t ≤ 12 → t + 1 ≤ n → lr_W_search v.1 p x n (nI t) (nI k) = if hfB (v.1.1 5) x t = true then nI (Gs (chN a4 a6 a7) (bt x) (hfB (v.1.1 5) x) 13 t) else 0 := by
  have hT := h.2.2.1.1
  intro n
  induction n with
  | zero => intro t k h1 h2 h3 h4; exfalso; omega
  | succ n ih =>
    intro t k h1 h2 h3 h4
    rw [lr_W_search_s, if_neg (fun q => by have := (i12le_iff (by omega)).mp q; omega), cl (by omega : t < 1000), nI_1]
    by_cases c : hfB (v.1.1 5) x t = true
    · rw [if_neg (by unfold hfB at c; simpa using c), if_pos c, Gs_s]
      by_cases c2 : bt x t = true
      · rw [if_neg ((hb1 (by omega)).mpr c2), if_pos c2]
      · obtain ⟨s, e, s1, s2, s3⟩ := hf_some h h1 h2 c c2
        rw [if_pos ((hb0 (by omega)).mpr (by simpa using c2)), if_neg c2, nx_eq h h1 h2 e, e, ih s (k + 1) s1 (by omega) (by omega) (by omega), if_pos s3]
        show nI (Gs _ _ _ 13 s) = nI (Gs _ _ _ 12 s)
        rw [Gs_fuel (ch_lt h) s 13 12 s1 (by omega) (by omega) (by omega)]
    · rw [if_pos (by unfold hfB at c; simpa using c), if_neg c]
theorem Gs_own (h : RelW T v.1 a0 a1 a2 a3 a4 a5 a6 a7) {x : Int32} : ∀ (n t : Nat), 1 ≤ t → t ≤ T → t ≤ n → hfB (v.1.1 5) x t = true → 1 ≤ Gs (chN a4 a6 a7) (bt x) (hfB (v.1.1 5) x) n t ∧ Gs (chN a4 a6 a7) (bt x) (hfB (v.1.1 5) x) n t ≤ t ∧ bt x (Gs (chN a4 a6 a7) (bt x) (hfB (v.1.1 5) x) n t) = true := by
  intro n
  induction n with
  | zero => intro t h1 h2 h3; exfalso; omega
  | succ n ih =>
    intro t h1 h2 h3 hf
    rw [Gs_s]
    by_cases c2 : bt x t = true
    · rw [if_pos c2]; exact ⟨h1, by omega, c2⟩
    · obtain ⟨s, e, s1, s2, s3⟩ := hf_some h h1 h2 hf c2
      rw [if_neg c2, e]
      have := ih s s1 (by omega) (by omega) s3
      exact ⟨this.1, by show Gs _ _ _ n s ≤ t; omega, this.2.2⟩
/-- the reference's stack -/
def Stk (y : Nat → Int32) : List Nat → Prop
  | [] => True
  | t :: L => y L.length = nI t ∧ Stk y L
theorem Stk_upd {y : Nat → Int32} {k : Nat} {x : Int32} : ∀ L : List Nat, L.length ≤ k → Stk y L → Stk (upd y k x) L := by
  intro L
  induction L with
  | nil => intro _ _; exact trivial
  | cons t L ih =>
    intro h1 h2
    have : L.length + 1 ≤ k := h1
    exact ⟨by rw [upd_ne (by omega)]; exact h2.1, ih (by omega) h2.2⟩
theorem pu_loop {a8 : Nat → Int32} {p1 p2 : Int32} (hdi : vDir a6) {t : Nat} (ht : t < 13) : ∀ (n j : Nat) (L : List Nat) (y : Nat → Int32), j + 1 ≤ n → j ≤ 4 → L.length + j ≤ 90 → Stk y L → (lfin_R_findField_103 a4 a6 a7 a8 p1 p2 (nI t) n (nI L.length) (nI j - 1) y).1 = nI ((List.range j).map (drN a6 t) ++ L).length ∧ Stk (lfin_R_findField_103 a4 a6 a7 a8 p1 p2 (nI t) n (nI L.length) (nI j - 1) y).2.2 ((List.range j).map (drN a6 t) ++ L) := by
  intro n
  induction n with
  | zero => intro j L y h1; exfalso; omega
  | succ n ih =>
    intro j L y h1 h2 h3 h4
    rw [lfin_R_findField_103_s]
    cases j with
    | zero =>
      rw [if_pos (by decide +kernel)]
      exact ⟨rfl, h4⟩
    | succ j =>
      rw [nI_pred, if_neg (nI_pos (by omega)), nI_1, cl4 ht (by omega), cl (by omega : L.length < 1000), dr_nI hdi ht (by omega : j < 4)]
      have hk : nI j + (-1 : Int32) = nI j - 1 := (Int32.sub_eq_add_neg (nI j) 1).symm
      rw [hk]
      have r := ih j (drN a6 t j :: L) (upd y L.length (nI (drN a6 t j))) (by omega) (by omega) (by simp; omega) ⟨upd_at, Stk_upd L (Nat.le_refl _) h4⟩
      have e : (List.range (j + 1)).map (drN a6 t) ++ L = (List.range j).map (drN a6 t) ++ (drN a6 t j :: L) := by
        rw [List.range_succ, List.map_append, List.append_assoc]; rfl
      rw [e]
      exact r
end
