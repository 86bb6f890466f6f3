/-! ASKING: families, sets of interfaces -/
section
variable {T : Nat} {v : ES} {a0 a1 a2 a3 a4 a5 a6 a7 ab : Nat → Int32}
theorem is_eq (h : RelW T v.1 a0 a1 a2 a3 a4 a5 a6 a7) (hab : AbOK (FN (v.1.1 5)) ab (T + 1)) {i j : Nat} (h1 : 1 ≤ i) (h2 : i ≤ T) (hj : j < 13) : f_R_is ab (nI i) (nI j) = f_W_isKindOf v.1 (nI i) (nI j) := by
  have hw := h.2.2.1
  have hT := hw.1
  unfold f_R_is f_W_isKindOf
  rw [cl (by omega : i < 1000), holds_eq (by omega), show bt (v.1.1 5 i) j = FN (v.1.1 5) i j from rfl]
  by_cases e : i = j
  · subst e
    rw [if_pos rfl, if_pos (F_refl hw h1 h2)]
  · rw [if_neg (fun q => e ((ieq_iff (by omega) (by omega)).mp q))]
    by_cases c : FN (v.1.1 5) i j = true
    · have : bt (ab i) j = true := (hab i h1 (by omega) j (by omega)).mpr ⟨c, fun q => e q.symm⟩
      rw [if_neg (fun q => by rw [sb0 (by omega)] at q; rw [q] at this; cases this), if_pos c]
    · have : bt (ab i) j = false := by
        cases q : bt (ab i) j with
        | false => rfl
        | true => exact absurd ((hab i h1 (by omega) j (by omega)).mp q).1 c
      rw [if_pos ((sb0 (by omega)).mpr this), if_neg c]
theorem sup_ab (h : RelW T v.1 a0 a1 a2 a3 a4 a5 a6 a7) (hab : AbOK (FN (v.1.1 5)) ab (T + 1)) {i : Nat} (h1 : 1 ≤ i) (h2 : i ≤ T) : ab i = f_W_supertypes v.1 (nI i) := by
  have hT := h.2.2.1.1
  refine b_ext (fun j hj => ?_)
  unfold f_W_supertypes
  rw [cl (by omega : i < 1000), no_bit (by omega) hj]
  have q := hab i h1 (by omega) j hj
  unfold FN at q
  rw [Bool.eq_iff_iff, q]
  simp
theorem sup_bit (h : RelW T v.1 a0 a1 a2 a3 a4 a5 a6 a7) {i j : Nat} (h1 : 1 ≤ i) (h2 : i ≤ T) (hj : j < 32) : bt (f_W_supertypes v.1 (nI i)) j = true ↔ (FN (v.1.1 5) i j = true ∧ j ≠ i) := by
  have hT := h.2.2.1.1
  unfold f_W_supertypes FN
  rw [cl (by omega : i < 1000), no_bit (by omega) hj]
  simp
theorem sup_sm (h : RelW T v.1 a0 a1 a2 a3 a4 a5 a6 a7) {i : Nat} (h1 : 1 ≤ i) (h2 : i ≤ T) : sm (f_W_supertypes v.1 (nI i)) := by
  have hT := h.2.2.1.1
  intro j hj hb
  have := F_le h.2.2.1 i h1 h2 j ((sup_bit h h1 h2 hj).mp hb).1
  omega
theorem useT_eq (h : RelW T v.1 a0 a1 a2 a3 a4 a5 a6 a7) {c d : Nat} (hc : c < 13) (hd : d < 13) : f_R_usableType a1 a3 (nI d) (nI c) = f_W_mayUseType v.1 (nI c) (nI d) := by
  obtain ⟨q0, q1, q2, q3, q4⟩ := h.2.1
  have hs := h.2.2.2.2.1
  unfold f_R_usableType f_W_mayUseType f_W_samePackage
  rw [q1, cl (by omega : c < 1000), cl (by omega : d < 1000)]
  by_cases c1 : a1 c = 0
  · rw [if_pos c1, if_pos ((set_fl hs.1 hc).mpr c1)]
    by_cases c2 : a3 c = a3 d
    · simp only [if_pos c2]; rw [if_neg (by decide)]
    · simp only [if_neg c2]; rw [if_pos (by decide)]
  · rw [if_neg c1, if_neg (fun q => c1 ((set_fl hs.1 hc).mp q))]
theorem useM_eq (h : RelW T v.1 a0 a1 a2 a3 a4 a5 a6 a7) (hab : AbOK (FN (v.1.1 5)) ab (T + 1)) {t d : Nat} (ht : t < 13) (h1 : 1 ≤ d) (h2 : d ≤ T) {e : Int32} (hk : eK e) (he : eH e = true) : f_R_usable a3 a5 ab (nI d) (nI t) e = f_O_mayUseMember v (nI t) (e &&& 3) (nI d) := by
  have hT := h.2.2.1.1
  obtain ⟨q0, q1, q2, q3, q4⟩ := h.2.1
  rcases hk with rfl | ⟨c, f, hc, hf, rfl⟩
  · rw [e_m1.1] at he; cases he
  · unfold f_R_usable f_O_mayUseMember f_W_samePackage f_W_sameHost
    rw [(e_fact c hc f hf).2.2.2.2.1, is_eq h hab h1 h2 ht, q1, q2, cl (by omega : t < 1000), cl (by omega : d < 1000)]
    rcases (by omega : c = 0 ∨ c = 1 ∨ c = 2 ∨ c = 3) with rfl | rfl | rfl | rfl
    · simp only [if_neg (show ¬ nI 0 = (3 : Int32) by decide), if_neg (show ¬ nI 0 = (2 : Int32) by decide), if_neg (show ¬ nI 0 = (1 : Int32) by decide)]
    · simp only [if_neg (show ¬ nI 1 = (3 : Int32) by decide), if_neg (show ¬ nI 1 = (2 : Int32) by decide), if_pos (show nI 1 = (1 : Int32) by decide)]
    · simp only [if_neg (show ¬ nI 2 = (3 : Int32) by decide), if_pos (show nI 2 = (2 : Int32) by decide), if_neg (show ¬ nI 2 = (1 : Int32) by decide)]
      by_cases c2 : a3 t = a3 d
      · simp only [if_pos c2]; rw [if_neg (by decide)]
      · simp only [if_neg c2, ↓reduceIte]
    · simp only [if_pos (show nI 3 = (3 : Int32) by decide), if_neg (show ¬ nI 3 = (2 : Int32) by decide), if_neg (show ¬ nI 3 = (1 : Int32) by decide)]
def CR (a0 a9 ab : Nat → Int32) (i q j : Nat) : Prop := bt (ab i) j = true ∧ ¬ a0 j = 0 ∧ ¬ f_R_has a9 (nI j) (nI q) = 0 ∧ f_R_isStatic a9 (nI j) (nI q) = 0 ∧ f_R_isPrivate a9 (nI j) (nI q) = 0
theorem cand_loop {a9 : Nat → Int32} (hT : T ≤ 12) {i q : Nat} (hi : i < 13) : ∀ (n k : Nat) (x : Int32), 14 ≤ k + n → k ≤ T + 1 → ∀ j, j < 32 → (bt (lr_R_candidates_5 (nI T) a0 a9 ab (nI i) (nI q) n x (nI k)) j = true ↔ (bt x j = true ∨ (k ≤ j ∧ j ≤ T ∧ CR a0 a9 ab i q j))) := by
  intro n
  induction n with
  | zero => intro k x h1 h2; exfalso; omega
  | succ n ih =>
    intro k x h1 h2 j hj
    rw [lr_R_candidates_5_s]
    by_cases c : T < k
    · rw [if_pos ((ilt_iff (by omega) (by omega)).mpr c)]
      exact ⟨fun q => Or.inl q, fun q => q.elim id (fun q => by exfalso; omega)⟩
    · rw [if_neg (fun q => c ((ilt_iff (by omega) (by omega)).mp q)), cl (by omega : i < 1000), cl (by omega : k < 1000), nI_1]
      have no : ¬ CR a0 a9 ab i q k → (bt (lr_R_candidates_5 (nI T) a0 a9 ab (nI i) (nI q) n x (nI (k + 1))) j = true ↔ (bt x j = true ∨ (k ≤ j ∧ j ≤ T ∧ CR a0 a9 ab i q j))) := by
        intro hn
        rw [ih (k + 1) x (by omega) (by omega) j hj]
        constructor
        · rintro (r | ⟨r1, r2⟩)
          · exact Or.inl r
          · exact Or.inr ⟨by omega, r2⟩
        · rintro (r | ⟨r1, r2, r3⟩)
          · exact Or.inl r
          · by_cases e : j = k
            · rw [e] at r3; exact absurd r3 hn
            · exact Or.inr ⟨by omega, r2, r3⟩
      by_cases c1 : bt (ab i) k = true
      · rw [if_neg (fun q => by rw [sb0 (by omega)] at q; rw [q] at c1; cases c1)]
        by_cases c2 : a0 k = 0
        · rw [if_pos c2]; exact no (fun q => q.2.1 c2)
        · rw [if_neg c2]
          by_cases c3 : f_R_has a9 (nI k) (nI q) = 0
          · rw [if_pos c3]; exact no (fun q => q.2.2.1 c3)
          · rw [if_neg c3]
            by_cases c4 : f_R_isStatic a9 (nI k) (nI q) = 0
            · rw [if_pos c4]
              by_cases c5 : f_R_isPrivate a9 (nI k) (nI q) = 0
              · rw [if_pos c5, ih (k + 1) _ (by omega) (by omega) j hj, or_bit (by omega) hj]
                simp only [Bool.or_eq_true, decide_eq_true_eq]
                constructor
                · rintro ((r | r) | ⟨r1, r2⟩)
                  · exact Or.inl r
                  · subst r; exact Or.inr ⟨by omega, by omega, c1, c2, c3, c4, c5⟩
                  · exact Or.inr ⟨by omega, r2⟩
                · rintro (r | ⟨r1, r2⟩)
                  · exact Or.inl (Or.inl r)
                  · by_cases e : j = k
                    · exact Or.inl (Or.inr e)
                    · exact Or.inr ⟨by omega, r2⟩
              · rw [if_neg c5]; exact no (fun q => c5 q.2.2.2.2)
            · rw [if_neg c4]; exact no (fun q => c4 q.2.2.2.1)
      · rw [if_pos ((sb0 (by omega)).mpr (by simpa using c1))]; exact no (fun q => c1 q.1)
theorem e_has {a9 : Nat → Int32} {j q : Nat} (hj : j < 13) (hq : q < 4) : f_R_has a9 (nI j) (nI q) = 0 ↔ eH (a9 (4 * j + q)) = false := by
  unfold f_R_has eH
  rw [cl4 hj hq]
  by_cases c : a9 (4 * j + q) < 0
  · simp [c]
  · simp [c]
theorem e_sta {a9 : Nat → Int32} {j q : Nat} (hj : j < 13) (hq : q < 4) (he : eH (a9 (4 * j + q)) = true) : f_R_isStatic a9 (nI j) (nI q) = 0 ↔ eS (a9 (4 * j + q)) = false := by
  unfold f_R_isStatic eS
  rw [cl4 hj hq, he]
  by_cases c : a9 (4 * j + q) &&& 4 = 0
  · simp [c]
  · simp [c]
theorem e_pri {a9 : Nat → Int32} {j q : Nat} (hj : j < 13) (hq : q < 4) (he : eH (a9 (4 * j + q)) = true) : f_R_isPrivate a9 (nI j) (nI q) = 0 ↔ eP (a9 (4 * j + q)) = false := by
  unfold f_R_isPrivate eP
  rw [cl4 hj hq, he]
  by_cases c : a9 (4 * j + q) &&& 3 = 0
  · simp [c]
  · simp [c]
theorem e_abs {a9 : Nat → Int32} {j q : Nat} (hj : j < 13) (hq : q < 4) (he : eH (a9 (4 * j + q)) = true) : f_R_isAbstract a9 (nI j) (nI q) = 0 ↔ eA (a9 (4 * j + q)) = false := by
  unfold f_R_isAbstract eA
  rw [cl4 hj hq, he]
  by_cases c : a9 (4 * j + q) < 8
  · simp [c]
  · simp [c]
theorem rg_1 {j : Nat} (h1 : 1 ≤ j) (h2 : j < 13) : rg j = true := by unfold rg; simp; omega
theorem cand_eq (h : RelW T v.1 a0 a1 a2 a3 a4 a5 a6 a7) (hab : AbOK (FN (v.1.1 5)) ab (T + 1)) {a9 : Nat → Int32} (hm : RelM v.2.2 a9) {i q : Nat} (h1 : 1 ≤ i) (h2 : i ≤ T) (hq : q < 4) : f_R_candidates (nI T) a0 a9 ab (nI i) (nI q) = f_O_interfaceMethods v (nI i) (nI q) := by
  have hw := h.2.2.1
  have hT := hw.1
  have hs := h.2.2.2.2.1
  obtain ⟨r0, r1, r2, r3, -, -⟩ := hm q hq
  refine b_ext (fun j hj => ?_)
  have hcl := cand_loop (a0 := a0) (ab := ab) (a9 := a9) hT (i := i) (q := q) (by omega) 14 1 0 (by omega) (by omega) j hj
  rw [show nI 1 = (1 : Int32) from rfl] at hcl
  unfold f_R_candidates f_O_interfaceMethods f_W_interfaces f_M_inheritable
  rw [Bool.eq_iff_iff, hcl, b_0, cl (by omega : q < 1000), b_and, b_and, not_bits hj, not_bits hj, hs.2.2 j hj, r0 j hj, r1 j hj, r3 j hj]
  simp only [Bool.and_eq_true, Bool.not_eq_true', decide_eq_true_eq, sup_bit h h1 h2 hj]
  constructor
  · rintro (r | ⟨j1, j2, c1, c2, c3, c4, c5⟩)
    · cases r
    · have hj13 : j < 13 := by omega
      have he : eH (a9 (4 * j + q)) = true := by
        have := fun z => c3 ((e_has hj13 hq).mpr z)
        simpa using this
      have h4 := (hab i h1 (by omega) j hj).mp c1
      refine ⟨⟨h4, hj13, ?_⟩, ⟨⟨rg_1 j1 hj13, he⟩, ?_⟩, ?_⟩
      · unfold IN; simp [c2]
      · rw [(e_sta hj13 hq he).mp c4]; simp
      · rw [(e_pri hj13 hq he).mp c5]; simp
  · rintro ⟨⟨⟨h3, h4⟩, j13, hI⟩, ⟨⟨g1, he⟩, hS⟩, hP⟩
    have hle := F_le hw i h1 h2 j h3
    rw [g1] at hS hP
    refine Or.inr ⟨hle.1, by omega, (hab i h1 (by omega) j hj).mpr ⟨h3, h4⟩, ?_, ?_, ?_, ?_⟩
    · unfold IN at hI; simpa using hI
    · intro z; rw [(e_has j13 hq)] at z; rw [z] at he; cases he
    · exact (e_sta j13 hq he).mpr (by simpa using hS)
    · exact (e_pri j13 hq he).mpr (by simpa using hP)
/-- the set of interface methods, by its bits -/
theorem ifm_bit (h : RelW T v.1 a0 a1 a2 a3 a4 a5 a6 a7) {a9 : Nat → Int32} (hm : RelM v.2.2 a9) {i q j : Nat} (h1 : 1 ≤ i) (h2 : i ≤ T) (hq : q < 4) (hj : j < 32) (hb : bt (f_O_interfaceMethods v (nI i) (nI q)) j = true) : FN (v.1.1 5) i j = true ∧ j ≠ i ∧ 1 ≤ j ∧ j ≤ T ∧ IN a0 j = true ∧ eH (a9 (4 * j + q)) = true ∧ eS (a9 (4 * j + q)) = false ∧ eP (a9 (4 * j + q)) = false := by
  have hw := h.2.2.1
  have hT := hw.1
  have hs := h.2.2.2.2.1
  obtain ⟨r0, r1, r2, r3, -, -⟩ := hm q hq
  unfold f_O_interfaceMethods f_W_interfaces f_M_inheritable at hb
  rw [cl (by omega : q < 1000), b_and, b_and, not_bits hj, not_bits hj, hs.2.2 j hj, r0 j hj, r1 j hj, r3 j hj] at hb
  simp only [Bool.and_eq_true, Bool.not_eq_true', decide_eq_true_eq, sup_bit h h1 h2 hj] at hb
  obtain ⟨⟨⟨h3, h4⟩, j13, hI⟩, ⟨⟨g1, he⟩, hS⟩, hP⟩ := hb
  have hle := F_le hw i h1 h2 j h3
  rw [g1] at hS hP
  exact ⟨h3, h4, hle.1, by omega, hI, he, by simpa using hS, by simpa using hP⟩
theorem mx_in {a9 : Nat → Int32} (hT : T ≤ 12) {p1 p2 : Int32} {k : Nat} (hk : k < 32) : ∀ (n j : Nat) (x : Int32), 14 ≤ j + n → j ≤ T + 1 → ∀ u, u < 32 → (bt (lfin_R_maximals_25 (nI T) a0 a9 ab p1 p2 (nI k) n x (nI j)).1 u = true ↔ (bt x u = true ∧ ¬ (u = k ∧ ∃ j', j ≤ j' ∧ j' ≤ T ∧ bt (f_R_candidates (nI T) a0 a9 ab p1 p2) j' = true ∧ j' ≠ k ∧ ¬ f_R_is ab (nI j') (nI k) = 0))) := by
  intro n
  induction n with
  | zero => intro j x h1 h2; exfalso; omega
  | succ n ih =>
    intro j x h1 h2 u hu
    rw [lfin_R_maximals_25_s]
    by_cases c : T < j
    · rw [if_pos ((ilt_iff (by omega) (by omega)).mpr c)]
      refine ⟨fun q => ⟨q, ?_⟩, fun q => q.1⟩
      rintro ⟨-, j', r1, r2, -⟩
      omega
    · rw [if_neg (fun q => c ((ilt_iff (by omega) (by omega)).mp q)), nI_1]
      have no : ¬ (bt (f_R_candidates (nI T) a0 a9 ab p1 p2) j = true ∧ j ≠ k ∧ ¬ f_R_is ab (nI j) (nI k) = 0) → (bt (lfin_R_maximals_25 (nI T) a0 a9 ab p1 p2 (nI k) n x (nI (j + 1))).1 u = true ↔ (bt x u = true ∧ ¬ (u = k ∧ ∃ j', j ≤ j' ∧ j' ≤ T ∧ bt (f_R_candidates (nI T) a0 a9 ab p1 p2) j' = true ∧ j' ≠ k ∧ ¬ f_R_is ab (nI j') (nI k) = 0))) := by
        intro hn
        rw [ih (j + 1) x (by omega) (by omega) u hu]
        refine ⟨fun ⟨q1, q2⟩ => ⟨q1, ?_⟩, fun ⟨q1, q2⟩ => ⟨q1, ?_⟩⟩
        · rintro ⟨r0, j', r1, r2, r3⟩
          by_cases e : j' = j
          · rw [e] at r3; exact hn r3
          · exact q2 ⟨r0, j', by omega, r2, r3⟩
        · rintro ⟨r0, j', r1, r2, r3⟩
          exact q2 ⟨r0, j', by omega, r2, r3⟩
      by_cases c1 : bt (f_R_candidates (nI T) a0 a9 ab p1 p2) j = true
      · rw [if_neg (fun q => by rw [sb0 (by omega)] at q; rw [q] at c1; cases c1)]
        by_cases c2 : j = k
        · rw [if_pos (by rw [c2])]; exact no (fun q => q.2.1 c2)
        · rw [if_neg (fun q => c2 ((ieq_iff (by omega) (by omega)).mp q))]
          by_cases c3 : f_R_is ab (nI j) (nI k) = 0
          · rw [if_pos c3]; exact no (fun q => q.2.2 c3)
          · rw [if_neg c3, ih (j + 1) _ (by omega) (by omega) u hu, no_bit hk hu]
            simp only [Bool.and_eq_true, Bool.not_eq_true', decide_eq_false_iff_not]
            refine ⟨fun ⟨⟨q1, q3⟩, q2⟩ => ⟨q1, fun r => q3 r.1⟩, fun ⟨q1, q2⟩ => ⟨⟨q1, fun r => q2 ⟨r, j, by omega, by omega, c1, c2, c3⟩⟩, ?_⟩⟩
            rintro ⟨r0, j', r1, r2, r3⟩
            exact q2 ⟨r0, j', by omega, r2, r3⟩
      · rw [if_pos ((sb0 (by omega)).mpr (by simpa using c1))]; exact no (fun q => c1 q.1)
theorem mx_out {a9 : Nat → Int32} (hT : T ≤ 12) {p1 p2 : Int32} : ∀ (n k : Nat) (x : Int32), 14 ≤ k + n → k ≤ T + 1 → ∀ u, u < 32 → (bt (lr_R_maximals_13 (nI T) a0 a9 ab p1 p2 n x (nI k)) u = true ↔ (bt x u = true ∧ ¬ (k ≤ u ∧ u ≤ T ∧ ∃ j', 1 ≤ j' ∧ j' ≤ T ∧ bt (f_R_candidates (nI T) a0 a9 ab p1 p2) j' = true ∧ j' ≠ u ∧ ¬ f_R_is ab (nI j') (nI u) = 0))) := by
  intro n
  induction n with
  | zero => intro k x h1 h2; exfalso; omega
  | succ n ih =>
    intro k x h1 h2 u hu
    rw [lr_R_maximals_13_s]
    by_cases c : T < k
    · rw [if_pos ((ilt_iff (by omega) (by omega)).mpr c)]
      refine ⟨fun q => ⟨q, ?_⟩, fun q => q.1⟩
      rintro ⟨r1, r2, -⟩
      omega
    · rw [if_neg (fun q => c ((ilt_iff (by omega) (by omega)).mp q)), nI_1, ih (k + 1) _ (by omega) (by omega) u hu]
      have hin := mx_in (a0 := a0) (ab := ab) (a9 := a9) hT (p1 := p1) (p2 := p2) (k := k) (by omega) 14 1 x (by omega) (by omega) u hu
      rw [show nI 1 = (1 : Int32) from rfl] at hin
      rw [hin]
      constructor
      · rintro ⟨⟨q1, q2⟩, q3⟩
        refine ⟨q1, ?_⟩
        rintro ⟨r1, r2, r3⟩
        by_cases e : u = k
        · subst e; exact q2 ⟨rfl, r3⟩
        · exact q3 ⟨by omega, r2, r3⟩
      · rintro ⟨q1, q2⟩
        refine ⟨⟨q1, ?_⟩, ?_⟩
        · rintro ⟨r0, r3⟩
          subst r0
          exact q2 ⟨by omega, by omega, r3⟩
        · rintro ⟨r1, r2, r3⟩
          exact q2 ⟨by omega, r2, r3⟩
theorem mxs_loop (h : RelW T v.1 a0 a1 a2 a3 a4 a5 a6 a7) {p1 p2 : Int32} (hle : ∀ j, j < 32 → bt (f_O_interfaceMethods v p1 p2) j = true → 1 ≤ j ∧ j ≤ T) : ∀ (n t : Nat) (x : Int32), 14 ≤ t + n → 1 ≤ t → t ≤ 13 → ∀ u, u < 32 → (bt (lr_O_maximalSet v p1 p2 n x (nI t)) u = true ↔ (bt x u = true ∧ ¬ ∃ t', t ≤ t' ∧ t' ≤ 12 ∧ bt (f_O_interfaceMethods v p1 p2) t' = true ∧ FN (v.1.1 5) t' u = true ∧ u ≠ t')) := by
  intro n
  induction n with
  | zero => intro t x h1 h2 h3; exfalso; omega
  | succ n ih =>
    intro t x h1 h2 h3 u hu
    rw [lr_O_maximalSet_s]
    by_cases c : 12 < t
    · rw [if_pos ((i12_iff (by omega)).mpr c)]
      refine ⟨fun q => ⟨q, ?_⟩, fun q => q.1⟩
      rintro ⟨t', r1, r2, -⟩
      omega
    · rw [if_neg (fun q => c ((i12_iff (by omega)).mp q)), nI_1]
      by_cases c1 : bt (f_O_interfaceMethods v p1 p2) t = true
      · have h4 := hle t (by omega) c1
        rw [if_neg ((hb1 (by omega)).mpr c1), ih (t + 1) _ (by omega) (by omega) (by omega) u hu, not_bits hu]
        have hsb := sup_bit h h4.1 h4.2 hu
        constructor
        · rintro ⟨q1, q2⟩
          simp only [Bool.and_eq_true, Bool.not_eq_true'] at q1
          refine ⟨q1.1, ?_⟩
          rintro ⟨t', r1, r2, r3⟩
          by_cases e : t' = t
          · subst e
            have := hsb.mpr r3.2
            rw [q1.2] at this; cases this
          · exact q2 ⟨t', by omega, r2, r3⟩
        · rintro ⟨q1, q2⟩
          refine ⟨?_, ?_⟩
          · simp only [Bool.and_eq_true, Bool.not_eq_true']
            refine ⟨q1, ?_⟩
            cases e : bt (f_W_supertypes v.1 (nI t)) u with
            | false => rfl
            | true => exact absurd ⟨t, by omega, by omega, c1, hsb.mp e⟩ q2
          · rintro ⟨t', r1, r2, r3⟩
            exact q2 ⟨t', by omega, r2, r3⟩
      · rw [if_pos ((hb0 (by omega)).mpr (by simpa using c1)), ih (t + 1) _ (by omega) (by omega) (by omega) u hu]
        refine ⟨fun ⟨q1, q2⟩ => ⟨q1, ?_⟩, fun ⟨q1, q2⟩ => ⟨q1, ?_⟩⟩
        · rintro ⟨t', r1, r2, r3⟩
          by_cases e : t' = t
          · rw [e] at r3; exact c1 r3.1
          · exact q2 ⟨t', by omega, r2, r3⟩
        · rintro ⟨t', r1, r2, r3⟩
          exact q2 ⟨t', by omega, r2, r3⟩
theorem max_eq (h : RelW T v.1 a0 a1 a2 a3 a4 a5 a6 a7) (hab : AbOK (FN (v.1.1 5)) ab (T + 1)) {a9 : Nat → Int32} (hm : RelM v.2.2 a9) {i q : Nat} (h1 : 1 ≤ i) (h2 : i ≤ T) (hq : q < 4) : f_R_maximals (nI T) a0 a9 ab (nI i) (nI q) = f_O_maximalSet v (nI i) (nI q) := by
  have hw := h.2.2.1
  have hT := hw.1
  have hb := fun (j : Nat) (hj : j < 32) (hb : bt (f_O_interfaceMethods v (nI i) (nI q)) j = true) => ifm_bit h hm h1 h2 hq hj hb
  have hle : ∀ j, j < 32 → bt (f_O_interfaceMethods v (nI i) (nI q)) j = true → 1 ≤ j ∧ j ≤ T := fun j hj hbj => ⟨(hb j hj hbj).2.2.1, (hb j hj hbj).2.2.2.1⟩
  have hce := cand_eq h hab hm h1 h2 hq
  refine b_ext (fun u hu => ?_)
  have ho := mx_out (a0 := a0) (ab := ab) (a9 := a9) hT (p1 := nI i) (p2 := nI q) 14 1 (f_R_candidates (nI T) a0 a9 ab (nI i) (nI q)) (by omega) (by omega) u hu
  have hs := mxs_loop h hle 14 1 (f_O_interfaceMethods v (nI i) (nI q)) (by omega) (by omega) (by omega) u hu
  rw [show nI 1 = (1 : Int32) from rfl] at ho hs
  rw [hce] at ho
  unfold f_R_maximals f_O_maximalSet
  rw [Bool.eq_iff_iff, hce, ho, hs]
  have key : ∀ j', 1 ≤ j' → j' ≤ T → bt (f_O_interfaceMethods v (nI i) (nI q)) u = true → (¬ f_R_is ab (nI j') (nI u) = 0 ↔ FN (v.1.1 5) j' u = true) := by
    intro j' j1 j2 hub
    have := hle u hu hub
    rw [is_eq h hab j1 j2 (by omega)]
    unfold f_W_isKindOf FN
    rw [cl (by omega : j' < 1000), hb1 (by omega)]
  constructor
  · rintro ⟨q1, q2⟩
    have hul := hle u hu q1
    refine ⟨q1, ?_⟩
    rintro ⟨t', r1, r2, r3, r4, r5⟩
    have ht := hle t' (by omega) r3
    exact q2 ⟨hul.1, hul.2, t', r1, ht.2, r3, fun e => r5 e.symm, (key t' ht.1 ht.2 q1).mpr r4⟩
  · rintro ⟨q1, q2⟩
    refine ⟨q1, ?_⟩
    rintro ⟨r1, r2, j', s1, s2, s3, s4, s5⟩
    exact q2 ⟨j', s1, by omega, s3, (key j' s1 s2 q1).mp s5, fun e => s4 e.symm⟩
theorem max_sub {p1 p2 : Int32} (h : RelW T v.1 a0 a1 a2 a3 a4 a5 a6 a7) {a9 : Nat → Int32} (hm : RelM v.2.2 a9) {i q u : Nat} (h1 : 1 ≤ i) (h2 : i ≤ T) (hq : q < 4) (hu : u < 32) (hb : bt (f_O_maximalSet v (nI i) (nI q)) u = true) : bt (f_O_interfaceMethods v (nI i) (nI q)) u = true := by
  have hle : ∀ j, j < 32 → bt (f_O_interfaceMethods v (nI i) (nI q)) j = true → 1 ≤ j ∧ j ≤ T := fun j hj hbj => ⟨(ifm_bit h hm h1 h2 hq hj hbj).2.2.1, (ifm_bit h hm h1 h2 hq hj hbj).2.2.2.1⟩
  have hs := mxs_loop h hle 14 1 (f_O_interfaceMethods v (nI i) (nI q)) (by omega) (by omega) (by omega) u hu
  rw [show nI 1 = (1 : Int32) from rfl] at hs
  exact (hs.mp hb).1
theorem ty_loop {a10 : Nat → Int32} (hT : T ≤ 12) {p1 p2 : Int32} : ∀ (n k : Nat), 13 ≤ k + n → k ≤ T → lr_R_type_19 (nI T) a0 a3 a4 a5 a6 a7 a10 p1 p2 n (nI (cn (s_R_closeAbove_a10 (nI T) a4 a6 a7 a10 p1.toNatClampNeg) k)) (nI (k + 1)) = lr_R_type_19 (nI T) a0 a3 a4 a5 a6 a7 a10 p1 p2 1 (nI (cn (s_R_closeAbove_a10 (nI T) a4 a6 a7 a10 p1.toNatClampNeg) T)) (nI (T + 1)) := by
  intro n
  induction n with
  | zero => intro k h1 h2; exfalso; omega
  | succ n ih =>
    intro k h1 h2
    by_cases c : k = T
    · subst c
      rw [lr_R_type_19_s, lr_R_type_19_s, if_pos ((ilt_iff (by omega) (by omega)).mpr (by omega)), if_pos ((ilt_iff (by omega) (by omega)).mpr (by omega))]
    · rw [lr_R_type_19_s n, if_neg (fun q => by have := (ilt_iff (by omega) (by omega)).mp q; omega), nI_1, ← ih (k + 1) (by omega) (by omega)]
      by_cases c1 : bt (s_R_closeAbove_a10 (nI T) a4 a6 a7 a10 p1.toNatClampNeg) (k + 1) = true
      · rw [if_neg (fun q => by rw [sb0 (by omega)] at q; rw [q] at c1; cases c1), nI_1]
        rw [show cn (s_R_closeAbove_a10 (nI T) a4 a6 a7 a10 p1.toNatClampNeg) (k + 1) = cn (s_R_closeAbove_a10 (nI T) a4 a6 a7 a10 p1.toNatClampNeg) k + 1 from by rw [cn, if_pos c1]]
      · rw [if_pos ((sb0 (by omega)).mpr (by simpa using c1))]
        rw [show cn (s_R_closeAbove_a10 (nI T) a4 a6 a7 a10 p1.toNatClampNeg) (k + 1) = cn (s_R_closeAbove_a10 (nI T) a4 a6 a7 a10 p1.toNatClampNeg) k from by rw [cn, if_neg c1]; rfl]
end
theorem q_isA {v : ES} {lc b0 b1 : Int32} {a0 a1 a2 a3 a4 a5 a6 a7 a8 a9 a11 : Nat → Int32} (h : Rel v lc b0 b1 a0 a1 a2 a3 a4 a5 a6 a7 a8 a9 a11) {a10 : Nat → Int32} {p1 p2 : Int32} : f_O_isA v p1 p2 = f_R_isA b0 a4 a6 a7 a10 p1 p2 := by
  obtain ⟨⟨T, rfl, hw⟩, hr⟩ := h
  have hT := hw.2.2.1.1
  unfold f_O_isA f_R_isA
  rw [has_there hw.1, has_there hw.1]
  by_cases c1 : f_R_there (nI T) p1 = (0 : Int32)
  · rw [if_pos c1, if_pos c1]
  · rw [if_neg c1, if_neg c1]
    by_cases c2 : f_R_there (nI T) p2 = (0 : Int32)
    · rw [if_pos c2, if_pos c2]
    · rw [if_neg c2, if_neg c2]
      obtain ⟨i, rfl, i1, i2⟩ := there_k hT c1
      obtain ⟨j, rfl, j1, j2⟩ := there_k hT c2
      rw [is_eq hw (ca_ok hw.2.2.1 hw.2.2.2.2.2.2.2.1 hw.2.2.2.2.2.2.2.2.1 hw.2.2.2.2.2.2.2.2.2) i1 i2 (by omega)]
theorem q_mates {v : ES} {lc b0 b1 : Int32} {a0 a1 a2 a3 a4 a5 a6 a7 a8 a9 a11 : Nat → Int32} (h : Rel v lc b0 b1 a0 a1 a2 a3 a4 a5 a6 a7 a8 a9 a11) {p1 p2 : Int32} : f_O_mates v p1 p2 = f_R_mates b0 a5 p1 p2 := by
  obtain ⟨⟨T, rfl, hw⟩, hr⟩ := h
  obtain ⟨q0, q1, q2, q3, q4⟩ := hw.2.1
  unfold f_O_mates f_R_mates f_W_sameHost
  rw [has_there hw.1, has_there hw.1, q2]
  by_cases c : a5 p1.toNatClampNeg = a5 p2.toNatClampNeg
  · simp only [if_pos c, if_neg (by decide : ¬ (1 : Int32) = 0)]
  · simp only [if_neg c, ↓reduceIte]
theorem q_choices {v : ES} {lc b0 b1 : Int32} {a0 a1 a2 a3 a4 a5 a6 a7 a8 a9 a11 : Nat → Int32} (h : Rel v lc b0 b1 a0 a1 a2 a3 a4 a5 a6 a7 a8 a9 a11) : f_O_choices v lc = f_R_choices b1 := h.2.1
theorem q_maximal {v : ES} {lc b0 b1 : Int32} {a0 a1 a2 a3 a4 a5 a6 a7 a8 a9 a11 : Nat → Int32} (h : Rel v lc b0 b1 a0 a1 a2 a3 a4 a5 a6 a7 a8 a9 a11) {a10 : Nat → Int32} {p1 p2 : Int32} : f_O_maximal v p1 p2 = f_R_maximal b0 a0 a4 a6 a7 a9 a10 p1 p2 := by
  obtain ⟨⟨T, rfl, hw⟩, -, -, hm, -⟩ := h
  have hT := hw.2.2.1.1
  unfold f_O_maximal f_R_maximal
  rw [has_there hw.1, name_eq]
  by_cases c1 : f_R_there (nI T) p1 = (0 : Int32)
  · rw [if_pos c1, if_pos c1]
  · rw [if_neg c1, if_neg c1]
    by_cases c2 : f_R_in p2 (0 : Int32) (3 : Int32) = (0 : Int32)
    · rw [if_pos c2, if_pos c2]
    · rw [if_neg c2, if_neg c2]
      obtain ⟨i, rfl, i1, i2⟩ := there_k hT c1
      obtain ⟨q, rfl, hq⟩ := name_k c2
      exact (max_eq hw (ca_ok hw.2.2.1 hw.2.2.2.2.2.2.2.1 hw.2.2.2.2.2.2.2.2.1 hw.2.2.2.2.2.2.2.2.2) hm i1 i2 hq).symm
theorem q_type {v : ES} {lc b0 b1 : Int32} {a0 a1 a2 a3 a4 a5 a6 a7 a8 a9 a11 : Nat → Int32} (h : Rel v lc b0 b1 a0 a1 a2 a3 a4 a5 a6 a7 a8 a9 a11) {a10 : Nat → Int32} {p1 p2 : Int32} : f_O_type v p1 p2 = f_R_type b0 a0 a3 a4 a5 a6 a7 a10 p1 p2 := by
  obtain ⟨⟨T, rfl, hw⟩, -, -, hm, -⟩ := h
  have hT := hw.2.2.1.1
  obtain ⟨q0, q1, q2, q3, q4⟩ := hw.2.1
  unfold f_O_type f_R_type
  rw [has_there hw.1]
  by_cases c1 : f_R_there (nI T) p1 = (0 : Int32)
  · rw [if_pos c1, if_pos c1]
  · rw [if_neg c1, if_neg c1]
    obtain ⟨i, rfl, i1, i2⟩ := there_k hT c1
    have hi : i < 13 := by omega
    have hab := ca_ok (a10 := a10) hw.2.2.1 hw.2.2.2.2.2.2.2.1 hw.2.2.2.2.2.2.2.2.1 hw.2.2.2.2.2.2.2.2.2
    have hl := ty_loop (a0 := a0) (a3 := a3) (a4 := a4) (a5 := a5) (a6 := a6) (a7 := a7) (a10 := a10) hT (p1 := nI i) (p2 := p2) 14 0 (by omega) (by omega)
    rw [show cn (s_R_closeAbove_a10 (nI T) a4 a6 a7 a10 (nI i).toNatClampNeg) 0 = 0 from rfl, nI_0, show nI (0 + 1) = (1 : Int32) from rfl] at hl
    rw [hl, lr_R_type_19_s, if_pos ((ilt_iff (by omega) (by omega)).mpr (by omega)), ifc_iff hw i1 i2]
    unfold f_W_superclassOf f_W_packageOf f_W_hostOf f_W_directCount f_W_directAt
    rw [q0, q1, q2, q3, q4, cl (by omega : i < 1000), sup_ab hw hab i1 i2, bc_cn (sup_sm hw i1 i2)]
    have hcn : cn (f_W_supertypes v.1 (nI i)) 12 = cn (f_W_supertypes v.1 (nI i)) T := by
      refine cn_hi 12 (fun j j1 j2 => ?_) hT
      cases e : bt (f_W_supertypes v.1 (nI i)) j with
      | false => rfl
      | true =>
        have := F_le hw.2.2.1 i i1 i2 j ((sup_bit hw i1 i2 (by omega)).mp e).1
        exfalso; omega
    rw [hcn]
    have hdir : (nI i * (4 : Int32)) + (p2 - (4 : Int32)) = (((4 : Int32) * nI i) + p2) - (4 : Int32) := by
      rw [Int32.mul_comm, Int32.sub_eq_add_neg, Int32.sub_eq_add_neg, Int32.add_assoc]
    rw [hdir]
