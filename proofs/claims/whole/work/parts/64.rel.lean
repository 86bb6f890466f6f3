/-! THE RELATION of the class's state and the reference's -/
def rg (i : Nat) : Bool := decide (1 ≤ i ∧ i < 13)
def eH (e : Int32) : Bool := decide (¬ e < 0)
def eS (e : Int32) : Bool := eH e && decide (¬ (e &&& 4) = 0)
def eA (e : Int32) : Bool := eH e && decide (¬ e < 8)
def eP (e : Int32) : Bool := eH e && decide ((e &&& 3) = 0)
/-- what a cell of the reference's members holds -/
def eK (e : Int32) : Prop := e = -1 ∨ ∃ c f : Nat, c < 4 ∧ f < 3 ∧ e = nI (c + 4 * f)
def RelM (m : MS) (a : Nat → Int32) : Prop := ∀ q, q < 4 → (∀ i, i < 32 → bt (m 0 q) i = (rg i && eH (a (4 * i + q)))) ∧ (∀ i, i < 32 → bt (m 1 q) i = (rg i && eS (a (4 * i + q)))) ∧ (∀ i, i < 32 → bt (m 2 q) i = (rg i && eA (a (4 * i + q)))) ∧ (∀ i, i < 32 → bt (m 3 q) i = (rg i && eP (a (4 * i + q)))) ∧ (∀ i, 1 ≤ i → i < 13 → eH (a (4 * i + q)) = true → m 4 (4 * i + q) = a (4 * i + q) &&& 3) ∧ (∀ i, i < 13 → eK (a (4 * i + q)))
def RelW (T : Nat) (w : WS) (a0 a1 a2 a3 a4 a5 a6 a7 : Nat → Int32) : Prop :=
  w.2 3 = nI T ∧ (w.1 0 = a4 ∧ w.1 1 = a3 ∧ w.1 2 = a5 ∧ w.1 3 = a7 ∧ w.1 4 = a6) ∧ Wd T (IN a0) (parN a4) (dnN a7) (drN a6) (FN (w.1 5)) ∧ w.1 5 0 = 0 ∧ ((∀ j, j < 32 → bt (w.2 0) j = (decide (j < 13) && IN a1 j)) ∧ (∀ j, j < 32 → bt (w.2 1) j = (decide (j < 13) && IN a2 j)) ∧ (∀ j, j < 32 → bt (w.2 2) j = (decide (j < 13) && IN a0 j))) ∧ (∀ i, i < 13 → (i = 0 ∨ T < i) → a4 i = 0 ∧ a7 i = 0 ∧ a0 i = 0 ∧ a1 i = 0 ∧ a2 i = 0) ∧ (∀ i, i < 13 → a0 i = 0 ∨ a0 i = 1) ∧ (vPar a4 ∧ vDir a6 ∧ vDc a7)
/-- a type that is not told has no methods; an interface's are public or private -/
def RelI (T : Nat) (a0 a9 : Nat → Int32) : Prop := ∀ i q, 1 ≤ i → i < 13 → q < 4 → (T < i → a9 (4 * i + q) = -1) ∧ (i ≤ T → IN a0 i = true → eH (a9 (4 * i + q)) = true → (a9 (4 * i + q) &&& 3 = 0 ∨ a9 (4 * i + q) &&& 3 = 3))
def RelX (b0 : Int32) (a0 a9 : Nat → Int32) : Prop := ∀ T, T ≤ 12 → b0 = nI T → RelI T a0 a9
theorem RelX.mk {T : Nat} {a0 a9 : Nat → Int32} (hT : T ≤ 12) (h : RelI T a0 a9) : RelX (nI T) a0 a9 := by
  intro T' hT' e
  rw [(nI_eq (by omega) (by omega)).mp e] at h
  exact h
/-- no field is abstract -/
def RelF (a8 : Nat → Int32) : Prop := ∀ i q, i < 13 → q < 4 → a8 (4 * i + q) < 8
theorem RelF.put {a8 : Nat → Int32} (h : RelF a8) {k : Nat} {e : Int32} (he : e < 8) : RelF (upd a8 k e) := by
  intro i q hi hq
  by_cases c : 4 * i + q = k
  · rw [c, upd_at]; exact he
  · rw [upd_ne c]; exact h i q hi hq
def Rel (v : ES) (lc b0 b1 : Int32) (a0 a1 a2 a3 a4 a5 a6 a7 a8 a9 a11 : Nat → Int32) : Prop :=
  (∃ T, b0 = nI T ∧ RelW T v.1 a0 a1 a2 a3 a4 a5 a6 a7) ∧ lc = b1 ∧ RelM v.2.1 a8 ∧ RelM v.2.2 a9 ∧ vZ a11 ∧ RelX b0 a0 a9 ∧ RelF a8
theorem RelW.wf {T : Nat} {w : WS} {a0 a1 a2 a3 a4 a5 a6 a7 : Nat → Int32} (h : RelW T w a0 a1 a2 a3 a4 a5 a6 a7) : WF w := by
  obtain ⟨h1, ⟨e0, e1, e2, e3, e4⟩, hw, -, -, -, -, hpa, hdi, hdc⟩ := h
  have hT := hw.1
  refine ⟨?_, fun i hi => ?_, fun i hi => ?_, fun i hi => ?_⟩
  · rw [h1, nI_toInt (by omega)]; omega
  · rw [e0, par_nI hpa hi]; exact vp_in_nI (par_lt hpa hi) (by decide)
  · rw [e4]; exact hdi i hi
  · rw [e3]; exact hdc i hi
theorem RelW.vt {T : Nat} {w : WS} {a0 a1 a2 a3 a4 a5 a6 a7 : Nat → Int32} (h : RelW T w a0 a1 a2 a3 a4 a5 a6 a7) : vT (nI T) := by
  have hT := h.2.2.1.1
  unfold vT
  rw [nI_toInt (by omega)]; omega
theorem Rel.wf {v : ES} {lc b0 b1 : Int32} {a0 a1 a2 a3 a4 a5 a6 a7 a8 a9 a11 : Nat → Int32} (h : Rel v lc b0 b1 a0 a1 a2 a3 a4 a5 a6 a7 a8 a9 a11) : WF v.1 := by
  obtain ⟨⟨T, -, h1⟩, -⟩ := h
  exact h1.wf
theorem Rel.vt {v : ES} {lc b0 b1 : Int32} {a0 a1 a2 a3 a4 a5 a6 a7 a8 a9 a11 : Nat → Int32} (h : Rel v lc b0 b1 a0 a1 a2 a3 a4 a5 a6 a7 a8 a9 a11) : vT b0 := by
  obtain ⟨⟨T, e, h1⟩, -⟩ := h
  rw [e]; exact h1.vt
theorem Rel.vpar {v : ES} {lc b0 b1 : Int32} {a0 a1 a2 a3 a4 a5 a6 a7 a8 a9 a11 : Nat → Int32} (h : Rel v lc b0 b1 a0 a1 a2 a3 a4 a5 a6 a7 a8 a9 a11) : vPar a4 := by
  obtain ⟨⟨T, e, h1⟩, -⟩ := h
  exact h1.2.2.2.2.2.2.2.1
theorem Rel.vdir {v : ES} {lc b0 b1 : Int32} {a0 a1 a2 a3 a4 a5 a6 a7 a8 a9 a11 : Nat → Int32} (h : Rel v lc b0 b1 a0 a1 a2 a3 a4 a5 a6 a7 a8 a9 a11) : vDir a6 := by
  obtain ⟨⟨T, e, h1⟩, -⟩ := h
  exact h1.2.2.2.2.2.2.2.2.1
theorem Rel.vdc {v : ES} {lc b0 b1 : Int32} {a0 a1 a2 a3 a4 a5 a6 a7 a8 a9 a11 : Nat → Int32} (h : Rel v lc b0 b1 a0 a1 a2 a3 a4 a5 a6 a7 a8 a9 a11) : vDc a7 := by
  obtain ⟨⟨T, e, h1⟩, -⟩ := h
  exact h1.2.2.2.2.2.2.2.2.2
theorem Rel.vz {v : ES} {lc b0 b1 : Int32} {a0 a1 a2 a3 a4 a5 a6 a7 a8 a9 a11 : Nat → Int32} (h : Rel v lc b0 b1 a0 a1 a2 a3 a4 a5 a6 a7 a8 a9 a11) : vZ a11 := h.2.2.2.2.1
theorem Rel.z {v : ES} {lc b0 b1 : Int32} {a0 a1 a2 a3 a4 a5 a6 a7 a8 a9 a11 c11 : Nat → Int32} (h : Rel v lc b0 b1 a0 a1 a2 a3 a4 a5 a6 a7 a8 a9 a11) (hz : vZ c11) : Rel v lc b0 b1 a0 a1 a2 a3 a4 a5 a6 a7 a8 a9 c11 := ⟨h.1, h.2.1, h.2.2.1, h.2.2.2.1, hz, h.2.2.2.2.2⟩
theorem Rel.lc {v : ES} {lc b0 b1 x y : Int32} {a0 a1 a2 a3 a4 a5 a6 a7 a8 a9 a11 : Nat → Int32} (h : Rel v lc b0 b1 a0 a1 a2 a3 a4 a5 a6 a7 a8 a9 a11) (e : x = y) : Rel v x b0 y a0 a1 a2 a3 a4 a5 a6 a7 a8 a9 a11 := ⟨h.1, e, h.2.2⟩
/-- a told type's number -/
theorem there_k {T : Nat} {x : Int32} (hT : T ≤ 12) (c : ¬ f_R_there (nI T) x = (0 : Int32)) : ∃ k, x = nI k ∧ 1 ≤ k ∧ k ≤ T := by
  unfold f_R_there f_R_in at c
  by_cases c1 : x < (1 : Int32)
  · rw [if_pos c1] at c; exact absurd rfl c
  · rw [if_neg c1] at c
    by_cases c2 : nI T < x
    · rw [if_pos c2] at c; exact absurd rfl c
    · have h1 := one_i
      have hTi : (nI T).toInt = T := nI_toInt (by omega)
      rw [Int32.lt_iff_toInt_lt] at c1 c2
      obtain ⟨k, hk, e⟩ := vp_in_of (x := x) (n := 13) (vp_in_iff.mpr (by omega)) (by decide)
      have hki : x.toInt = k := by rw [e]; exact nI_toInt (by omega)
      exact ⟨k, e, by omega, by omega⟩
theorem there_1 {T k : Nat} (hT : T ≤ 12) (h1 : 1 ≤ k) (h2 : k ≤ T) : f_R_there (nI T) (nI k) = 1 := by
  unfold f_R_there f_R_in
  rw [if_neg (fun h => by have := (ilt1_iff (by omega)).mp h; omega), if_neg (fun h => by have := (ilt_iff (by omega) (by omega)).mp h; omega)]
theorem in_k3 {x : Int32} {m : Nat} {M : Int32} (hM : M.toInt = m) (hm : m < 1000) (c : ¬ f_R_in x (0 : Int32) M = (0 : Int32)) : ∃ k, x = nI k ∧ k ≤ m := by
  unfold f_R_in at c
  by_cases c1 : x < (0 : Int32)
  · rw [if_pos c1] at c; exact absurd rfl c
  · rw [if_neg c1] at c
    by_cases c2 : M < x
    · rw [if_pos c2] at c; exact absurd rfl c
    · have h0 := zero_i
      rw [Int32.lt_iff_toInt_lt] at c1 c2
      obtain ⟨k, hk, e⟩ := vp_in_of (x := x) (n := m + 1) (vp_in_iff.mpr (by omega)) (by omega)
      exact ⟨k, e, by omega⟩
theorem name_k {x : Int32} (c : ¬ f_R_in x (0 : Int32) (3 : Int32) = (0 : Int32)) : ∃ q, x = nI q ∧ q < 4 := by
  obtain ⟨k, e, h⟩ := in_k3 (m := 3) (by decide +kernel) (by omega) c
  exact ⟨k, e, by omega⟩
theorem pack_in {x : Int32} : f_O_isPackage x = f_R_in x (0 : Int32) (2 : Int32) := by
  have h4 : (3 : Int32).toInt = 3 := by decide +kernel
  have h3 : (2 : Int32).toInt = 2 := by decide +kernel
  unfold f_O_isPackage f_R_in
  by_cases c1 : x < (0 : Int32)
  · rw [if_pos c1, if_pos c1]
  · rw [if_neg c1, if_neg c1]
    by_cases c2 : (3 : Int32) ≤ x
    · rw [if_pos c2, if_pos (by rw [Int32.lt_iff_toInt_lt]; rw [Int32.le_iff_toInt_le] at c2; omega)]
    · rw [if_neg c2, if_neg (by rw [Int32.lt_iff_toInt_lt]; rw [Int32.le_iff_toInt_le] at c2; omega)]
theorem name_eq {x : Int32} : f_O_isName x = f_R_in x (0 : Int32) (3 : Int32) := by
  have h4 : (4 : Int32).toInt = 4 := by decide +kernel
  have h3 : (3 : Int32).toInt = 3 := by decide +kernel
  unfold f_O_isName f_R_in
  by_cases c1 : x < (0 : Int32)
  · rw [if_pos c1, if_pos c1]
  · rw [if_neg c1, if_neg c1]
    by_cases c2 : (4 : Int32) ≤ x
    · rw [if_pos c2, if_pos (by rw [Int32.lt_iff_toInt_lt]; rw [Int32.le_iff_toInt_le] at c2; omega)]
    · rw [if_neg c2, if_neg (by rw [Int32.lt_iff_toInt_lt]; rw [Int32.le_iff_toInt_le] at c2; omega)]
theorem access_eq {x : Int32} : f_O_isAccess x = f_R_in x (0 : Int32) (3 : Int32) := rfl
theorem form_eq {x : Int32} : f_O_isForm x = f_R_in x (0 : Int32) (2 : Int32) := rfl
/-- sets of the class by the reference's flags -/
theorem set_fl {x : Int32} {a : Nat → Int32} (h : ∀ j, j < 32 → bt x j = (decide (j < 13) && IN a j)) {k : Nat} (hk : k < 13) : f_O_holds x (nI k) = (0 : Int32) ↔ a k = 0 := by
  rw [hb0 (by omega), h k (by omega)]
  unfold IN
  simp [hk]
theorem holds_01 {x y : Int32} : f_O_holds x y = 0 ∨ f_O_holds x y = 1 := by
  unfold f_O_holds; split
  · exact Or.inl rfl
  · exact Or.inr rfl
theorem holds_eq {x : Int32} {k : Nat} (hk : k < 32) : f_O_holds x (nI k) = if bt x k = true then 1 else 0 := by
  by_cases c : bt x k = true
  · rw [if_pos c]
    rcases holds_01 (x := x) (y := nI k) with h | h
    · exact absurd h ((hb1 hk).mpr c)
    · exact h
  · rw [if_neg c]; exact (hb0 hk).mpr (by simpa using c)
