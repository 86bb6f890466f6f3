/-! THE WORLD OF TYPES, by numbers: T types, I the interfaces, par the superclass, dr the direct superinterfaces, F the families -/
def St (par dn : Nat → Nat) (dr : Nat → Nat → Nat) (i s : Nat) : Prop := (par i ≠ 0 ∧ s = par i) ∨ ∃ k, k < dn i ∧ s = dr i k
def Wd (T : Nat) (I : Nat → Bool) (par dn : Nat → Nat) (dr : Nat → Nat → Nat) (F : Nat → Nat → Bool) : Prop :=
  T ≤ 12 ∧ ∀ i, 1 ≤ i → i ≤ T → (par i < i ∧ (par i ≠ 0 → I (par i) = false) ∧ (I i = true → par i = 0)) ∧ (dn i ≤ 4 ∧ ∀ k, k < dn i → 1 ≤ dr i k ∧ dr i k < i ∧ I (dr i k) = true) ∧ ∀ j, F i j = true ↔ (j = i ∨ ∃ s, St par dn dr i s ∧ F s j = true)
section
variable {T : Nat} {I : Nat → Bool} {par dn : Nat → Nat} {dr : Nat → Nat → Nat} {F : Nat → Nat → Bool}
theorem St_lt (h : Wd T I par dn dr F) {i s : Nat} (h1 : 1 ≤ i) (h2 : i ≤ T) (hs : St par dn dr i s) : 1 ≤ s ∧ s < i ∧ s ≤ T := by
  obtain ⟨⟨a1, -, -⟩, ⟨-, a5⟩, -⟩ := h.2 i h1 h2
  rcases hs with ⟨h3, rfl⟩ | ⟨k, hk, rfl⟩
  · omega
  · have := a5 k hk
    omega
theorem F_refl (h : Wd T I par dn dr F) {i : Nat} (h1 : 1 ≤ i) (h2 : i ≤ T) : F i i = true := ((h.2 i h1 h2).2.2 i).mpr (Or.inl rfl)
theorem F_step (h : Wd T I par dn dr F) {i s j : Nat} (h1 : 1 ≤ i) (h2 : i ≤ T) (hs : St par dn dr i s) (hj : F s j = true) : F i j = true := ((h.2 i h1 h2).2.2 j).mpr (Or.inr ⟨s, hs, hj⟩)
theorem F_le (h : Wd T I par dn dr F) : ∀ (i : Nat), 1 ≤ i → i ≤ T → ∀ j, F i j = true → 1 ≤ j ∧ j ≤ i := by
  intro i
  induction i using Nat.strongRecOn with
  | _ i ih =>
    intro h1 h2 j hj
    rcases ((h.2 i h1 h2).2.2 j).mp hj with rfl | ⟨s, hs, hj2⟩
    · omega
    · have h3 := St_lt h h1 h2 hs
      have := ih s h3.2.1 h3.1 h3.2.2 j hj2
      omega
theorem F_trans (h : Wd T I par dn dr F) {k : Nat} : ∀ (i : Nat), 1 ≤ i → i ≤ T → ∀ j, F i j = true → F j k = true → F i k = true := by
  intro i
  induction i using Nat.strongRecOn with
  | _ i ih =>
    intro h1 h2 j hj hk
    rcases ((h.2 i h1 h2).2.2 j).mp hj with rfl | ⟨s, hs, hj2⟩
    · exact hk
    · have h3 := St_lt h h1 h2 hs
      exact F_step h h1 h2 hs (ih s h3.2.1 h3.1 h3.2.2 j hj2 hk)
theorem F_ifc (h : Wd T I par dn dr F) : ∀ (i : Nat), 1 ≤ i → i ≤ T → I i = true → ∀ j, F i j = true → I j = true := by
  intro i
  induction i using Nat.strongRecOn with
  | _ i ih =>
    intro h1 h2 hi j hj
    rcases ((h.2 i h1 h2).2.2 j).mp hj with rfl | ⟨s, hs, hj2⟩
    · exact hi
    · have h3 := St_lt h h1 h2 hs
      refine ih s h3.2.1 h3.1 h3.2.2 ?_ j hj2
      rcases hs with ⟨h4, rfl⟩ | ⟨k, hk, rfl⟩
      · exact absurd ((h.2 i h1 h2).1.2.2 hi) h4
      · exact ((h.2 i h1 h2).2.1.2 k hk).2.2
/-- the classes above a class: itself, and those above its superclass -/
theorem F_cls (h : Wd T I par dn dr F) {i j : Nat} (h1 : 1 ≤ i) (h2 : i ≤ T) (hj : I j = false) : F i j = true ↔ (j = i ∨ (par i ≠ 0 ∧ F (par i) j = true)) := by
  constructor
  · intro hf
    rcases ((h.2 i h1 h2).2.2 j).mp hf with rfl | ⟨s, hs, hj2⟩
    · exact Or.inl rfl
    · have h3 := St_lt h h1 h2 hs
      rcases hs with ⟨h4, rfl⟩ | ⟨k, hk, rfl⟩
      · exact Or.inr ⟨h4, hj2⟩
      · have := F_ifc h _ h3.1 h3.2.2 ((h.2 i h1 h2).2.1.2 k hk).2.2 j hj2
        rw [hj] at this; cases this
  · rintro (rfl | ⟨h3, h4⟩)
    · exact F_refl h h1 h2
    · exact F_step h h1 h2 (Or.inl ⟨h3, rfl⟩) h4
/-- strictly above -/
theorem F_above (h : Wd T I par dn dr F) {i j : Nat} (h1 : 1 ≤ i) (h2 : i ≤ T) : (F i j = true ∧ j ≠ i) ↔ ∃ s, St par dn dr i s ∧ F s j = true := by
  constructor
  · rintro ⟨hf, hn⟩
    rcases ((h.2 i h1 h2).2.2 j).mp hf with e | q
    · exact absurd e hn
    · exact q
  · rintro ⟨s, hs, hj⟩
    have h3 := St_lt h h1 h2 hs
    have h4 := F_le h s h3.1 h3.2.2 j hj
    exact ⟨F_step h h1 h2 hs hj, by omega⟩
end
/-! arrays of ints read as numbers -/
def parN (a : Nat → Int32) (i : Nat) : Nat := (a i).toNatClampNeg
def dnN (a : Nat → Int32) (i : Nat) : Nat := (a i).toNatClampNeg
def drN (a : Nat → Int32) (i k : Nat) : Nat := (a (4 * i + k)).toNatClampNeg
def IN (a : Nat → Int32) (i : Nat) : Bool := decide (¬ a i = 0)
def FN (f : Nat → Int32) (i j : Nat) : Bool := bt (f i) j
theorem cl {i : Nat} (h : i < 1000) : (nI i).toNatClampNeg = i := nI_clamp (by omega)
theorem cl4 {i k : Nat} (h : i < 13) (hk : k < 4) : (((4 : Int32) * nI i) + nI k).toNatClampNeg = 4 * i + k := by rw [jx4]; exact cl (by omega)
theorem cl4' {i k : Nat} (h : i < 13) (hk : k < 4) : ((nI i * (4 : Int32)) + nI k).toNatClampNeg = 4 * i + k := by rw [ix4, Nat.mul_comm]; exact cl (by omega)
theorem par_nI {a : Nat → Int32} (h : vPar a) {i : Nat} (hi : i < 13) : a i = nI (parN a i) := by
  obtain ⟨j, e, hj, -⟩ := h i hi
  unfold parN
  rw [e, cl (by omega)]
theorem dn_nI {a : Nat → Int32} (h : vDc a) {i : Nat} (hi : i < 13) : a i = nI (dnN a i) := by
  have h1 := h i hi
  exact in_k (n := 5) (vp_in_iff.mpr (by omega))
theorem dn_le {a : Nat → Int32} (h : vDc a) {i : Nat} (hi : i < 13) : dnN a i ≤ 4 := by
  have h1 := h i hi
  have := in_lt (x := a i) (n := 5) (vp_in_iff.mpr (by omega))
  unfold dnN; omega
theorem dr_nI {a : Nat → Int32} (h : vDir a) {i k : Nat} (hi : i < 13) (hk : k < 4) : a (4 * i + k) = nI (drN a i k) := in_k (h _ (by omega))
theorem dr_lt {a : Nat → Int32} (h : vDir a) {i k : Nat} (hi : i < 13) (hk : k < 4) : drN a i k < 13 := in_lt (h _ (by omega))
theorem par_lt {a : Nat → Int32} (h : vPar a) {i : Nat} (hi : i < 13) : parN a i < 13 := by
  obtain ⟨j, e, hj, -⟩ := h i hi
  unfold parN
  rw [e, cl (by omega)]; omega
theorem i0_iff {k : Nat} (h : k < 1000) : nI k = (0 : Int32) ↔ k = 0 := by
  rw [← nI_0]; exact nI_eq (by omega) (by omega)
theorem i1_iff {k : Nat} (h : k < 1000) : nI k = (1 : Int32) ↔ k = 1 := by
  rw [show (1 : Int32) = nI 1 from rfl]; exact nI_eq (by omega) (by omega)
theorem ile0_iff {k : Nat} (h : k < 1000) : nI k ≤ (0 : Int32) ↔ k = 0 := by
  rw [← nI_0, nI_leI (by omega) (by omega)]; omega
theorem ilt1_iff {k : Nat} (h : k < 1000) : nI k < (1 : Int32) ↔ k = 0 := by
  rw [show (1 : Int32) = nI 1 from rfl, nI_ltI (by omega) (by omega)]; omega
theorem i0lt_iff {k : Nat} (h : k < 1000) : (0 : Int32) < nI k ↔ 0 < k := by
  rw [← nI_0, nI_ltI (by omega) (by omega)]
theorem ilt_iff {j k : Nat} (hj : j < 1000) (h : k < 1000) : nI j < nI k ↔ j < k := nI_ltI (by omega) (by omega)
theorem ile_iff {j k : Nat} (hj : j < 1000) (h : k < 1000) : nI j ≤ nI k ↔ j ≤ k := nI_leI (by omega) (by omega)
theorem ieq_iff {j k : Nat} (hj : j < 1000) (h : k < 1000) : nI j = nI k ↔ j = k := nI_eq (by omega) (by omega)
theorem i12_iff {k : Nat} (h : k < 1000) : (12 : Int32) < nI k ↔ 12 < k := by
  rw [show (12 : Int32) = nI 12 from rfl, nI_ltI (by omega) (by omega)]
theorem i12le_iff {k : Nat} (h : k < 1000) : (12 : Int32) ≤ nI k ↔ 12 ≤ k := by
  rw [show (12 : Int32) = nI 12 from rfl, nI_leI (by omega) (by omega)]
theorem upd_at {f : Nat → Int32} {k : Nat} {x : Int32} : upd f k x k = x := by unfold upd; rw [if_pos rfl]
theorem upd_ne {f : Nat → Int32} {k j : Nat} {x : Int32} (h : j ≠ k) : upd f k x j = f j := by unfold upd; rw [if_neg h]
/-- a bit by its place -/
theorem or_bit {x : Int32} {k i : Nat} (hk : k < 32) (hi : i < 32) : bt (x ||| ((1 : Int32) <<< (nI k &&& (31 : Int32)))) i = (bt x i || decide (i = k)) := by rw [b_or, one_shl hk hi]
theorem no_bit {x : Int32} {k i : Nat} (hk : k < 32) (hi : i < 32) : bt (x &&& (((1 : Int32) <<< (nI k &&& (31 : Int32))) ^^^ (-1 : Int32))) i = (bt x i && !decide (i = k)) := by rw [b_and, b_xor, one_shl hk hi, b_m1 i hi]; simp
theorem not_bits {x y : Int32} {i : Nat} (hi : i < 32) : bt (x &&& (y ^^^ (-1 : Int32))) i = (bt x i && !bt y i) := by rw [b_and, b_xor, b_m1 i hi]; simp
