/-! METHODS: the best of the interfaces, the chain, resolution -/
section
variable {T : Nat} {v : ES} {a0 a1 a2 a3 a4 a5 a6 a7 ab : Nat → Int32}
/-- the last of the bits 1 .. m -/
def la (x : Int32) : Nat → Nat
  | 0 => 0
  | m + 1 => if bt x (m + 1) = true then m + 1 else la x m
theorem la_one {x : Int32} {r : Nat} (h1 : 1 ≤ r) (hr : bt x r = true) : ∀ m, r ≤ m → (∀ k, 1 ≤ k → k ≤ m → bt x k = true → k = r) → la x m = r := by
  intro m
  induction m with
  | zero => intro h; exfalso; omega
  | succ m ih =>
    intro h2 h3
    unfold la
    by_cases c : bt x (m + 1) = true
    · rw [if_pos c]; exact h3 _ (by omega) (by omega) c
    · rw [if_neg c]
      refine ih ?_ (fun k k1 k2 k3 => h3 k k1 (by omega) k3)
      by_cases e : r = m + 1
      · rw [e] at hr; exact absurd hr c
      · omega
theorem only_loop {a9 : Nat → Int32} (hT : T ≤ 12) {set x : Int32} {q : Nat} (hx : ∀ j, 1 ≤ j → j ≤ T → (bt x j = true ↔ (bt set j = true ∧ f_R_isAbstract a9 (nI j) (nI q) = 0))) : ∀ (n k : Nat), 13 ≤ k + n → k ≤ T → lr_R_only_8 (nI T) a9 set (nI q) n (nI (cn x k)) (nI (la x k)) (nI (k + 1)) = if cn x T = 1 then nI (la x T) else -(nI (cn x T)) := by
  intro n
  induction n with
  | zero => intro k h1 h2; exfalso; omega
  | succ n ih =>
    intro k h1 h2
    rw [lr_R_only_8_s]
    have hcl := cn_le (x := x) T
    by_cases c : k = T
    · subst c
      rw [if_pos ((ilt_iff (by omega) (by omega)).mpr (by omega))]
      by_cases c1 : cn x k = 1
      · rw [if_pos ((i1_iff (by omega)).mpr c1), if_pos c1]
      · rw [if_neg (fun r => c1 ((i1_iff (by omega)).mp r)), if_neg c1]
    · rw [if_neg (fun r => by have := (ilt_iff (by omega) (by omega)).mp r; omega), nI_1]
      have hk := hx (k + 1) (by omega) (by omega)
      have hyes : bt x (k + 1) = true → cn x (k + 1) = cn x k + 1 ∧ la x (k + 1) = k + 1 := by
        intro hb
        exact ⟨by rw [cn, if_pos hb], by rw [la, if_pos hb]⟩
      have hno : ¬ bt x (k + 1) = true → cn x (k + 1) = cn x k ∧ la x (k + 1) = la x k := by
        intro hb
        exact ⟨by rw [cn, if_neg hb]; rfl, by rw [la, if_neg hb]⟩
      have r := ih (k + 1) (by omega) (by omega)
      by_cases c1 : bt set (k + 1) = true
      · rw [if_neg (fun r => by rw [sb0 (by omega)] at r; rw [r] at c1; cases c1)]
        by_cases c2 : f_R_isAbstract a9 (nI (k + 1)) (nI q) = 0
        · obtain ⟨e1, e2⟩ := hyes (hk.mpr ⟨c1, c2⟩)
          rw [e1, e2] at r
          rw [if_pos c2, nI_1]; exact r
        · obtain ⟨e1, e2⟩ := hno (fun hb => c2 (hk.mp hb).2)
          rw [e1, e2] at r
          rw [if_neg c2]; exact r
      · obtain ⟨e1, e2⟩ := hno (fun hb => c1 (hk.mp hb).1)
        rw [e1, e2] at r
        rw [if_pos ((sb0 (by omega)).mpr (by simpa using c1))]; exact r
theorem neg_nI : ∀ c, c < 14 → 1 ≤ c → -(nI c) < 0 := by decide +kernel
/-- the three ends of the choice among the interfaces -/
theorem best_sp (h : RelW T v.1 a0 a1 a2 a3 a4 a5 a6 a7) (hab : AbOK (FN (v.1.1 5)) ab (T + 1)) {a9 : Nat → Int32} (hm : RelM v.2.2 a9) {i q : Nat} (h1 : 1 ≤ i) (h2 : i ≤ T) (hq : q < 4) : (f_R_only (nI T) a9 (f_R_maximals (nI T) a0 a9 ab (nI i) (nI q)) (nI q) = 0 ∧ f_O_bestOfInterfaces v (nI i) (nI q) = -7) ∨ (∃ r, 1 ≤ r ∧ r ≤ T ∧ f_R_only (nI T) a9 (f_R_maximals (nI T) a0 a9 ab (nI i) (nI q)) (nI q) = nI r ∧ f_O_bestOfInterfaces v (nI i) (nI q) = nI r ∧ bt (f_O_interfaceMethods v (nI i) (nI q)) r = true ∧ eA (a9 (4 * r + q)) = false) ∨ (f_R_only (nI T) a9 (f_R_maximals (nI T) a0 a9 ab (nI i) (nI q)) (nI q) < 0 ∧ f_O_bestOfInterfaces v (nI i) (nI q) = -6) := by
  have hT := h.2.2.1.1
  rw [max_eq h hab hm h1 h2 hq]
  obtain ⟨r0, r1, r2, r3, -, -⟩ := hm q hq
  have hsub := fun (j : Nat) (hj : j < 32) (hb : bt (f_O_maximalSet v (nI i) (nI q)) j = true) => ifm_bit h hm h1 h2 hq hj (max_sub (p1 := 0) (p2 := 0) h hm h1 h2 hq hj hb)
  have hxb : ∀ j, j < 32 → bt ((f_O_maximalSet v (nI i) (nI q)) &&& ((f_M_abstracts v.2.2 (nI q)) ^^^ (-1 : Int32))) j = (bt (f_O_maximalSet v (nI i) (nI q)) j && !(rg j && eA (a9 (4 * j + q)))) := by
    intro j hj
    unfold f_M_abstracts
    rw [not_bits hj, cl (by omega : q < 1000), r2 j hj]
  have hx : ∀ j, 1 ≤ j → j ≤ T → (bt ((f_O_maximalSet v (nI i) (nI q)) &&& ((f_M_abstracts v.2.2 (nI q)) ^^^ (-1 : Int32))) j = true ↔ (bt (f_O_maximalSet v (nI i) (nI q)) j = true ∧ f_R_isAbstract a9 (nI j) (nI q) = 0)) := by
    intro j j1 j2
    rw [hxb j (by omega), rg_1 j1 (by omega)]
    simp only [Bool.and_eq_true, Bool.true_and, Bool.not_eq_true']
    constructor
    · rintro ⟨s1, s2⟩
      have := hsub j (by omega) s1
      exact ⟨s1, (e_abs (by omega) hq this.2.2.2.2.2.1).mpr s2⟩
    · rintro ⟨s1, s2⟩
      have := hsub j (by omega) s1
      exact ⟨s1, (e_abs (by omega) hq this.2.2.2.2.2.1).mp s2⟩
  have hsm : sm ((f_O_maximalSet v (nI i) (nI q)) &&& ((f_M_abstracts v.2.2 (nI q)) ^^^ (-1 : Int32))) := by
    intro j hj hb
    rw [hxb j hj, Bool.and_eq_true] at hb
    have := hsub j hj hb.1
    omega
  have hlo := only_loop (a9 := a9) hT hx 14 0 (by omega) (by omega)
  unfold f_R_only f_O_bestOfInterfaces
  rw [bc_cn hsm]
  generalize hX : (f_O_maximalSet v (nI i) (nI q)) &&& ((f_M_abstracts v.2.2 (nI q)) ^^^ (-1 : Int32)) = x at *
  have hcn : cn x 12 = cn x T := by
    refine cn_hi 12 (fun j j1 j2 => ?_) hT
    cases e : bt x j with
    | false => rfl
    | true =>
      rw [hxb j (by omega), Bool.and_eq_true] at e
      have := hsub j (by omega) e.1
      exfalso; omega
  rw [show cn x 0 = 0 from rfl, show la x 0 = 0 from rfl, nI_0, show nI (0 + 1) = (1 : Int32) from rfl] at hlo
  rw [hlo, hcn]
  have hcl := cn_le (x := x) T
  rcases (by omega : cn x T = 0 ∨ cn x T = 1 ∨ 2 ≤ cn x T) with c | c | c
  · refine Or.inl ⟨?_, ?_⟩
    · rw [if_neg (by omega), c]; decide +kernel
    · rw [if_pos ((i0_iff (by omega)).mpr c)]
  · refine Or.inr (Or.inl ?_)
    obtain ⟨r, g1, g2, g3, g4⟩ := cn_one T c
    refine ⟨r, g1, g2, ?_, ?_, ?_, ?_⟩
    · rw [if_pos c, la_one g1 g3 T g2 g4]
    · rw [if_neg (fun z => by have := (i0_iff (by omega)).mp z; omega), if_pos ((i1_iff (by omega)).mpr c)]
      rcases least_sp (x := x) with ⟨s1, -⟩ | ⟨r', s1, s2, s3, -, s5⟩
      · rw [s1 r g1 (by omega)] at g3; cases g3
      · rw [s5]
        have : r' ≤ T := by
          rw [hxb r' (by omega), Bool.and_eq_true] at s3
          exact (hsub r' (by omega) s3.1).2.2.2.1
        rw [g4 r' s1 this s3]
    · exact max_sub (p1 := 0) (p2 := 0) h hm h1 h2 hq (by omega) ((hx r g1 g2).mp g3).1
    · rw [hxb r (by omega), rg_1 g1 (by omega)] at g3
      simp only [Bool.and_eq_true, Bool.true_and, Bool.not_eq_true'] at g3
      exact g3.2
  · refine Or.inr (Or.inr ⟨?_, ?_⟩)
    · rw [if_neg (by omega)]; exact neg_nI _ (by omega) (by omega)
    · rw [if_neg (fun z => by have := (i0_iff (by omega)).mp z; omega), if_neg (fun z => by have := (i1_iff (by omega)).mp z; omega)]
theorem coded_eq (h : RelW T v.1 a0 a1 a2 a3 a4 a5 a6 a7) (hab : AbOK (FN (v.1.1 5)) ab (T + 1)) {a9 : Nat → Int32} (hm : RelM v.2.2 a9) {i q : Nat} (h1 : 1 ≤ i) (h2 : i ≤ T) (hq : q < 4) : f_R_coded (nI T) a9 (f_R_maximals (nI T) a0 a9 ab (nI i) (nI q)) (nI q) = f_O_bestOfInterfaces v (nI i) (nI q) := by
  have hT := h.2.2.1.1
  unfold f_R_coded
  rcases best_sp h hab hm h1 h2 hq with ⟨e1, e2⟩ | ⟨r, g1, g2, e1, e2, -⟩ | ⟨e1, e2⟩
  · rw [e1, e2]; decide +kernel
  · rw [e1, e2, if_neg (fun z => by have := (ile0_iff (by omega)).mp z; omega)]
  · have hle : f_R_only (nI T) a9 (f_R_maximals (nI T) a0 a9 ab (nI i) (nI q)) (nI q) ≤ 0 := by
      rw [Int32.lt_iff_toInt_lt] at e1
      rw [Int32.le_iff_toInt_le]; omega
    have hne : ¬ f_R_only (nI T) a9 (f_R_maximals (nI T) a0 a9 ab (nI i) (nI q)) (nI q) = 0 := by
      intro z; rw [z] at e1; exact absurd e1 (by decide)
    rw [if_pos hle, if_neg hne, e2]
/-- the chain of a type -/
theorem ch_bit (h : RelW T v.1 a0 a1 a2 a3 a4 a5 a6 a7) {t j : Nat} (h1 : 1 ≤ t) (h2 : t ≤ T) (hj : j < 32) : bt (f_W_chain v.1 (nI t)) j = true ↔ ((FN (v.1.1 5) t j = true ∧ IN a0 j = false) ∨ j = t) := by
  have hT := h.2.2.1.1
  have hs := h.2.2.2.2.1
  unfold f_W_chain FN
  rw [cl (by omega : t < 1000), or_bit (by omega) hj, not_bits hj, hs.2.2 j hj]
  simp only [Bool.or_eq_true, Bool.and_eq_true, Bool.not_eq_true', decide_eq_true_eq]
  constructor
  · rintro (⟨r1, r2⟩ | r)
    · have := F_le h.2.2.1 t h1 h2 j r1
      have h13 : decide (j < 13) = true := by simp; omega
      rw [h13, Bool.true_and] at r2
      exact Or.inl ⟨r1, r2⟩
    · exact Or.inr r
  · rintro (⟨r1, r2⟩ | r)
    · refine Or.inl ⟨r1, ?_⟩
      rw [r2, Bool.and_false]
    · exact Or.inr r
theorem gr_yes (h : RelW T v.1 a0 a1 a2 a3 a4 a5 a6 a7) {t : Nat} (h1 : 1 ≤ t) (h2 : t ≤ T) {x : Int32} (hx : bt x t = true) : f_O_greatestOf (f_W_chain v.1 (nI t) &&& x) = nI t := by
  have hT := h.2.2.1.1
  have hb : bt (f_W_chain v.1 (nI t) &&& x) t = true := by
    rw [b_and, hx, (ch_bit h h1 h2 (by omega)).mpr (Or.inr rfl)]; rfl
  rcases great_sp (x := f_W_chain v.1 (nI t) &&& x) with ⟨s1, -⟩ | ⟨r, s1, s2, s3, s4, s5⟩
  · rw [s1 t h1 (by omega)] at hb; cases hb
  · rw [s5]
    rw [b_and, Bool.and_eq_true] at s3
    have hr : r ≤ t := by
      rcases (ch_bit h h1 h2 (by omega)).mp s3.1 with ⟨g, -⟩ | g
      · exact (F_le h.2.2.1 t h1 h2 r g).2
      · omega
    by_cases e : r = t
    · rw [e]
    · rw [s4 t (by omega) (by omega)] at hb; cases hb
theorem gr_zero {x : Int32} (hx : ∀ j, 1 ≤ j → j ≤ 12 → bt x j = false) : f_O_greatestOf x = 0 := by
  rcases great_sp (x := x) with ⟨-, s⟩ | ⟨r, s1, s2, s3, -, -⟩
  · exact s
  · rw [hx r s1 s2] at s3; cases s3
theorem gr_no (h : RelW T v.1 a0 a1 a2 a3 a4 a5 a6 a7) {t : Nat} (h1 : 1 ≤ t) (h2 : t ≤ T) {x : Int32} (hx : ¬ bt x t = true) (hc : IN a0 t = true ∨ parN a4 t = 0) : f_O_greatestOf (f_W_chain v.1 (nI t) &&& x) = 0 := by
  have hT := h.2.2.1.1
  refine gr_zero (fun j j1 j2 => ?_)
  cases e : bt (f_W_chain v.1 (nI t) &&& x) j with
  | false => rfl
  | true =>
    exfalso
    rw [b_and, Bool.and_eq_true] at e
    have hjt : j ≠ t := fun z => by rw [z] at e; exact hx e.2
    rcases (ch_bit h h1 h2 (by omega)).mp e.1 with ⟨g1, g2⟩ | g
    · rcases hc with hc | hc
      · have := F_ifc h.2.2.1 t h1 h2 hc j g1
        rw [g2] at this; cases this
      · rcases (F_cls h.2.2.1 h1 h2 g2).mp g1 with z | ⟨z, -⟩
        · exact hjt z
        · exact z hc
    · exact hjt g
theorem gr_par (h : RelW T v.1 a0 a1 a2 a3 a4 a5 a6 a7) {t : Nat} (h1 : 1 ≤ t) (h2 : t ≤ T) {x : Int32} (hx : ¬ bt x t = true) (hp : parN a4 t ≠ 0) : f_O_greatestOf (f_W_chain v.1 (nI t) &&& x) = f_O_greatestOf (f_W_chain v.1 (nI (parN a4 t)) &&& x) := by
  have hT := h.2.2.1.1
  have hq := (h.2.2.1.2 t h1 h2).1
  have hpc : IN a0 (parN a4 t) = false := hq.2.1 hp
  congr 1
  refine b_ext (fun j hj => ?_)
  rw [b_and, b_and, Bool.eq_iff_iff, Bool.and_eq_true, Bool.and_eq_true]
  constructor
  · rintro ⟨e1, e2⟩
    refine ⟨?_, e2⟩
    have hjt : j ≠ t := fun z => by rw [z] at e2; exact hx e2
    rcases (ch_bit h h1 h2 hj).mp e1 with ⟨g1, g2⟩ | g
    · rcases (F_cls h.2.2.1 h1 h2 g2).mp g1 with z | ⟨-, z⟩
      · exact absurd z hjt
      · exact (ch_bit h (by omega) (by omega) hj).mpr (Or.inl ⟨z, g2⟩)
    · exact absurd g hjt
  · rintro ⟨e1, e2⟩
    refine ⟨?_, e2⟩
    rcases (ch_bit h (by omega) (by omega) hj).mp e1 with ⟨g1, g2⟩ | g
    · exact (ch_bit h h1 h2 hj).mpr (Or.inl ⟨F_step h.2.2.1 h1 h2 (Or.inl ⟨hp, rfl⟩) g1, g2⟩)
    · subst g
      exact (ch_bit h h1 h2 hj).mpr (Or.inl ⟨F_step h.2.2.1 h1 h2 (Or.inl ⟨hp, rfl⟩) (F_refl h.2.2.1 (by omega) (by omega)), hpc⟩)
/-- what the greatest of the chain is -/
theorem gr_sp (h : RelW T v.1 a0 a1 a2 a3 a4 a5 a6 a7) {t : Nat} (h1 : 1 ≤ t) (h2 : t ≤ T) {x : Int32} : f_O_greatestOf (f_W_chain v.1 (nI t) &&& x) = 0 ∨ ∃ r, 1 ≤ r ∧ r ≤ T ∧ bt x r = true ∧ FN (v.1.1 5) t r = true ∧ f_O_greatestOf (f_W_chain v.1 (nI t) &&& x) = nI r := by
  have hT := h.2.2.1.1
  rcases great_sp (x := f_W_chain v.1 (nI t) &&& x) with ⟨-, s⟩ | ⟨r, s1, s2, s3, s4, s5⟩
  · exact Or.inl s
  · rw [b_and, Bool.and_eq_true] at s3
    have hF : FN (v.1.1 5) t r = true := by
      rcases (ch_bit h h1 h2 (by omega)).mp s3.1 with ⟨g, -⟩ | g
      · exact g
      · rw [g]; exact F_refl h.2.2.1 h1 h2
    have := F_le h.2.2.1 t h1 h2 r hF
    exact Or.inr ⟨r, s1, by omega, s3.2, hF, s5⟩
/-- the walk over the superclasses -/
theorem fm_loop (h : RelW T v.1 a0 a1 a2 a3 a4 a5 a6 a7) {a9 : Nat → Int32} (hm : RelM v.2.2 a9) {b1 kd p : Int32} {q : Nat} (hq : q < 4) : ∀ (n t : Nat), 1 ≤ t → t ≤ T → t + 1 ≤ n → (IN a0 t = decide (¬ kd = 1)) → (f_O_greatestOf (f_W_chain v.1 (nI t) &&& v.2.2 0 q) = 0 ∧ lr_R_findMethod_3 (nI T) b1 a0 a4 a9 ab kd p (nI q) n (nI t) = f_R_findAbove (nI T) b1 a0 a9 ab p (nI q) ∧ lb1_R_findMethod_3 (nI T) b1 a0 a4 a9 ab kd p (nI q) n (nI t) = s_R_findAbove_b1 (nI T) b1 a0 a9 ab p (nI q)) ∨ (¬ f_O_greatestOf (f_W_chain v.1 (nI t) &&& v.2.2 0 q) = 0 ∧ lr_R_findMethod_3 (nI T) b1 a0 a4 a9 ab kd p (nI q) n (nI t) = f_O_greatestOf (f_W_chain v.1 (nI t) &&& v.2.2 0 q) ∧ lb1_R_findMethod_3 (nI T) b1 a0 a4 a9 ab kd p (nI q) n (nI t) = 1) := by
  have hT := h.2.2.1.1
  have hpa := h.2.2.2.2.2.2.2.1
  have h0 : (0 : Int32) ≤ 0 := by decide
  intro n
  induction n with
  | zero => intro t h1 h2 h3; exfalso; omega
  | succ n ih =>
    intro t h1 h2 h3 h4
    have hneg : ¬ nI t ≤ 0 := fun r => by have := (ile0_iff (by omega)).mp r; omega
    rw [lr_R_findMethod_3_s, lb1_R_findMethod_3_s, if_neg hneg, if_neg hneg]
    by_cases c : bt (v.2.2 0 q) t = true
    · have hn : ¬ f_R_has a9 (nI t) (nI q) = 0 := by
        rw [e_has (by omega) hq]
        rw [own_iff hm h1 (by omega) hq] at c
        unfold eH; simpa using c
      rw [if_neg hn, if_neg hn, gr_yes h h1 h2 c]
      exact Or.inr ⟨fun r => by have := (i0_iff (by omega)).mp r; omega, rfl, rfl⟩
    · have hy : f_R_has a9 (nI t) (nI q) = 0 := by
        rw [e_has (by omega) hq]
        rw [own_iff hm h1 (by omega) hq] at c
        unfold eH; simpa using c
      rw [if_pos hy, if_pos hy]
      have hstop : ∀ m, 1 ≤ m → lr_R_findMethod_3 (nI T) b1 a0 a4 a9 ab kd p (nI q) m 0 = f_R_findAbove (nI T) b1 a0 a9 ab p (nI q) ∧ lb1_R_findMethod_3 (nI T) b1 a0 a4 a9 ab kd p (nI q) m 0 = s_R_findAbove_b1 (nI T) b1 a0 a9 ab p (nI q) := by
        intro m hm1
        obtain ⟨m, rfl⟩ : ∃ k, m = k + 1 := ⟨m - 1, by omega⟩
        rw [lr_R_findMethod_3_s, lb1_R_findMethod_3_s, if_pos h0, if_pos h0]
        exact ⟨rfl, rfl⟩
      by_cases c2 : kd = 1
      · rw [if_pos c2, if_pos c2, cl (by omega : t < 1000), par_nI hpa (by omega)]
        have hcl : IN a0 t = false := by rw [h4]; simp [c2]
        by_cases c3 : parN a4 t = 0
        · rw [c3, nI_0, (hstop n (by omega)).1, (hstop n (by omega)).2, gr_no h h1 h2 c (Or.inr c3)]
          exact Or.inl ⟨rfl, rfl, rfl⟩
        · have hq2 := (h.2.2.1.2 t h1 h2).1
          rw [gr_par h h1 h2 c c3]
          exact ih (parN a4 t) (by omega) (by omega) (by omega) (by rw [hq2.2.1 c3]; simp [c2])
      · rw [if_neg c2, if_neg c2, (hstop n (by omega)).1, (hstop n (by omega)).2, gr_no h h1 h2 c (Or.inl (by rw [h4]; simp [c2]))]
        exact Or.inl ⟨rfl, rfl, rfl⟩
theorem fa_loop {a9 : Nat → Int32} {p1 p2 x : Int32} (hx : f_R_candidates (nI T) a0 a9 ab p1 p2 = x) : ∀ (n k l : Nat) (yb : Int32), k + 1 ≤ n → k ≤ 12 → ((∀ j, 1 ≤ j → j ≤ k → bt x j = false) → lr_R_findAbove_40 (nI T) a0 a9 ab p1 p2 n (nI l) (nI k) yb = nI l) ∧ (∀ r, 1 ≤ r → r ≤ k → bt x r = true → (∀ j, 1 ≤ j → j < r → bt x j = false) → lr_R_findAbove_40 (nI T) a0 a9 ab p1 p2 n (nI l) (nI k) yb = nI r) ∧ lb1_R_findAbove_40 (nI T) a0 a9 ab p1 p2 n (nI l) (nI k) yb = yb + nI (cn x k) := by
  intro n
  induction n with
  | zero => intro k l yb h1; exfalso; omega
  | succ n ih =>
    intro k l yb h1 h2
    rw [lr_R_findAbove_40_s, lb1_R_findAbove_40_s, hx]
    cases k with
    | zero =>
      have h0 : nI 0 ≤ (0 : Int32) := by decide
      rw [if_pos h0, if_pos h0]
      refine ⟨fun _ => rfl, fun r r1 r2 => by exfalso; omega, ?_⟩
      rw [show cn x 0 = 0 from rfl, nI_0, Int32.add_zero]
    | succ k =>
      have hneg : ¬ nI (k + 1) ≤ 0 := fun r => by have := (ile0_iff (by omega)).mp r; omega
      rw [if_neg hneg, if_neg hneg, pk_m1]
      by_cases c : bt x (k + 1) = true
      · have c' : ¬ ((x >>> (nI (k + 1) &&& (31 : Int32))) &&& (1 : Int32)) = (0 : Int32) := fun r => by rw [sb0 (by omega)] at r; rw [r] at c; cases c
        rw [if_neg c', if_neg c']
        obtain ⟨i1, i2, i3⟩ := ih k (k + 1) (yb + 1) (by omega) (by omega)
        refine ⟨fun hh => ?_, fun r r1 r2 r3 r4 => ?_, ?_⟩
        · rw [hh (k + 1) (by omega) (by omega)] at c; cases c
        · by_cases e : r = k + 1
          · rw [i1 (fun j j1 j2 => r4 j j1 (by omega)), e]
          · exact i2 r r1 (by omega) r3 r4
        · rw [i3, cn, if_pos c, Int32.add_assoc]
          congr 1
          rw [show (1 : Int32) = nI 1 from rfl, nI_add, Nat.add_comm]
      · have c' : ((x >>> (nI (k + 1) &&& (31 : Int32))) &&& (1 : Int32)) = (0 : Int32) := (sb0 (by omega)).mpr (by simpa using c)
        rw [if_pos c', if_pos c']
        obtain ⟨i1, i2, i3⟩ := ih k l yb (by omega) (by omega)
        refine ⟨fun hh => i1 (fun j j1 j2 => hh j j1 (by omega)), fun r r1 r2 r3 r4 => ?_, ?_⟩
        · by_cases e : r = k + 1
          · rw [e] at r3; exact absurd r3 c
          · exact i2 r r1 (by omega) r3 r4
        · rw [i3, cn, if_neg c]; rfl
end
