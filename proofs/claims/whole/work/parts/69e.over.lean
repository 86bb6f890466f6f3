/-! OVERRIDING: the class's reaching set and the reference's table -/
section
variable {T : Nat} {I : Nat → Bool} {par dn : Nat → Nat} {dr : Nat → Nat → Nat} {F : Nat → Nat → Bool}
/-- the classes above a class stand in a line -/
theorem F_lin (h : Wd T I par dn dr F) : ∀ (i : Nat), 1 ≤ i → i ≤ T → ∀ x y, I x = false → I y = false → F i x = true → F i y = true → x ≤ y → F y x = true := by
  intro i
  induction i using Nat.strongRecOn with
  | _ i ih =>
    intro h1 h2 x y hx hy fx fy hxy
    have hyl := F_le h i h1 h2 y fy
    rcases (F_cls h h1 h2 hy).mp fy with e | ⟨hp, fy2⟩
    · rw [e]; exact fx
    · rcases (F_cls h h1 h2 hx).mp fx with e | ⟨-, fx2⟩
      · have hq := (h.2 i h1 h2).1
        have := F_le h (par i) (by omega) (by omega) y fy2
        omega
      · have hq := (h.2 i h1 h2).1
        exact ih (par i) hq.1 (by omega) (by omega) x y hx hy fx2 fy2 hxy
/-- the rule: what it is for a class's method to override another, with the table tb at hand for what stands between -/
def OvR (I : Nat → Bool) (F : Nat → Nat → Bool) (ins : Nat → Bool) (acc : Nat → Nat) (pk : Nat → Int32) (tb : Nat → Nat → Prop) (c a : Nat) : Prop :=
  ins c = true ∧ ins a = true ∧ F c a = true ∧ (c = a ∨ (acc c ≠ 0 ∧ acc a ≠ 0 ∧ (1 < acc a ∨ pk c = pk a ∨ ∃ b, F c b = true ∧ b ≠ c ∧ I b = false ∧ F b a = true ∧ b ≠ a ∧ tb b a ∧ tb c b)))
/-- at once -/
def At1 (acc : Nat → Nat) (pk : Nat → Int32) (c a : Nat) : Prop := acc c ≠ 0 ∧ (1 < acc a ∨ (acc a = 1 ∧ pk c = pk a))
variable {ins : Nat → Bool} {acc : Nat → Nat} {pk : Nat → Int32} {tb : Nat → Nat → Prop}
/-- tb keeps the rule at the classes -/
def OvT (T : Nat) (I : Nat → Bool) (F : Nat → Nat → Bool) (ins : Nat → Bool) (acc : Nat → Nat) (pk : Nat → Int32) (tb : Nat → Nat → Prop) : Prop := ∀ c a, 1 ≤ c → c ≤ T → I c = false → 1 ≤ a → a ≤ T → (tb c a ↔ OvR I F ins acc pk tb c a)
theorem ov_at1 (hO : OvT T I F ins acc pk tb) {c a : Nat} (c1 : 1 ≤ c) (c2 : c ≤ T) (hc : I c = false) (a1 : 1 ≤ a) (a2 : a ≤ T) (ic : ins c = true) (ia : ins a = true) (hf : F c a = true) (h : At1 acc pk c a) : tb c a := by
  refine (hO c a c1 c2 hc a1 a2).mpr ⟨ic, ia, hf, Or.inr ⟨h.1, ?_, ?_⟩⟩
  · rcases h.2 with r | r <;> omega
  · rcases h.2 with r | r
    · exact Or.inl r
    · exact Or.inr (Or.inl r.2)
theorem ov_trans (h : Wd T I par dn dr F) (hO : OvT T I F ins acc pk tb) {c b a : Nat} (c1 : 1 ≤ c) (c2 : c ≤ T) (hc : I c = false) (b1 : 1 ≤ b) (b2 : b ≤ T) (hb : I b = false) (a1 : 1 ≤ a) (a2 : a ≤ T) (h1 : tb c b) (h2 : tb b a) : tb c a := by
  by_cases e1 : c = b
  · rw [e1]; exact h2
  · by_cases e2 : b = a
    · rw [← e2]; exact h1
    · obtain ⟨ic, ib, fcb, r1⟩ := (hO c b c1 c2 hc b1 b2).mp h1
      obtain ⟨-, ia, fba, r2⟩ := (hO b a b1 b2 hb a1 a2).mp h2
      rcases r1 with z | ⟨x1, x2, -⟩
      · exact absurd z e1
      · rcases r2 with z | ⟨y1, y2, -⟩
        · exact absurd z e2
        · exact (hO c a c1 c2 hc a1 a2).mpr ⟨ic, ia, F_trans h c c1 c2 b fcb fba, Or.inr ⟨x1, y2, Or.inr (Or.inr ⟨b, fcb, fun z => e1 z.symm, hb, fba, e2, h2, h1⟩)⟩⟩
/-- there is a last step that needs nothing between -/
theorem ov_last (h : Wd T I par dn dr F) (hO : OvT T I F ins acc pk tb) {t a : Nat} (t1 : 1 ≤ t) (t2 : t ≤ T) (ht : I t = false) (a1 : 1 ≤ a) (a2 : a ≤ T) : ∀ (n s : Nat), t ≤ s + n → 1 ≤ s → s ≠ t → F t s = true → (s = a ∨ (I s = false ∧ F s a = true)) → tb s a ∨ s = a → tb t s → ∃ s', 1 ≤ s' ∧ s' < t ∧ (s' = a ∨ (I s' = false ∧ F t s' = true ∧ F s' a = true ∧ ins s' = true ∧ tb s' a)) ∧ At1 acc pk t s' := by
  intro n
  induction n with
  | zero =>
    intro s h1 h2 h3 h4
    have := F_le h t t1 t2 s h4
    exfalso; omega
  | succ n ih =>
    intro s h1 s1 h3 h4 h5 h6 h7
    have hsl := F_le h t t1 t2 s h4
    obtain ⟨it, is, -, r⟩ := (hO t s t1 t2 ht s1 (by omega)).mp h7
    rcases r with z | ⟨x1, x2, x3⟩
    · exact absurd z.symm h3
    · have hfin : At1 acc pk t s → ∃ s', 1 ≤ s' ∧ s' < t ∧ (s' = a ∨ (I s' = false ∧ F t s' = true ∧ F s' a = true ∧ ins s' = true ∧ tb s' a)) ∧ At1 acc pk t s' := by
        intro hat
        refine ⟨s, s1, by omega, ?_, hat⟩
        rcases h5 with e | ⟨e1, e2⟩
        · exact Or.inl e
        · rcases h6 with q | q
          · exact Or.inr ⟨e1, h4, e2, is, q⟩
          · exact Or.inl q
      rcases x3 with z | z | ⟨b, q1, q2, q3, q4, q5, q6, q7⟩
      · exact hfin ⟨x1, Or.inl z⟩
      · by_cases c : acc s = 1
        · exact hfin ⟨x1, Or.inr ⟨c, z⟩⟩
        · exact hfin ⟨x1, Or.inl (by omega)⟩
      · have hbl := F_le h t t1 t2 b q1
        have hbs := F_le h b hbl.1 (by omega) s q4
        have hfa : F b a = true := by
          rcases h5 with e | ⟨-, e2⟩
          · rw [← e]; exact q4
          · exact F_trans h b hbl.1 (by omega) s q4 e2
        have hba : tb b a := by
          rcases h5 with e | ⟨e1, e2⟩
          · rw [← e]; exact q6
          · rcases h6 with z | z
            · exact ov_trans h hO hbl.1 (by omega) q3 s1 (by omega) e1 a1 a2 q6 z
            · rw [← z]; exact q6
        exact ih b (by omega) hbl.1 q2 q1 (Or.inr ⟨q3, hfa⟩) (Or.inl hba) q7
/-- one type more of the reaching set -/
theorem ov_one (h : Wd T I par dn dr F) (hO : OvT T I F ins acc pk tb) {c t a : Nat} (c1 : 1 ≤ c) (c2 : c ≤ T) (hc : I c = false) (t1 : 1 ≤ t) (t2 : t ≤ T) (ht : I t = false) (a1 : 1 ≤ a) (a2 : a ≤ T) (hat : a < t) (it : ins t = true) (ia : ins a = true) (fct : F c t = true) (fta : F t a = true) : (∃ s, 1 ≤ s ∧ s < t ∧ (s = a ∨ (a < s ∧ F c s = true ∧ I s = false ∧ F s a = true ∧ ins s = true ∧ tb s a)) ∧ At1 acc pk t s) ↔ tb t a := by
  constructor
  · rintro ⟨s, s1, s2, hs, h4⟩
    rcases hs with e | ⟨e0, e1, e2, e3, e4, e5⟩
    · rw [e] at h4
      exact ov_at1 hO t1 t2 ht a1 a2 it ia fta h4
    · have fts : F t s = true := F_lin h c c1 c2 s t e2 ht e1 fct (by omega)
      exact ov_trans h hO t1 t2 ht s1 (by omega) e2 a1 a2 (ov_at1 hO t1 t2 ht s1 (by omega) it e4 fts h4) e5
  · intro hta
    obtain ⟨s, s1, s2, s3, s4⟩ := ov_last h hO t1 t2 ht a1 a2 t a (by omega) a1 (by omega) fta (Or.inl rfl) (Or.inr rfl) hta
    refine ⟨s, s1, s2, ?_, s4⟩
    rcases s3 with e | ⟨e1, e2, e3, e4, e5⟩
    · exact Or.inl e
    · by_cases e : s = a
      · exact Or.inl e
      · have := F_le h s s1 (by omega) a e3
        exact Or.inr ⟨by omega, F_trans h c c1 c2 t fct e2, e1, e3, e4, e5⟩
end
section
variable {T : Nat} {v : ES} {a0 a1 a2 a3 a4 a5 a6 a7 : Nat → Int32}
def insB (a9 : Nat → Int32) (q i : Nat) : Bool := eH (a9 (4 * i + q)) && !eS (a9 (4 * i + q))
def accN (a9 : Nat → Int32) (q i : Nat) : Nat := (a9 (4 * i + q) &&& 3).toNatClampNeg
theorem acc_fact {a9 : Nat → Int32} {q i : Nat} (hk : eK (a9 (4 * i + q))) (he : eH (a9 (4 * i + q)) = true) : a9 (4 * i + q) &&& 3 = nI (accN a9 q i) ∧ accN a9 q i < 4 := by
  unfold accN
  rcases hk with e | ⟨c, f, hc, hf, e⟩
  · rw [e, e_m1.1] at he; cases he
  · rw [e, (e_fact c hc f hf).2.2.2.2.1, cl (by omega)]
    exact ⟨rfl, hc⟩
theorem ins_bit {m : MS} {a9 : Nat → Int32} (hm : RelM m a9) {q j : Nat} (hq : q < 4) (hj : j < 32) : bt (f_M_instances m (nI q)) j = (rg j && insB a9 q j) := by
  obtain ⟨r0, r1, -⟩ := hm q hq
  unfold f_M_instances insB
  rw [cl (by omega : q < 1000), not_bits hj, r0 j hj, r1 j hj]
  cases rg j <;> simp
theorem ko_loop (h : RelW T v.1 a0 a1 a2 a3 a4 a5 a6 a7) {p : Nat} (hp : p < 13) : ∀ (n k : Nat) (x : Int32), 14 ≤ k + n → k ≤ T + 1 → ∀ j, j < 32 → (bt (lr_W_kindsOf v.1 (nI p) n x (nI k)) j = true ↔ (bt x j = true ∨ (k ≤ j ∧ j ≤ T ∧ FN (v.1.1 5) j p = true))) := by
  have hT := h.2.2.1.1
  intro n
  induction n with
  | zero => intro k x h1 h2; exfalso; omega
  | succ n ih =>
    intro k x h1 h2 j hj
    rw [lr_W_kindsOf_s, h.1]
    by_cases c : T < k
    · rw [if_pos ((ilt_iff (by omega) (by omega)).mpr c)]
      exact ⟨fun q => Or.inl q, fun q => q.elim id (fun q => by exfalso; omega)⟩
    · rw [if_neg (fun q => c ((ilt_iff (by omega) (by omega)).mp q)), cl (by omega : k < 1000), nI_1]
      by_cases c1 : bt (v.1.1 5 k) p = true
      · rw [if_neg ((hb1 (by omega)).mpr c1), ih (k + 1) _ (by omega) (by omega) j hj, or_bit (by omega) hj]
        simp only [Bool.or_eq_true, decide_eq_true_eq]
        constructor
        · rintro ((r | r) | ⟨r1, r2⟩)
          · exact Or.inl r
          · subst r; exact Or.inr ⟨by omega, by omega, c1⟩
          · exact Or.inr ⟨by omega, r2⟩
        · rintro (r | ⟨r1, r2⟩)
          · exact Or.inl (Or.inl r)
          · by_cases e : j = k
            · exact Or.inl (Or.inr e)
            · exact Or.inr ⟨by omega, r2⟩
      · rw [if_pos ((hb0 (by omega)).mpr (by simpa using c1)), ih (k + 1) _ (by omega) (by omega) j hj]
        constructor
        · rintro (r | ⟨r1, r2⟩)
          · exact Or.inl r
          · exact Or.inr ⟨by omega, r2⟩
        · rintro (r | ⟨r1, r2, r3⟩)
          · exact Or.inl r
          · by_cases e : j = k
            · rw [e] at r3; exact absurd r3 c1
            · exact Or.inr ⟨by omega, r2, r3⟩
theorem ao_eq (h : RelW T v.1 a0 a1 a2 a3 a4 a5 a6 a7) {a9 : Nat → Int32} (hm : RelM v.2.2 a9) {t s q : Nat} (t1 : 1 ≤ t) (t2 : t ≤ T) (s1 : 1 ≤ s) (s2 : s ≤ T) (hq : q < 4) (ht : eH (a9 (4 * t + q)) = true) (hs : eH (a9 (4 * s + q)) = true) : ¬ f_O_overridesAtOnce v (nI t) (nI s) (nI q) = 0 ↔ At1 (accN a9 q) a3 t s := by
  have hT := h.2.2.1.1
  obtain ⟨q0, q1, q2, q3, q4⟩ := h.2.1
  obtain ⟨et, lt⟩ := acc_fact ((hm q hq).2.2.2.2.2 t (by omega)) ht
  obtain ⟨es, ls⟩ := acc_fact ((hm q hq).2.2.2.2.2 s (by omega)) hs
  unfold f_O_overridesAtOnce f_W_samePackage At1
  rw [acc_eq hm t1 (by omega) hq ht, acc_eq hm s1 (by omega) hq hs, et, es, q1, cl (by omega : t < 1000), cl (by omega : s < 1000)]
  by_cases c : accN a9 q t = 0
  · rw [if_pos ((i0_iff (by omega)).mpr c)]
    exact ⟨fun z => absurd rfl z, fun z => absurd c z.1⟩
  · rw [if_neg (fun z => c ((i0_iff (by omega)).mp z))]
    rcases (by omega : accN a9 q s = 0 ∨ accN a9 q s = 1 ∨ accN a9 q s = 2 ∨ accN a9 q s = 3) with e | e | e | e
    · rw [e, if_neg (by decide), if_neg (by decide), if_neg (by decide)]
      exact ⟨fun z => absurd rfl z, fun z => by exfalso; omega⟩
    · rw [e, if_pos (by decide)]
      by_cases cp : a3 t = a3 s
      · rw [if_pos cp]; exact ⟨fun _ => ⟨c, Or.inr ⟨rfl, cp⟩⟩, fun _ => by decide⟩
      · rw [if_neg cp]; exact ⟨fun z => absurd rfl z, fun z => z.2.elim (fun y => by exfalso; omega) (fun y => absurd y.2 cp)⟩
    · rw [e, if_neg (by decide), if_pos (by decide)]
      exact ⟨fun _ => ⟨c, Or.inl (by omega)⟩, fun _ => by decide⟩
    · rw [e, if_neg (by decide), if_neg (by decide), if_pos (by decide)]
      exact ⟨fun _ => ⟨c, Or.inl (by omega)⟩, fun _ => by decide⟩
theorem oo_loop {p1 p3 x : Int32} {t : Nat} (ht : t < 13) (hp : p1 = nI t) : ∀ (n k : Nat), 14 ≤ k + n → 1 ≤ k → k ≤ t → (¬ lr_O_overridesOneOf v p1 x p3 n (nI k) = 0 ↔ ∃ s, k ≤ s ∧ s < t ∧ bt x s = true ∧ ¬ f_O_overridesAtOnce v (nI t) (nI s) p3 = 0) := by
  subst hp
  intro n
  induction n with
  | zero => intro k h1 h2 h3; exfalso; omega
  | succ n ih =>
    intro k h1 h2 h3
    rw [lr_O_overridesOneOf_s]
    by_cases c : t ≤ k
    · rw [if_pos ((ile_iff (by omega) (by omega)).mpr c)]
      refine ⟨fun z => absurd rfl z, ?_⟩
      rintro ⟨s, r1, r2, -⟩
      exfalso; omega
    · rw [if_neg (fun z => c ((ile_iff (by omega) (by omega)).mp z)), nI_1]
      have no : ¬ (bt x k = true ∧ ¬ f_O_overridesAtOnce v (nI t) (nI k) p3 = 0) → (¬ lr_O_overridesOneOf v (nI t) x p3 n (nI (k + 1)) = 0 ↔ ∃ s, k ≤ s ∧ s < t ∧ bt x s = true ∧ ¬ f_O_overridesAtOnce v (nI t) (nI s) p3 = 0) := by
        intro hn
        rw [ih (k + 1) (by omega) (by omega) (by omega)]
        constructor
        · rintro ⟨s, r1, r2⟩
          exact ⟨s, by omega, r2⟩
        · rintro ⟨s, r1, r2, r3⟩
          by_cases e : s = k
          · rw [e] at r3; exact absurd r3 hn
          · exact ⟨s, by omega, r2, r3⟩
      by_cases c1 : bt x k = true
      · rw [if_neg ((hb1 (by omega)).mpr c1)]
        by_cases c2 : f_O_overridesAtOnce v (nI t) (nI k) p3 = 0
        · rw [if_pos c2]; exact no (fun z => z.2 c2)
        · rw [if_neg c2]
          exact ⟨fun _ => ⟨k, by omega, by omega, c1, c2⟩, fun _ => by decide⟩
      · rw [if_pos ((hb0 (by omega)).mpr (by simpa using c1))]; exact no (fun z => c1 z.1)
theorem co_loop (h : RelW T v.1 a0 a1 a2 a3 a4 a5 a6 a7) {a9 : Nat → Int32} (hm : RelM v.2.2 a9) {tb : Nat → Nat → Prop} {q : Nat} (hq : q < 4) (hO : OvT T (IN a0) (FN (v.1.1 5)) (insB a9 q) (accN a9 q) a3 tb) {c a : Nat} (c1 : 1 ≤ c) (c2 : c ≤ T) (hc : IN a0 c = false) (a1 : 1 ≤ a) (a2 : a ≤ T) (ia : insB a9 q a = true) : ∀ (n t : Nat) (x : Int32), 14 ≤ t + n → a < t → (t ≤ c + 1 ∨ t = a + 1) → (∀ u, u < 32 → (bt x u = true ↔ (u = a ∨ (a < u ∧ u < t ∧ u ≤ c ∧ FN (v.1.1 5) c u = true ∧ IN a0 u = false ∧ FN (v.1.1 5) u a = true ∧ insB a9 q u = true ∧ tb u a)))) → (¬ lr_O_canOverride v (nI c) (nI a) (nI q) n x (nI t) = 0 ↔ (c = a ∨ (a < c ∧ FN (v.1.1 5) c a = true ∧ insB a9 q c = true ∧ tb c a))) := by
  have hw := h.2.2.1
  have hT := hw.1
  have eHi : ∀ i, insB a9 q i = true → eH (a9 (4 * i + q)) = true := by
    intro i hi
    unfold insB at hi
    rw [Bool.and_eq_true] at hi; exact hi.1
  have hkb : ∀ j, j < 32 → (bt (f_W_kindsOf v.1 (nI a)) j = true ↔ (a ≤ j ∧ j ≤ T ∧ FN (v.1.1 5) j a = true)) := by
    intro j hj
    unfold f_W_kindsOf
    rw [ko_loop h (by omega) 14 a 0 (by omega) (by omega) j hj, b_0]
    simp
  have hbel : ∀ t, a < t → t ≤ c → (bt (((f_W_chain v.1 (nI c)) &&& (f_W_kindsOf v.1 (nI a))) &&& (f_M_instances v.2.2 (nI q))) t = true ↔ (FN (v.1.1 5) c t = true ∧ IN a0 t = false ∧ FN (v.1.1 5) t a = true ∧ insB a9 q t = true)) := by
    intro t h1 h2
    rw [b_and, b_and, Bool.and_eq_true, Bool.and_eq_true, ch_bit h c1 c2 (by omega), hkb t (by omega), ins_bit hm hq (by omega), rg_1 (by omega) (by omega), Bool.true_and]
    constructor
    · rintro ⟨⟨r1, r2⟩, r3⟩
      rcases r1 with ⟨s1, s2⟩ | s
      · exact ⟨s1, s2, r2.2.2, r3⟩
      · subst s
        exact ⟨F_refl hw c1 c2, hc, r2.2.2, r3⟩
    · rintro ⟨r1, r2, r3, r4⟩
      exact ⟨⟨Or.inl ⟨r1, r2⟩, by omega, by omega, r3⟩, r4⟩
  intro n
  induction n with
  | zero => intro t x h1 h2 h3; exfalso; omega
  | succ n ih =>
    intro t x h1 h2 h3 hx
    rw [lr_O_canOverride_s]
    by_cases ct : c < t
    · rw [if_pos ((ilt_iff (by omega) (by omega)).mpr ct), hb1 (by omega), hx c (by omega)]
      constructor
      · rintro (r | ⟨r1, r2, r3, r4, r5, r6, r7, r8⟩)
        · exact Or.inl r
        · exact Or.inr ⟨r1, r6, r7, r8⟩
      · rintro (r | ⟨r1, r6, r7, r8⟩)
        · exact Or.inl r
        · exact Or.inr ⟨r1, by omega, by omega, F_refl hw c1 c2, hc, r6, r7, r8⟩
    · rw [if_neg (fun z => ct ((ilt_iff (by omega) (by omega)).mp z)), nI_1]
      have htc : t ≤ c := by omega
      have hkeep : ¬ (FN (v.1.1 5) c t = true ∧ IN a0 t = false ∧ FN (v.1.1 5) t a = true ∧ insB a9 q t = true ∧ tb t a) → ∀ u, u < 32 → (bt x u = true ↔ (u = a ∨ (a < u ∧ u < t + 1 ∧ u ≤ c ∧ FN (v.1.1 5) c u = true ∧ IN a0 u = false ∧ FN (v.1.1 5) u a = true ∧ insB a9 q u = true ∧ tb u a))) := by
        intro hn u hu
        rw [hx u hu]
        constructor
        · rintro (r | ⟨r1, r2, r3⟩)
          · exact Or.inl r
          · exact Or.inr ⟨r1, by omega, r3⟩
        · rintro (r | ⟨r1, r2, r3, r4⟩)
          · exact Or.inl r
          · by_cases e : u = t
            · rw [e] at r4; exact absurd r4 hn
            · exact Or.inr ⟨r1, by omega, r3, r4⟩
      by_cases cb : bt (((f_W_chain v.1 (nI c)) &&& (f_W_kindsOf v.1 (nI a))) &&& (f_M_instances v.2.2 (nI q))) t = true
      · obtain ⟨g1, g2, g3, g4⟩ := (hbel t h2 htc).mp cb
        rw [if_neg ((hb1 (by omega)).mpr cb)]
        have hone := ov_one hw hO c1 c2 hc (by omega) (by omega) g2 a1 a2 h2 g4 ia g1 g3
        have hol := oo_loop (v := v) (x := x) (p3 := nI q) (show t < 13 by omega) rfl 14 1 (by omega) (by omega) (by omega)
        rw [show nI 1 = (1 : Int32) from rfl] at hol
        have hiff : ¬ f_O_overridesOneOf v (nI t) x (nI q) = 0 ↔ tb t a := by
          unfold f_O_overridesOneOf
          rw [hol, ← hone]
          constructor
          · rintro ⟨s, r1, r2, r3, r4⟩
            rw [hx s (by omega)] at r3
            have his : insB a9 q s = true := by
              rcases r3 with e | e
              · rw [e]; exact ia
              · exact e.2.2.2.2.2.2.1
            rw [ao_eq h hm (by omega) (by omega) r1 (by omega) hq (eHi t g4) (eHi s his)] at r4
            refine ⟨s, r1, r2, ?_, r4⟩
            rcases r3 with e | ⟨e1, e2, e3, e4, e5, e6, e7, e8⟩
            · exact Or.inl e
            · exact Or.inr ⟨e1, e4, e5, e6, e7, e8⟩
          · rintro ⟨s, r1, r2, r3, r4⟩
            have his : insB a9 q s = true := by
              rcases r3 with e | e
              · rw [e]; exact ia
              · exact e.2.2.2.2.1
            refine ⟨s, r1, r2, ?_, (ao_eq h hm (by omega) (by omega) r1 (by omega) hq (eHi t g4) (eHi s his)).mpr r4⟩
            rw [hx s (by omega)]
            rcases r3 with e | ⟨e1, e4, e5, e6, e7, e8⟩
            · exact Or.inl e
            · exact Or.inr ⟨e1, r2, by omega, e4, e5, e6, e7, e8⟩
        by_cases co : f_O_overridesOneOf v (nI t) x (nI q) = 0
        · rw [if_pos co]
          exact ih (t + 1) x (by omega) (by omega) (by omega) (hkeep (fun z => hiff.mpr z.2.2.2.2 co))
        · rw [if_neg co]
          refine ih (t + 1) _ (by omega) (by omega) (by omega) (fun u hu => ?_)
          rw [or_bit (by omega) hu, Bool.or_eq_true, decide_eq_true_eq, hx u hu]
          constructor
          · rintro ((r | ⟨r1, r2, r3⟩) | r)
            · exact Or.inl r
            · exact Or.inr ⟨r1, by omega, r3⟩
            · subst r; exact Or.inr ⟨h2, by omega, htc, g1, g2, g3, g4, hiff.mp co⟩
          · rintro (r | ⟨r1, r2, r3⟩)
            · exact Or.inl (Or.inl r)
            · by_cases e : u = t
              · exact Or.inr e
              · exact Or.inl (Or.inr ⟨r1, by omega, r3⟩)
      · rw [if_pos ((hb0 (by omega)).mpr (by simpa using cb))]
        exact ih (t + 1) x (by omega) (by omega) (by omega) (hkeep (fun z => cb ((hbel t h2 htc).mpr ⟨z.1, z.2.1, z.2.2.1, z.2.2.2.1⟩)))
theorem co_eq (h : RelW T v.1 a0 a1 a2 a3 a4 a5 a6 a7) {a9 : Nat → Int32} (hm : RelM v.2.2 a9) {tb : Nat → Nat → Prop} {q : Nat} (hq : q < 4) (hO : OvT T (IN a0) (FN (v.1.1 5)) (insB a9 q) (accN a9 q) a3 tb) {c a : Nat} (c1 : 1 ≤ c) (c2 : c ≤ T) (hc : IN a0 c = false) (a1 : 1 ≤ a) (a2 : a ≤ T) : ¬ f_O_canOverride v (nI c) (nI a) (nI q) = 0 ↔ tb c a := by
  have hw := h.2.2.1
  have hT := hw.1
  have hib : bt (f_M_instances v.2.2 (nI q)) a = insB a9 q a := by rw [ins_bit hm hq (by omega), rg_1 a1 (by omega), Bool.true_and]
  have hr := hO c a c1 c2 hc a1 a2
  unfold f_O_canOverride
  by_cases ci : insB a9 q a = true
  · rw [if_neg ((hb1 (by omega)).mpr (by rw [hib]; exact ci)), nI_1]
    have hl := co_loop h hm hq hO c1 c2 hc a1 a2 ci 14 (a + 1) ((1 : Int32) <<< (nI a &&& (31 : Int32))) (by omega) (by omega) (Or.inr rfl) (fun u hu => by
      rw [one_shl (by omega) hu, decide_eq_true_eq]
      constructor
      · intro e; exact Or.inl e
      · rintro (e | ⟨e1, e2, -⟩)
        · exact e
        · exfalso; omega)
    rw [hl]
    constructor
    · rintro (e | ⟨-, -, -, e⟩)
      · subst e
        exact hr.mpr ⟨ci, ci, F_refl hw c1 c2, Or.inl rfl⟩
      · exact e
    · intro hh
      obtain ⟨g1, g2, g3, g4⟩ := hr.mp hh
      by_cases e : c = a
      · exact Or.inl e
      · have := F_le hw c c1 c2 a g3
        exact Or.inr ⟨by omega, g3, g1, hh⟩
  · rw [if_pos ((hb0 (by omega)).mpr (by rw [hib]; simpa using ci))]
    exact ⟨fun z => absurd rfl z, fun z => absurd (hr.mp z).2.1 ci⟩
end
