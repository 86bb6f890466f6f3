/-! members: put and drop, field, method, untell -/
theorem e_fact : ∀ c, c < 4 → ∀ f, f < 3 → eH (nI (c + 4 * f)) = true ∧ eS (nI (c + 4 * f)) = decide (f = 1) ∧ eA (nI (c + 4 * f)) = decide (f = 2) ∧ eP (nI (c + 4 * f)) = decide (c = 0) ∧ (nI (c + 4 * f)) &&& 3 = nI c ∧ nI c + (4 : Int32) * nI f = nI (c + 4 * f) := by decide +kernel
theorem e_m1 : eH (-1) = false ∧ eS (-1) = false ∧ eA (-1) = false ∧ eP (-1) = false := by decide +kernel
theorem set_upd {x x' e : Int32} {g : Int32 → Bool} {a : Nat → Int32} {i q : Nat} (hi1 : 1 ≤ i) (hi2 : i < 13) (hx : ∀ j, j < 32 → bt x j = (rg j && g (a (4 * j + q)))) (hx' : ∀ j, j < 32 → bt x' j = ((bt x j && !decide (j = i)) || (decide (j = i) && g e))) : ∀ j, j < 32 → bt x' j = (rg j && g (upd a (4 * i + q) e (4 * j + q))) := by
  intro j hj
  rw [hx' j hj, hx j hj]
  by_cases h : j = i
  · subst h
    have : rg j = true := by unfold rg; simp; omega
    rw [upd_at, this]
    simp
  · rw [upd_ne (by omega)]
    simp [h]
theorem relM_upd {m m' : MS} {a : Nat → Int32} {e : Int32} (h : RelM m a) {i q : Nat} (hi1 : 1 ≤ i) (hi2 : i < 13) (hq : q < 4) (hk : eK e) (hne : ∀ q', q' ≠ q → m' 0 q' = m 0 q' ∧ m' 1 q' = m 1 q' ∧ m' 2 q' = m 2 q' ∧ m' 3 q' = m 3 q') (h0 : ∀ j, j < 32 → bt (m' 0 q) j = ((bt (m 0 q) j && !decide (j = i)) || (decide (j = i) && eH e))) (h1 : ∀ j, j < 32 → bt (m' 1 q) j = ((bt (m 1 q) j && !decide (j = i)) || (decide (j = i) && eS e))) (h2 : ∀ j, j < 32 → bt (m' 2 q) j = ((bt (m 2 q) j && !decide (j = i)) || (decide (j = i) && eA e))) (h3 : ∀ j, j < 32 → bt (m' 3 q) j = ((bt (m 3 q) j && !decide (j = i)) || (decide (j = i) && eP e))) (h4 : ∀ k, k ≠ 4 * i + q → m' 4 k = m 4 k) (h5 : eH e = true → m' 4 (4 * i + q) = e &&& 3) : RelM m' (upd a (4 * i + q) e) := by
  intro q' hq'
  obtain ⟨r0, r1, r2, r3, r4, r5⟩ := h q' hq'
  by_cases eq : q' = q
  · subst eq
    refine ⟨set_upd hi1 hi2 r0 h0, set_upd hi1 hi2 r1 h1, set_upd hi1 hi2 r2 h2, set_upd hi1 hi2 r3 h3, fun j j1 j2 hj => ?_, fun j hj => ?_⟩
    · by_cases ej : j = i
      · subst ej
        rw [upd_at] at hj ⊢
        exact h5 hj
      · rw [upd_ne (by omega)] at hj ⊢
        rw [h4 _ (by omega)]
        exact r4 j j1 j2 hj
    · by_cases ej : j = i
      · subst ej
        rw [upd_at]; exact hk
      · rw [upd_ne (by omega)]; exact r5 j hj
  · obtain ⟨n0, n1, n2, n3⟩ := hne q' eq
    refine ⟨fun j hj => ?_, fun j hj => ?_, fun j hj => ?_, fun j hj => ?_, fun j j1 j2 hj => ?_, fun j hj => ?_⟩
    · rw [n0, upd_ne (by omega)]; exact r0 j hj
    · rw [n1, upd_ne (by omega)]; exact r1 j hj
    · rw [n2, upd_ne (by omega)]; exact r2 j hj
    · rw [n3, upd_ne (by omega)]; exact r3 j hj
    · rw [upd_ne (by omega)] at hj ⊢
      rw [h4 _ (by omega)]
      exact r4 j j1 j2 hj
    · rw [upd_ne (by omega)]; exact r5 j hj
theorem relM_drop {m : MS} {a : Nat → Int32} (h : RelM m a) {i q : Nat} (hi1 : 1 ≤ i) (hi2 : i < 13) (hq : q < 4) : RelM (s_M_drop m (nI i) (nI q)) (upd a (4 * i + q) (-1)) := by
  unfold s_M_drop
  rw [cl (by omega : q < 1000)]
  refine relM_upd h hi1 hi2 hq (Or.inl rfl) (fun q' hq' => ⟨upd_ne hq', upd_ne hq', upd_ne hq', upd_ne hq'⟩) (fun j hj => ?_) (fun j hj => ?_) (fun j hj => ?_) (fun j hj => ?_) (fun k _ => rfl) (fun hh => ?_)
  · show bt (upd (m 0) q _ q) j = _
    rw [upd_at, no_bit (by omega) hj, e_m1.1]; simp
  · show bt (upd (m 1) q _ q) j = _
    rw [upd_at, no_bit (by omega) hj, e_m1.2.1]; simp
  · show bt (upd (m 2) q _ q) j = _
    rw [upd_at, no_bit (by omega) hj, e_m1.2.2.1]; simp
  · show bt (upd (m 3) q _ q) j = _
    rw [upd_at, no_bit (by omega) hj, e_m1.2.2.2]; simp
  · rw [e_m1.1] at hh; cases hh
theorem put_on {g : Nat → Int32} {i q : Nat} (hi : i < 32) {b : Bool} (hb : b = true) : ∀ j, j < 32 → bt (upd (upd g q (g q &&& (((1 : Int32) <<< (nI i &&& (31 : Int32))) ^^^ (-1 : Int32)))) q ((upd g q (g q &&& (((1 : Int32) <<< (nI i &&& (31 : Int32))) ^^^ (-1 : Int32)))) q ||| ((1 : Int32) <<< (nI i &&& (31 : Int32)))) q) j = ((bt (g q) j && !decide (j = i)) || (decide (j = i) && b)) := by
  intro j hj
  rw [upd_at, upd_at, or_bit hi hj, no_bit hi hj, hb]; simp
theorem put_off {g : Nat → Int32} {i q : Nat} (hi : i < 32) {b : Bool} (hb : b = false) : ∀ j, j < 32 → bt (upd g q (g q &&& (((1 : Int32) <<< (nI i &&& (31 : Int32))) ^^^ (-1 : Int32))) q) j = ((bt (g q) j && !decide (j = i)) || (decide (j = i) && b)) := by
  intro j hj
  rw [upd_at, no_bit hi hj, hb]; simp
theorem put_ne {g : Nat → Int32} {q q' : Nat} {x y : Int32} (h : q' ≠ q) : upd (upd g q x) q y q' = g q' := by rw [upd_ne h, upd_ne h]
theorem relM_put {m : MS} {a : Nat → Int32} (h : RelM m a) {i q c f : Nat} (hi1 : 1 ≤ i) (hi2 : i < 13) (hq : q < 4) (hc : c < 4) (hf : f < 3) : RelM (s_M_put m (nI i) (nI q) (nI c) (nI f)) (upd a (4 * i + q) (nI (c + 4 * f))) := by
  obtain ⟨z1, z2, z3, z4, z5, -⟩ := e_fact c hc f hf
  have hi : i < 32 := by omega
  unfold s_M_put
  have e1 : nI f = (1 : Int32) ↔ f = 1 := i1_iff (by omega)
  have e2 : nI f = (2 : Int32) ↔ f = 2 := by rw [show (2 : Int32) = nI 2 from rfl]; exact ieq_iff (by omega) (by omega)
  have e3 : nI c = (0 : Int32) ↔ c = 0 := i0_iff (by omega)
  simp only [e1, e2, e3]
  rw [cl4' hi2 hq]
  unfold s_M_drop
  rw [cl (by omega : q < 1000)]
  by_cases c1 : f = 1
  · have c2 : ¬ f = 2 := by omega
    by_cases c3 : c = 0
    · simp only [if_pos c1, if_neg c2, if_pos c3]
      exact relM_upd h hi1 hi2 hq (Or.inr ⟨c, f, hc, hf, rfl⟩) (fun q' hq' => ⟨put_ne hq', put_ne hq', upd_ne hq', put_ne hq'⟩) (put_on hi z1) (put_on hi (by rw [z2]; simp [c1])) (put_off hi (by rw [z3]; simp [c2])) (put_on hi (by rw [z4]; simp [c3])) (fun k hk => upd_ne hk) (fun _ => upd_at.trans z5.symm)
    · simp only [if_pos c1, if_neg c2, if_neg c3]
      exact relM_upd h hi1 hi2 hq (Or.inr ⟨c, f, hc, hf, rfl⟩) (fun q' hq' => ⟨put_ne hq', put_ne hq', upd_ne hq', upd_ne hq'⟩) (put_on hi z1) (put_on hi (by rw [z2]; simp [c1])) (put_off hi (by rw [z3]; simp [c2])) (put_off hi (by rw [z4]; simp [c3])) (fun k hk => upd_ne hk) (fun _ => upd_at.trans z5.symm)
  · by_cases c2 : f = 2
    · by_cases c3 : c = 0
      · simp only [if_neg c1, if_pos c2, if_pos c3]
        exact relM_upd h hi1 hi2 hq (Or.inr ⟨c, f, hc, hf, rfl⟩) (fun q' hq' => ⟨put_ne hq', upd_ne hq', put_ne hq', put_ne hq'⟩) (put_on hi z1) (put_off hi (by rw [z2]; simp [c1])) (put_on hi (by rw [z3]; simp [c2])) (put_on hi (by rw [z4]; simp [c3])) (fun k hk => upd_ne hk) (fun _ => upd_at.trans z5.symm)
      · simp only [if_neg c1, if_pos c2, if_neg c3]
        exact relM_upd h hi1 hi2 hq (Or.inr ⟨c, f, hc, hf, rfl⟩) (fun q' hq' => ⟨put_ne hq', upd_ne hq', put_ne hq', upd_ne hq'⟩) (put_on hi z1) (put_off hi (by rw [z2]; simp [c1])) (put_on hi (by rw [z3]; simp [c2])) (put_off hi (by rw [z4]; simp [c3])) (fun k hk => upd_ne hk) (fun _ => upd_at.trans z5.symm)
    · by_cases c3 : c = 0
      · simp only [if_neg c1, if_neg c2, if_pos c3]
        exact relM_upd h hi1 hi2 hq (Or.inr ⟨c, f, hc, hf, rfl⟩) (fun q' hq' => ⟨put_ne hq', upd_ne hq', upd_ne hq', put_ne hq'⟩) (put_on hi z1) (put_off hi (by rw [z2]; simp [c1])) (put_off hi (by rw [z3]; simp [c2])) (put_on hi (by rw [z4]; simp [c3])) (fun k hk => upd_ne hk) (fun _ => upd_at.trans z5.symm)
      · simp only [if_neg c1, if_neg c2, if_neg c3]
        exact relM_upd h hi1 hi2 hq (Or.inr ⟨c, f, hc, hf, rfl⟩) (fun q' hq' => ⟨put_ne hq', upd_ne hq', upd_ne hq', upd_ne hq'⟩) (put_on hi z1) (put_off hi (by rw [z2]; simp [c1])) (put_off hi (by rw [z3]; simp [c2])) (put_off hi (by rw [z4]; simp [c3])) (fun k hk => upd_ne hk) (fun _ => upd_at.trans z5.symm)
theorem relI_put {T : Nat} {a0 a9 : Nat → Int32} {e : Int32} (h : RelI T a0 a9) {i q : Nat} (i2 : i ≤ T) (hq : q < 4) (he : IN a0 i = true → eH e = true → (e &&& 3 = 0 ∨ e &&& 3 = 3)) : RelI T a0 (upd a9 (4 * i + q) e) := by
  intro j q' h1 h2 hq'
  obtain ⟨r1, r2⟩ := h j q' h1 h2 hq'
  by_cases c : 4 * j + q' = 4 * i + q
  · have : j = i := by omega
    subst this
    rw [c, upd_at]
    exact ⟨fun h3 => by exfalso; omega, fun _ h4 h5 => he h4 h5⟩
  · rw [upd_ne c]; exact ⟨r1, r2⟩
theorem q_field {v : ES} {lc b0 b1 : Int32} {a0 a1 a2 a3 a4 a5 a6 a7 a8 a9 a11 : Nat → Int32} (h : Rel v lc b0 b1 a0 a1 a2 a3 a4 a5 a6 a7 a8 a9 a11) {p1 p2 p3 p4 : Int32} : f_O_field v p1 p2 p3 p4 = f_R_field b0 a0 a8 p1 p2 p3 p4 ∧ Rel (s_O_field v p1 p2 p3 p4) lc b0 b1 a0 a1 a2 a3 a4 a5 a6 a7 (s_R_field_a8 b0 a0 a8 p1 p2 p3 p4) a9 a11 := by
  have h' := h
  obtain ⟨⟨T, rfl, hw⟩, hl, hm1, hm2, hz⟩ := h
  have hT := hw.2.2.1.1
  unfold f_O_field f_R_field s_O_field s_R_field_a8
  rw [has_there hw.1, name_eq, access_eq]
  by_cases c1 : f_R_there (nI T) p1 = (0 : Int32)
  · simp only [if_pos c1]; exact ⟨by trivial, h'⟩
  · simp only [if_neg c1]
    by_cases c2 : f_R_in p2 (0 : Int32) (3 : Int32) = (0 : Int32)
    · simp only [if_pos c2]; exact ⟨by trivial, h'⟩
    · simp only [if_neg c2]
      by_cases c3 : f_R_in p3 (0 : Int32) (3 : Int32) = (0 : Int32)
      · simp only [if_pos c3]; exact ⟨by trivial, h'⟩
      · simp only [if_neg c3]
        obtain ⟨i, rfl, i1, i2⟩ := there_k hT c1
        obtain ⟨q, rfl, hq⟩ := name_k c2
        obtain ⟨c, rfl, hc⟩ := name_k c3
        have hi : i < 13 := by omega
        rw [ifc_iff hw i1 i2, cl (by omega : i < 1000), cl4 hi hq]
        have f0 : nI c + (0 : Int32) < 8 := (by decide +kernel : ∀ c, c < 4 → nI c + (0 : Int32) < 8) c hc
        have f1 : nI c + (4 : Int32) < 8 := (by decide +kernel : ∀ c, c < 4 → nI c + (4 : Int32) < 8) c hc
        have g0 : RelM (s_M_put v.2.1 (nI i) (nI q) (nI c) (0 : Int32)) (upd a8 (4 * i + q) (nI c + (0 : Int32))) := by
          have := relM_put hm1 i1 hi hq hc (show 0 < 3 by omega)
          rw [Int32.add_zero]; exact this
        have g1 : RelM (s_M_put v.2.1 (nI i) (nI q) (nI c) (1 : Int32)) (upd a8 (4 * i + q) (nI c + (4 : Int32))) := by
          have := relM_put hm1 i1 hi hq hc (show 1 < 3 by omega)
          rw [show (4 : Int32) = nI 4 from rfl, nI_add]; exact this
        by_cases c4 : a0 i = 0
        · simp only [if_pos c4]
          by_cases c5 : p4 = 0
          · simp only [if_pos c5]; exact ⟨by trivial, ⟨T, rfl, hw⟩, hl, g0, hm2, hz.1, hz.2.1, hz.2.2.put f0⟩
          · simp only [if_neg c5]; exact ⟨by trivial, ⟨T, rfl, hw⟩, hl, g1, hm2, hz.1, hz.2.1, hz.2.2.put f1⟩
        · simp only [if_neg c4]
          by_cases c6 : nI c = (3 : Int32)
          · simp only [if_pos c6]
            by_cases c5 : p4 = 0
            · simp only [if_pos c5]; exact ⟨by trivial, h'⟩
            · simp only [if_neg c5]; exact ⟨by trivial, ⟨T, rfl, hw⟩, hl, g1, hm2, hz.1, hz.2.1, hz.2.2.put f1⟩
          · simp only [if_neg c6]; exact ⟨by trivial, h'⟩
theorem q_method {v : ES} {lc b0 b1 : Int32} {a0 a1 a2 a3 a4 a5 a6 a7 a8 a9 a11 : Nat → Int32} (h : Rel v lc b0 b1 a0 a1 a2 a3 a4 a5 a6 a7 a8 a9 a11) {p1 p2 p3 p4 : Int32} : f_O_method v p1 p2 p3 p4 = f_R_method b0 a0 a9 p1 p2 p3 p4 ∧ Rel (s_O_method v p1 p2 p3 p4) lc b0 b1 a0 a1 a2 a3 a4 a5 a6 a7 a8 (s_R_method_a9 b0 a0 a9 p1 p2 p3 p4) a11 := by
  have h' := h
  obtain ⟨⟨T, rfl, hw⟩, hl, hm1, hm2, hz⟩ := h
  have hT := hw.2.2.1.1
  unfold f_O_method f_R_method s_O_method s_R_method_a9
  rw [has_there hw.1, name_eq, access_eq, form_eq]
  by_cases c1 : f_R_there (nI T) p1 = (0 : Int32)
  · simp only [if_pos c1]; exact ⟨by trivial, h'⟩
  · simp only [if_neg c1]
    by_cases c2 : f_R_in p2 (0 : Int32) (3 : Int32) = (0 : Int32)
    · simp only [if_pos c2]; exact ⟨by trivial, h'⟩
    · simp only [if_neg c2]
      by_cases c3 : f_R_in p3 (0 : Int32) (3 : Int32) = (0 : Int32)
      · simp only [if_pos c3]; exact ⟨by trivial, h'⟩
      · simp only [if_neg c3]
        by_cases c0 : f_R_in p4 (0 : Int32) (2 : Int32) = (0 : Int32)
        · simp only [if_pos c0]; exact ⟨by trivial, h'⟩
        · simp only [if_neg c0]
          obtain ⟨i, rfl, i1, i2⟩ := there_k hT c1
          obtain ⟨q, rfl, hq⟩ := name_k c2
          obtain ⟨c, rfl, hc⟩ := name_k c3
          obtain ⟨f, rfl, hf⟩ := in_k3 (m := 2) (by decide +kernel) (by omega) c0
          have hi : i < 13 := by omega
          rw [ifc_iff hw i1 i2, cl (by omega : i < 1000), cl4 hi hq, (e_fact c hc f (by omega)).2.2.2.2.2]
          have g0 : RelM (s_M_put v.2.2 (nI i) (nI q) (nI c) (nI f)) (upd a9 (4 * i + q) (nI (c + 4 * f))) := relM_put hm2 i1 hi hq hc (by omega)
          have g : (a0 i = 0 ∨ nI c = 0 ∨ nI c = 3) → Rel (v.1, v.2.1, s_M_put v.2.2 (nI i) (nI q) (nI c) (nI f)) lc (nI T) b1 a0 a1 a2 a3 a4 a5 a6 a7 a8 (upd a9 (4 * i + q) (nI (c + 4 * f))) a11 := fun hcc => ⟨⟨T, rfl, hw⟩, hl, hm1, g0, hz.1, RelX.mk hT (relI_put (hz.2.1 T hT rfl) i2 hq (fun hI _ => by rw [(e_fact c hc f (by omega)).2.2.2.2.1]; rcases hcc with r | r | r; exact absurd r (by unfold IN at hI; simpa using hI); exact Or.inl r; exact Or.inr r)), hz.2.2⟩
          by_cases c4 : a0 i = 0 <;> by_cases c5 : nI f = (2 : Int32) <;> by_cases c6 : nI c = (0 : Int32) <;> by_cases c7 : nI c = (3 : Int32)
          all_goals first | (rw [c6] at c7; exact absurd c7 (by decide)) | (simp only [c4, c5, c6, c7, ↓reduceIte]; exact ⟨by trivial, h'⟩) | (have g := g (by first | exact Or.inl c4 | exact Or.inr (Or.inl c6) | exact Or.inr (Or.inr c7)); simp only [c4, c5, c6, c7, ↓reduceIte] at g ⊢; exact ⟨by trivial, g⟩)
theorem has_eH {m : MS} {a : Nat → Int32} (h : RelM m a) {i q : Nat} (hi1 : 1 ≤ i) (hi2 : i < 13) (hq : q < 4) : f_M_has m (nI i) (nI q) = 0 ↔ a (4 * i + q) < 0 := by
  unfold f_M_has
  rw [cl (by omega : q < 1000), hb0 (by omega), (h q hq).1 i (by omega)]
  have : rg i = true := by unfold rg; simp; omega
  rw [this]
  unfold eH
  simp
theorem q_untell {v : ES} {lc b0 b1 : Int32} {a0 a1 a2 a3 a4 a5 a6 a7 a8 a9 a11 : Nat → Int32} (h : Rel v lc b0 b1 a0 a1 a2 a3 a4 a5 a6 a7 a8 a9 a11) {p1 p2 p3 : Int32} : f_O_untell v p1 p2 p3 = f_R_untell b0 a8 a9 p1 p2 p3 ∧ Rel (s_O_untell v p1 p2 p3) lc b0 b1 a0 a1 a2 a3 a4 a5 a6 a7 (s_R_untell_a8 b0 a8 a9 p1 p2 p3) (s_R_untell_a9 b0 a8 a9 p1 p2 p3) a11 := by
  have h' := h
  obtain ⟨⟨T, rfl, hw⟩, hl, hm1, hm2, hz⟩ := h
  have hT := hw.2.2.1.1
  unfold f_O_untell f_R_untell s_O_untell s_R_untell_a8 s_R_untell_a9
  rw [has_there hw.1, name_eq]
  by_cases c1 : f_R_there (nI T) p1 = (0 : Int32)
  · simp only [if_pos c1]; exact ⟨by trivial, h'⟩
  · simp only [if_neg c1]
    by_cases c2 : f_R_in p3 (0 : Int32) (3 : Int32) = (0 : Int32)
    · simp only [if_pos c2]
      split <;> exact ⟨by trivial, h'⟩
    · simp only [if_neg c2]
      obtain ⟨i, rfl, i1, i2⟩ := there_k hT c1
      obtain ⟨q, rfl, hq⟩ := name_k c2
      have hi : i < 13 := by omega
      have hn : ∀ e : Int32, (0 : Int32) ≤ e ↔ ¬ e < 0 := fun e => by rw [Int32.le_iff_toInt_le, Int32.lt_iff_toInt_lt]; omega
      rw [cl4 hi hq]
      by_cases c3 : p2 = (0 : Int32)
      · subst c3
        have c3' : ¬ f_R_in (0 : Int32) (0 : Int32) (1 : Int32) = 0 := by decide +kernel
        simp only [if_neg c3', ↓reduceIte]
        by_cases c4 : a8 (4 * i + q) < 0
        · simp only [if_pos ((has_eH hm1 i1 hi hq).mpr c4), if_neg (fun r => (hn _).mp r c4)]; exact ⟨by trivial, h'⟩
        · simp only [if_neg (fun r => c4 ((has_eH hm1 i1 hi hq).mp r)), if_pos ((hn _).mpr c4)]
          exact ⟨by trivial, ⟨T, rfl, hw⟩, hl, relM_drop hm1 i1 hi hq, hm2, hz.1, hz.2.1, hz.2.2.put (by decide)⟩
      · simp only [if_neg c3]
        by_cases c5 : p2 = (1 : Int32)
        · subst c5
          have c3' : ¬ f_R_in (1 : Int32) (0 : Int32) (1 : Int32) = 0 := by decide +kernel
          simp only [if_neg c3', ↓reduceIte]
          by_cases c4 : a9 (4 * i + q) < 0
          · simp only [if_pos ((has_eH hm2 i1 hi hq).mpr c4), if_neg (fun r => (hn _).mp r c4)]; exact ⟨by trivial, h'⟩
          · simp only [if_neg (fun r => c4 ((has_eH hm2 i1 hi hq).mp r)), if_pos ((hn _).mpr c4)]
            exact ⟨by trivial, ⟨T, rfl, hw⟩, hl, hm1, relM_drop hm2 i1 hi hq, hz.1, RelX.mk hT (relI_put (hz.2.1 T hT rfl) i2 hq (fun _ h5 => by rw [e_m1.1] at h5; cases h5)), hz.2.2⟩
        · have c6 : f_R_in p2 (0 : Int32) (1 : Int32) = 0 := by
            refine Decidable.byContradiction (fun r => ?_)
            obtain ⟨k, rfl, hk⟩ := in_k3 (m := 1) (by decide +kernel) (by omega) r
            rcases (by omega : k = 0 ∨ k = 1) with rfl | rfl
            · exact c3 rfl
            · exact c5 rfl
          simp only [if_neg c5, if_pos c6]; exact ⟨by trivial, h'⟩
