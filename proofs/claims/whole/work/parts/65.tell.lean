/-! TELLING: the calls that change the world keep the relation, with equal answers -/
theorem Wd_add {T : Nat} {I I' : Nat → Bool} {par par' dn : Nat → Nat} {dr : Nat → Nat → Nat} {F F' : Nat → Nat → Bool} (h : Wd T I par dn dr F) (hT : T < 12) (eI : ∀ i, i ≤ T → I' i = I i) (eP : ∀ i, i ≤ T → par' i = par i) (eF : ∀ i, i ≤ T → ∀ j, F' i j = F i j) (hd : dn (T + 1) = 0) {k : Nat} (hk : par' (T + 1) = k) (hk1 : k ≤ T) (hk2 : k ≠ 0 → I k = false) (hk3 : I' (T + 1) = true → k = 0) (hF : ∀ j, F' (T + 1) j = true ↔ (j = T + 1 ∨ (k ≠ 0 ∧ F k j = true))) : Wd (T + 1) I' par' dn dr F' := by
  refine ⟨by omega, fun i h1 h2 => ?_⟩
  by_cases e : i = T + 1
  · subst e
    refine ⟨⟨by omega, fun h3 => ?_, fun h3 => ?_⟩, ⟨by omega, fun k' h3 => by exfalso; omega⟩, fun j => ?_⟩
    · rw [hk] at h3 ⊢
      rw [eI k hk1]; exact hk2 h3
    · rw [hk]; exact hk3 h3
    · rw [hF j]
      constructor
      · rintro (h3 | ⟨h3, h4⟩)
        · exact Or.inl h3
        · exact Or.inr ⟨k, Or.inl ⟨by rw [hk]; exact h3, hk.symm⟩, by rw [eF k hk1]; exact h4⟩
      · rintro (h3 | ⟨s, (⟨h3, h4⟩ | ⟨k', h3, -⟩), h5⟩)
        · exact Or.inl h3
        · rw [hk] at h3 h4
          subst h4
          rw [eF s hk1] at h5
          exact Or.inr ⟨h3, h5⟩
        · exfalso; omega
  · have hi : i ≤ T := by omega
    obtain ⟨⟨a1, a2, a3⟩, ⟨a4, a5⟩, a6⟩ := h.2 i h1 hi
    refine ⟨⟨by rw [eP i hi]; exact a1, fun h3 => ?_, fun h3 => ?_⟩, ⟨a4, fun k' h3 => ?_⟩, fun j => ?_⟩
    · rw [eP i hi] at h3 ⊢
      rw [eI _ (by omega)]; exact a2 h3
    · rw [eP i hi]; rw [eI i hi] at h3; exact a3 h3
    · have := a5 k' h3
      rw [eI _ (by omega)]; exact this
    · rw [eF i hi, a6 j]
      constructor
      · rintro (h3 | ⟨s, h4, h5⟩)
        · exact Or.inl h3
        · have h6 := St_lt h h1 hi h4
          refine Or.inr ⟨s, ?_, by rw [eF s h6.2.2]; exact h5⟩
          rcases h4 with ⟨h7, h8⟩ | q
          · exact Or.inl (by rw [eP i hi]; exact ⟨h7, h8⟩)
          · exact Or.inr q
      · rintro (h3 | ⟨s, h4, h5⟩)
        · exact Or.inl h3
        · have h4' : St par dn dr i s := by
            rcases h4 with ⟨h7, h8⟩ | q
            · rw [eP i hi] at h7 h8
              exact Or.inl ⟨h7, h8⟩
            · exact Or.inr q
          have h6 := St_lt h h1 hi h4'
          exact Or.inr ⟨s, h4', by rw [eF s h6.2.2] at h5; exact h5⟩
theorem nar_01 {x : Int32} (h : x = 0 ∨ x = 1) : vp_nar .boolean x = x := by
  rcases h with rfl | rfl <;> decide +kernel
theorem in_upd1 {a : Nat → Int32} {k j : Nat} {x : Int32} : IN (upd a k x) j = if j = k then decide (¬ x = 0) else IN a j := by
  unfold IN upd
  by_cases e : j = k
  · simp [e]
  · simp [e]
/-- a type more -/
theorem rel_add {T : Nat} {w w' : WS} {a0 a1 a2 a3 a4 a5 a6 a7 c0 c1 c2 c4 : Nat → Int32} (h : RelW T w a0 a1 a2 a3 a4 a5 a6 a7) (hT : T < 12) {k : Nat} {p : Int32} (hk1 : k ≤ T) (hk2 : k ≠ 0 → a0 k = 0) {zi zp zf : Int32} (hzi : zi = 0 ∨ zi = 1) (hk3 : ¬ zi = 0 → k = 0) (e0 : c0 = upd a0 (T + 1) zi) (e1 : c1 = upd a1 (T + 1) zp) (e2 : c2 = upd a2 (T + 1) zf) (e4 : c4 = upd a4 (T + 1) (nI k)) (w3 : w'.2 3 = nI (T + 1)) (f0 : w'.1 0 = upd a4 (T + 1) (nI k)) (f1 : w'.1 1 = upd a3 (T + 1) p) (f2 : w'.1 2 = upd a5 (T + 1) (nI (T + 1))) (f3 : w'.1 3 = a7) (f4 : w'.1 4 = a6) (f5 : w'.1 5 = upd (w.1 5) (T + 1) (w.1 5 k ||| ((1 : Int32) <<< (nI (T + 1) &&& (31 : Int32))))) (g0 : ∀ j, j < 32 → bt (w'.2 0) j = (bt (w.2 0) j || (decide (j = T + 1) && decide (¬ zp = 0)))) (g1 : ∀ j, j < 32 → bt (w'.2 1) j = (bt (w.2 1) j || (decide (j = T + 1) && decide (¬ zf = 0)))) (g2 : ∀ j, j < 32 → bt (w'.2 2) j = (bt (w.2 2) j || (decide (j = T + 1) && decide (¬ zi = 0)))) : RelW (T + 1) w' c0 c1 c2 (upd a3 (T + 1) p) c4 (upd a5 (T + 1) (nI (T + 1))) a6 a7 := by
  subst e0; subst e1; subst e2; subst e4
  obtain ⟨h1, ⟨q0, q1, q2, q3, q4⟩, hw, hf0, ⟨s0, s1, s2⟩, hfr, h01, hpa, hdi, hdc⟩ := h
  have hfT := hfr (T + 1) (by omega) (Or.inr (by omega))
  have hfl : ∀ (x x' z : Int32) (a : Nat → Int32), a (T + 1) = 0 → (∀ j, j < 32 → bt x j = (decide (j < 13) && IN a j)) → (∀ j, j < 32 → bt x' j = (bt x j || (decide (j = T + 1) && decide (¬ z = 0)))) → ∀ j, j < 32 → bt x' j = (decide (j < 13) && IN (upd a (T + 1) z) j) := by
    intro x x' z a ha hx hx' j hj
    rw [hx' j hj, hx j hj, in_upd1]
    by_cases e : j = T + 1
    · subst e
      have : IN a (T + 1) = false := by unfold IN; simp [ha]
      rw [this]
      simp [show T + 1 < 13 by omega]
    · simp [e]
  refine ⟨w3, ⟨f0, f1, f2, f3, f4⟩, ?_, ?_, ⟨hfl _ _ _ _ hfT.2.2.2.1 s0 g0, hfl _ _ _ _ hfT.2.2.2.2 s1 g1, hfl _ _ _ _ hfT.2.2.1 s2 g2⟩, ?_, ?_, ?_, hdi, hdc⟩
  · refine Wd_add hw hT (fun i hi => ?_) (fun i hi => ?_) (fun i hi j => ?_) ?_ (k := k) ?_ hk1 (fun h3 => ?_) (fun h3 => ?_) (fun j => ?_)
    · rw [in_upd1, if_neg (by omega)]
    · unfold parN; rw [upd_ne (by omega)]
    · unfold FN; rw [f5, upd_ne (by omega)]
    · unfold dnN; rw [hfT.2.1]; decide +kernel
    · unfold parN; rw [upd_at]; exact cl (by omega)
    · unfold IN; simp [hk2 h3]
    · rw [in_upd1, if_pos rfl] at h3
      exact hk3 (by simpa using h3)
    · unfold FN
      rw [f5, upd_at, b_or]
      rcases Nat.lt_or_ge j 32 with hj | hj
      · rw [one_shl (by omega) hj]
        simp only [Bool.or_eq_true, decide_eq_true_eq]
        by_cases ek : k = 0
        · subst ek
          rw [hf0, b_0]
          simp
        · simp only [ne_eq, ek, not_false_eq_true, true_and]
          exact Or.comm
      · rw [b_big hj, b_big hj]
        constructor
        · intro q; cases q
        · rintro (q | ⟨-, q⟩)
          · exfalso; omega
          · exact q
  · rw [f5, upd_ne (by omega)]; exact hf0
  · intro i hi ho
    have h2 := hfr i hi (by omega)
    refine ⟨by rw [upd_ne (by omega)]; exact h2.1, h2.2.1, by rw [upd_ne (by omega)]; exact h2.2.2.1, by rw [upd_ne (by omega)]; exact h2.2.2.2.1, by rw [upd_ne (by omega)]; exact h2.2.2.2.2⟩
  · intro i hi
    by_cases e : i = T + 1
    · rw [e, upd_at]; exact hzi
    · rw [upd_ne e]; exact h01 i hi
  · intro i hi
    by_cases e : i = T + 1
    · exact ⟨k, by rw [e, upd_at], by omega, Or.inl (by omega)⟩
    · rw [upd_ne e]; exact hpa i hi
theorem relI_add {T : Nat} {a0 c0 a9 : Nat → Int32} (h : RelI T a0 a9) (e : ∀ i, i ≤ T → c0 i = a0 i) : RelI (T + 1) c0 a9 := by
  intro i q h1 h2 hq
  obtain ⟨r1, r2⟩ := h i q h1 h2 hq
  refine ⟨fun h3 => r1 (by omega), fun h3 h4 h5 => ?_⟩
  by_cases c : i ≤ T
  · refine r2 c ?_ h5
    unfold IN at h4 ⊢
    rw [e i c] at h4; exact h4
  · rw [r1 (by omega)] at h5
    exact absurd h5 (by decide +kernel)
theorem upd_self {a : Nat → Int32} {k : Nat} {x : Int32} (h : a k = x) : upd a k x = a := by
  funext j
  unfold upd
  split
  · rename_i e; rw [e, h]
  · rfl
theorem or_pub {x : Int32} {k : Nat} (hk : k < 32) : ∀ j, j < 32 → bt (x ||| ((1 : Int32) <<< (nI k &&& (31 : Int32)))) j = (bt x j || (decide (j = k) && decide (¬ (1 : Int32) = 0))) := by
  intro j hj
  rw [or_bit hk hj]
  simp
theorem or_non {x : Int32} {k : Nat} : ∀ j, j < 32 → bt x j = (bt x j || (decide (j = k) && decide (¬ (0 : Int32) = 0))) := by
  intro j hj
  simp
theorem rel_addClass {T : Nat} {w : WS} {a0 a1 a2 a3 a4 a5 a6 a7 : Nat → Int32} (h : RelW T w a0 a1 a2 a3 a4 a5 a6 a7) (hT : T < 12) {k : Nat} {p zp zf : Int32} (hk1 : k ≤ T) (hk2 : k ≠ 0 → a0 k = 0) (hp : zp = 0 ∨ zp = 1) (hf : zf = 0 ∨ zf = 1) : RelW (T + 1) (s_W_addClass w (nI k) p zp zf) a0 (upd a1 (T + 1) zp) (upd a2 (T + 1) zf) (upd a3 (T + 1) p) (upd a4 (T + 1) (nI k)) (upd a5 (T + 1) (nI (T + 1))) a6 a7 := by
  have hc : w.2 3 + 1 = nI (T + 1) := by rw [h.1]; exact nI_1 T
  have hcl : (nI (T + 1)).toNatClampNeg = T + 1 := cl (by omega)
  have hck : (nI k).toNatClampNeg = k := cl (by omega)
  have hfT := h.2.2.2.2.2.1 (T + 1) (by omega) (Or.inr (by omega))
  obtain ⟨q0, q1, q2, q3, q4⟩ := h.2.1
  unfold s_W_addClass f_W_addType s_W_addType
  rw [hc, hcl, hck]
  rcases hp with rfl | rfl <;> rcases hf with rfl | rfl
  all_goals simp only [↓reduceIte, if_neg (by decide : ¬ (1 : Int32) = 0)]
  all_goals refine rel_add h hT hk1 hk2 (zi := 0) (Or.inl rfl) (fun q => absurd rfl q) (upd_self hfT.2.2.1).symm rfl rfl rfl rfl (by rw [← q0]; rfl) (by rw [← q1]; rfl) (by rw [← q2]; rfl) q3 q4 rfl ?_ ?_ ?_
  all_goals first | exact or_non | exact or_pub (by omega)
theorem rel_addInterface {T : Nat} {w : WS} {a0 a1 a2 a3 a4 a5 a6 a7 : Nat → Int32} (h : RelW T w a0 a1 a2 a3 a4 a5 a6 a7) (hT : T < 12) {p zp : Int32} (hp : zp = 0 ∨ zp = 1) : RelW (T + 1) (s_W_addInterface w p zp) (upd a0 (T + 1) 1) (upd a1 (T + 1) zp) a2 (upd a3 (T + 1) p) a4 (upd a5 (T + 1) (nI (T + 1))) a6 a7 := by
  have hc : w.2 3 + 1 = nI (T + 1) := by rw [h.1]; exact nI_1 T
  have hcl : (nI (T + 1)).toNatClampNeg = T + 1 := cl (by omega)
  have hck : (0 : Int32).toNatClampNeg = 0 := by decide +kernel
  have hfT := h.2.2.2.2.2.1 (T + 1) (by omega) (Or.inr (by omega))
  obtain ⟨q0, q1, q2, q3, q4⟩ := h.2.1
  unfold s_W_addInterface f_W_addType s_W_addType
  rw [hc, hcl, hck]
  rcases hp with rfl | rfl
  all_goals simp only [↓reduceIte, if_neg (by decide : ¬ (1 : Int32) = 0)]
  all_goals refine rel_add h hT (k := 0) (by omega) (fun q => absurd rfl q) (zi := 1) (Or.inr rfl) (fun _ => rfl) rfl rfl (upd_self hfT.2.2.2.2).symm (upd_self hfT.1).symm rfl (by rw [← q0]; rfl) (by rw [← q1]; rfl) (by rw [← q2]; rfl) q3 q4 rfl ?_ ?_ ?_
  all_goals first | exact or_non | exact or_pub (by omega)
theorem ext_iff {T : Nat} {w : WS} {a0 a1 a2 a3 a4 a5 a6 a7 : Nat → Int32} (h : RelW T w a0 a1 a2 a3 a4 a5 a6 a7) {k : Nat} (h1 : 1 ≤ k) (h2 : k ≤ T) : f_W_mayBeExtended w (nI k) = 0 ↔ ¬ (a0 k = 0 ∧ a2 k = 0) := by
  have hT := h.2.2.1.1
  have hs := h.2.2.2.2.1
  unfold f_W_mayBeExtended f_W_isClass
  rw [has_there h.1, there_1 hT h1 h2, if_neg (by decide : ¬ (1 : Int32) = 0)]
  by_cases c0 : a0 k = 0
  · rw [if_pos ((set_fl hs.2.2 (by omega)).mpr c0), if_neg (by decide : ¬ (1 : Int32) = 0)]
    by_cases c2 : a2 k = 0
    · rw [if_pos ((set_fl hs.2.1 (by omega)).mpr c2)]
      exact ⟨fun q => absurd q (by decide), fun q => absurd ⟨c0, c2⟩ q⟩
    · rw [if_neg (fun q => c2 ((set_fl hs.2.1 (by omega)).mp q))]
      exact ⟨fun _ q => c2 q.2, fun _ => rfl⟩
  · rw [if_neg (fun q => c0 ((set_fl hs.2.2 (by omega)).mp q)), if_pos rfl]
    exact ⟨fun _ q => c0 q.1, fun _ => rfl⟩
theorem ext_no {w : WS} {p b : Int32} (e : w.2 3 = b) (c : f_R_there b p = 0) : f_W_mayBeExtended w p = 0 := by
  unfold f_W_mayBeExtended f_W_isClass
  rw [has_there e, if_pos c, if_pos rfl]
theorem full_iff {T : Nat} {w : WS} (e : w.2 3 = nI T) (hT : T ≤ 12) : f_W_isFull w = 0 ↔ ¬ nI T = (12 : Int32) := by
  unfold f_W_isFull
  rw [e, show (12 : Int32) = nI 12 from rfl, ieq_iff (by omega) (by omega)]
  by_cases c : T < 12
  · rw [if_pos ((ilt_iff (by omega) (by omega)).mpr c)]
    exact ⟨fun _ => by omega, fun _ => rfl⟩
  · rw [if_neg (fun q => c ((ilt_iff (by omega) (by omega)).mp q))]
    exact ⟨fun q => absurd q (by decide), fun q => by exfalso; omega⟩
theorem q_tellClass {v : ES} {lc b0 b1 : Int32} {a0 a1 a2 a3 a4 a5 a6 a7 a8 a9 a11 : Nat → Int32} (h : Rel v lc b0 b1 a0 a1 a2 a3 a4 a5 a6 a7 a8 a9 a11) {p1 p2 p3 p4 : Int32} (h3 : p3 = 0 ∨ p3 = 1) (h4 : p4 = 0 ∨ p4 = 1) : f_O_tellClass v p1 p2 p3 p4 = f_R_tellClass b0 a0 a1 a2 a3 a4 a5 p1 p2 p3 p4 ∧ Rel (s_O_tellClass v p1 p2 p3 p4) lc (s_R_tellClass_b0 b0 a0 a1 a2 a3 a4 a5 p1 p2 p3 p4) b1 a0 (s_R_tellClass_a1 b0 a0 a1 a2 a3 a4 a5 p1 p2 p3 p4) (s_R_tellClass_a2 b0 a0 a1 a2 a3 a4 a5 p1 p2 p3 p4) (s_R_tellClass_a3 b0 a0 a1 a2 a3 a4 a5 p1 p2 p3 p4) (s_R_tellClass_a4 b0 a0 a1 a2 a3 a4 a5 p1 p2 p3 p4) (s_R_tellClass_a5 b0 a0 a1 a2 a3 a4 a5 p1 p2 p3 p4) a6 a7 a8 a9 a11 := by
  have h' := h
  obtain ⟨⟨T, rfl, hw⟩, hr⟩ := h
  have hT := hw.2.2.1.1
  have add : ∀ k, k ≤ T → (k ≠ 0 → a0 k = 0) → T < 12 → f_W_addClass v.1 (nI k) p2 p3 p4 = f_R_tell (nI T) a1 a3 a5 p2 p3 ∧ Rel (s_W_addClass v.1 (nI k) p2 p3 p4, v.2.1, v.2.2) lc (s_R_tell_b0 (nI T) a1 a3 a5 p2 p3) b1 a0 (s_R_tell_a1 (nI T) a1 a3 a5 p2 p3) (upd a2 (f_R_tell (nI T) a1 a3 a5 p2 p3).toNatClampNeg (vp_nar .boolean p4)) (s_R_tell_a3 (nI T) a1 a3 a5 p2 p3) (upd a4 (f_R_tell (nI T) a1 a3 a5 p2 p3).toNatClampNeg (nI k)) (s_R_tell_a5 (nI T) a1 a3 a5 p2 p3) a6 a7 a8 a9 a11 := by
    intro k hk hk2 hlt
    refine ⟨?_, ⟨T + 1, nI_1 T, ?_⟩, hr.1, hr.2.1, hr.2.2.1, hr.2.2.2.1, by unfold s_R_tell_b0; rw [nI_1]; exact RelX.mk (by omega) (relI_add (hr.2.2.2.2.1 T hT rfl) (fun _ _ => rfl)), hr.2.2.2.2.2⟩
    · unfold f_W_addClass f_W_addType f_R_tell
      rw [hw.1]
      simp
    · unfold s_R_tell_a1 s_R_tell_a3 s_R_tell_a5 f_R_tell
      rw [nI_1, cl (by omega : T + 1 < 1000), nar_01 h3, nar_01 h4]
      exact rel_addClass hw hlt hk hk2 h3 h4
  unfold f_O_tellClass f_R_tellClass s_O_tellClass s_R_tellClass_b0 s_R_tellClass_a1 s_R_tellClass_a2 s_R_tellClass_a3 s_R_tellClass_a4 s_R_tellClass_a5
  rw [pack_in]
  by_cases c1 : f_R_in p2 (0 : Int32) (2 : Int32) = (0 : Int32)
  · simp only [if_pos c1]; exact ⟨by trivial, h'⟩
  · simp only [if_neg c1]
    by_cases c3 : nI T = (12 : Int32)
    · have c3' : ¬ f_W_isFull v.1 = 0 := fun q => (full_iff hw.1 hT).mp q c3
      simp only [if_pos c3, if_neg c3']
      by_cases c2 : p1 = (0 : Int32)
      · simp only [if_pos c2]; exact ⟨by trivial, h'⟩
      · simp only [if_neg c2]
        by_cases c4 : f_R_there (nI T) p1 = (0 : Int32)
        · simp only [if_pos c4, if_pos (ext_no hw.1 c4)]; exact ⟨by trivial, h'⟩
        · simp only [if_neg c4]
          obtain ⟨k, rfl, k1, k2⟩ := there_k hT c4
          rw [cl (by omega : k < 1000)]
          by_cases c5 : a0 k = 0
          · by_cases c6 : a2 k = 0
            · simp only [if_pos c5, if_pos c6, if_neg (fun q => (ext_iff hw k1 k2).mp q ⟨c5, c6⟩)]; exact ⟨by trivial, h'⟩
            · simp only [if_pos c5, if_neg c6, if_pos ((ext_iff hw k1 k2).mpr (fun q => c6 q.2))]; exact ⟨by trivial, h'⟩
          · simp only [if_neg c5, if_pos ((ext_iff hw k1 k2).mpr (fun q => c5 q.1))]; exact ⟨by trivial, h'⟩
    · have c3' : f_W_isFull v.1 = 0 := (full_iff hw.1 hT).mpr c3
      have hlt : T < 12 := by
        rw [show (12 : Int32) = nI 12 from rfl, ieq_iff (by omega) (by omega)] at c3
        omega
      simp only [if_neg c3, if_pos c3']
      by_cases c2 : p1 = (0 : Int32)
      · simp only [if_pos c2]
        subst c2
        exact add 0 (by omega) (fun q => absurd rfl q) hlt
      · simp only [if_neg c2]
        by_cases c4 : f_R_there (nI T) p1 = (0 : Int32)
        · simp only [if_pos c4, if_pos (ext_no hw.1 c4)]; exact ⟨by trivial, h'⟩
        · simp only [if_neg c4]
          obtain ⟨k, rfl, k1, k2⟩ := there_k hT c4
          rw [cl (by omega : k < 1000)]
          by_cases c5 : a0 k = 0
          · by_cases c6 : a2 k = 0
            · simp only [if_pos c5, if_pos c6, if_neg (fun q => (ext_iff hw k1 k2).mp q ⟨c5, c6⟩)]
              exact add k k2 (fun _ => c5) hlt
            · simp only [if_pos c5, if_neg c6, if_pos ((ext_iff hw k1 k2).mpr (fun q => c6 q.2))]; exact ⟨by trivial, h'⟩
          · simp only [if_neg c5, if_pos ((ext_iff hw k1 k2).mpr (fun q => c5 q.1))]; exact ⟨by trivial, h'⟩
theorem q_tellInterface {v : ES} {lc b0 b1 : Int32} {a0 a1 a2 a3 a4 a5 a6 a7 a8 a9 a11 : Nat → Int32} (h : Rel v lc b0 b1 a0 a1 a2 a3 a4 a5 a6 a7 a8 a9 a11) {p1 p2 : Int32} (h3 : p2 = 0 ∨ p2 = 1) : f_O_tellInterface v p1 p2 = f_R_tellInterface b0 a0 a1 a3 a5 p1 p2 ∧ Rel (s_O_tellInterface v p1 p2) lc (s_R_tellInterface_b0 b0 a0 a1 a3 a5 p1 p2) b1 (s_R_tellInterface_a0 b0 a0 a1 a3 a5 p1 p2) (s_R_tellInterface_a1 b0 a0 a1 a3 a5 p1 p2) a2 (s_R_tellInterface_a3 b0 a0 a1 a3 a5 p1 p2) a4 (s_R_tellInterface_a5 b0 a0 a1 a3 a5 p1 p2) a6 a7 a8 a9 a11 := by
  have h' := h
  obtain ⟨⟨T, rfl, hw⟩, hr⟩ := h
  have hT := hw.2.2.1.1
  unfold f_O_tellInterface f_R_tellInterface s_O_tellInterface s_R_tellInterface_b0 s_R_tellInterface_a0 s_R_tellInterface_a1 s_R_tellInterface_a3 s_R_tellInterface_a5
  rw [pack_in]
  by_cases c1 : f_R_in p1 (0 : Int32) (2 : Int32) = (0 : Int32)
  · simp only [if_pos c1]; exact ⟨by trivial, h'⟩
  · simp only [if_neg c1]
    by_cases c3 : nI T = (12 : Int32)
    · have c3' : ¬ f_W_isFull v.1 = 0 := fun q => (full_iff hw.1 hT).mp q c3
      simp only [if_pos c3, if_neg c3']; exact ⟨by trivial, h'⟩
    · have c3' : f_W_isFull v.1 = 0 := (full_iff hw.1 hT).mpr c3
      have hlt : T < 12 := by
        rw [show (12 : Int32) = nI 12 from rfl, ieq_iff (by omega) (by omega)] at c3
        omega
      simp only [if_neg c3, if_pos c3']
      refine ⟨?_, ⟨T + 1, nI_1 T, ?_⟩, hr.1, hr.2.1, hr.2.2.1, hr.2.2.2.1, by unfold s_R_tell_b0 f_R_tell; rw [nI_1, cl (by omega : T + 1 < 1000)]; exact RelX.mk (by omega) (relI_add (hr.2.2.2.2.1 T hT rfl) (fun i hi => upd_ne (by omega))), hr.2.2.2.2.2⟩
      · unfold f_W_addInterface f_W_addType f_R_tell
        rw [hw.1]
        simp
      · unfold s_R_tell_a1 s_R_tell_a3 s_R_tell_a5 f_R_tell
        rw [nI_1, cl (by omega : T + 1 < 1000), nar_01 h3, nar_01 (Or.inr rfl)]
        exact rel_addInterface hw hlt h3
