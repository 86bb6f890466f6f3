/-! implement and nest -/
theorem Wd_imp {T : Nat} {I : Nat → Bool} {par dn dn' : Nat → Nat} {dr dr' : Nat → Nat → Nat} {F F' : Nat → Nat → Bool} (h : Wd T I par dn dr F) {i d : Nat} (i1 : 1 ≤ i) (i2 : i ≤ T) (d1 : 1 ≤ d) (d2 : d < i) (hd : I d = true) (hc : dn i < 4) (e1 : dn' i = dn i + 1) (e2 : ∀ t, t ≠ i → dn' t = dn t) (e3 : dr' i (dn i) = d) (e4 : ∀ k, k < dn i → dr' i k = dr i k) (e5 : ∀ t, t ≠ i → t ≤ T → ∀ k, k < 4 → dr' t k = dr t k) (hF : ∀ t, 1 ≤ t → t ≤ T → ∀ j, F' t j = true ↔ (F t j = true ∨ (F t i = true ∧ F d j = true))) : Wd T I par dn' dr' F' := by
  refine ⟨h.1, fun t h1 h2 => ?_⟩
  obtain ⟨a1, ⟨a4, a5⟩, a6⟩ := h.2 t h1 h2
  by_cases e : t = i
  · subst e
    refine ⟨a1, ⟨by omega, fun k hk => ?_⟩, fun j => ?_⟩
    · by_cases ek : k = dn t
      · rw [ek, e3]; exact ⟨d1, d2, hd⟩
      · rw [e4 k (by omega)]; exact a5 k (by omega)
    · rw [hF t h1 h2]
      constructor
      · rintro (h3 | ⟨-, h4⟩)
        · rcases (a6 j).mp h3 with q | ⟨s, q1, q2⟩
          · exact Or.inl q
          · have h6 := St_lt h h1 h2 q1
            refine Or.inr ⟨s, ?_, (hF s h6.1 h6.2.2 j).mpr (Or.inl q2)⟩
            rcases q1 with q | ⟨k, q3, q4⟩
            · exact Or.inl q
            · exact Or.inr ⟨k, by omega, by rw [e4 k q3]; exact q4⟩
        · exact Or.inr ⟨d, Or.inr ⟨dn t, by omega, e3.symm⟩, (hF d d1 (by omega) j).mpr (Or.inl h4)⟩
      · rintro (q | ⟨s, q1, q2⟩)
        · exact Or.inl ((a6 j).mpr (Or.inl q))
        · have key : ∀ s, St par dn dr t s → F' s j = true → F t j = true ∨ F t t = true ∧ F d j = true := by
            intro s q1 q2
            have h6 := St_lt h h1 h2 q1
            rcases (hF s h6.1 h6.2.2 j).mp q2 with q | ⟨-, q⟩
            · exact Or.inl (F_step h h1 h2 q1 q)
            · exact Or.inr ⟨F_refl h h1 h2, q⟩
          rcases q1 with q | ⟨k, q3, q4⟩
          · exact key s (Or.inl q) q2
          · by_cases ek : k = dn t
            · rw [ek, e3] at q4
              subst q4
              rcases (hF s d1 (by omega) j).mp q2 with q | ⟨-, q⟩
              · exact Or.inr ⟨F_refl h h1 h2, q⟩
              · exact Or.inr ⟨F_refl h h1 h2, q⟩
            · rw [e4 k (by omega)] at q4
              exact key s (Or.inr ⟨k, by omega, q4⟩) q2
  · have est : ∀ s, St par dn' dr' t s ↔ St par dn dr t s := by
      intro s
      unfold St
      rw [e2 t e]
      constructor
      · rintro (q | ⟨k, q1, q2⟩)
        · exact Or.inl q
        · exact Or.inr ⟨k, q1, by rw [e5 t e h2 k (by omega)] at q2; exact q2⟩
      · rintro (q | ⟨k, q1, q2⟩)
        · exact Or.inl q
        · exact Or.inr ⟨k, q1, by rw [e5 t e h2 k (by omega)]; exact q2⟩
    refine ⟨a1, ⟨by rw [e2 t e]; exact a4, fun k hk => ?_⟩, fun j => ?_⟩
    · rw [e2 t e] at hk
      rw [e5 t e h2 k (by omega)]; exact a5 k hk
    · rw [hF t h1 h2]
      constructor
      · rintro (h3 | ⟨h3, h4⟩)
        · rcases (a6 j).mp h3 with q | ⟨s, q1, q2⟩
          · exact Or.inl q
          · have h6 := St_lt h h1 h2 q1
            exact Or.inr ⟨s, (est s).mpr q1, (hF s h6.1 h6.2.2 j).mpr (Or.inl q2)⟩
        · rcases (a6 i).mp h3 with q | ⟨s, q1, q2⟩
          · exact absurd q.symm e
          · have h6 := St_lt h h1 h2 q1
            exact Or.inr ⟨s, (est s).mpr q1, (hF s h6.1 h6.2.2 j).mpr (Or.inr ⟨q2, h4⟩)⟩
      · rintro (q | ⟨s, q1, q2⟩)
        · exact Or.inl ((a6 j).mpr (Or.inl q))
        · have q1' := (est s).mp q1
          have h6 := St_lt h h1 h2 q1'
          rcases (hF s h6.1 h6.2.2 j).mp q2 with q | ⟨q3, q4⟩
          · exact Or.inl (F_step h h1 h2 q1' q)
          · exact Or.inr ⟨F_step h h1 h2 q1' q3, q4⟩
/-- the loop over those below -/
theorem ad_loop {T i d : Nat} (hT : T ≤ 12) (hi : i < 13) (hd : d < i) : ∀ (n t : Nat) (S : WS), 14 ≤ t + n → i ≤ t → t ≤ T + 1 → S.2 3 = nI T → lr_W_addDirect (nI i) (nI d) n (nI t) S = S.1 3 i ∧ ((ls_W_addDirect (nI i) (nI d) n (nI t) S).1 0 = S.1 0 ∧ (ls_W_addDirect (nI i) (nI d) n (nI t) S).1 1 = S.1 1 ∧ (ls_W_addDirect (nI i) (nI d) n (nI t) S).1 2 = S.1 2 ∧ (ls_W_addDirect (nI i) (nI d) n (nI t) S).1 3 = S.1 3 ∧ (ls_W_addDirect (nI i) (nI d) n (nI t) S).1 4 = S.1 4) ∧ ((ls_W_addDirect (nI i) (nI d) n (nI t) S).2 0 = S.2 0 ∧ (ls_W_addDirect (nI i) (nI d) n (nI t) S).2 1 = S.2 1 ∧ (ls_W_addDirect (nI i) (nI d) n (nI t) S).2 2 = S.2 2 ∧ (ls_W_addDirect (nI i) (nI d) n (nI t) S).2 3 = S.2 3) ∧ ∀ u, (ls_W_addDirect (nI i) (nI d) n (nI t) S).1 5 u = if t ≤ u ∧ u ≤ T ∧ bt (S.1 5 u) i = true then S.1 5 u ||| S.1 5 d else S.1 5 u := by
  intro n
  induction n with
  | zero => intro t S h1 h2 h3 h4; exfalso; omega
  | succ n ih =>
    intro t S h1 h2 h3 h4
    rw [lr_W_addDirect_s, ls_W_addDirect_s]
    by_cases c : T < t
    · have c' : S.2 3 < nI t := by rw [h4]; exact (ilt_iff (by omega) (by omega)).mpr c
      rw [if_pos c', if_pos c']
      refine ⟨by rw [cl (by omega)], ⟨rfl, rfl, rfl, rfl, rfl⟩, ⟨rfl, rfl, rfl, rfl⟩, fun u => ?_⟩
      rw [if_neg (by omega)]
    · have c' : ¬ S.2 3 < nI t := fun q => c ((ilt_iff (by omega) (by omega)).mp (by rw [h4] at q; exact q))
      rw [if_neg c', if_neg c', cl (by omega : t < 1000), cl (by omega : d < 1000), nI_1]
      by_cases c2 : bt (S.1 5 t) i = true
      · have c2' : ¬ f_O_holds (S.1 5 t) (nI i) = 0 := (hb1 (by omega)).mpr c2
        rw [if_neg c2', if_neg c2']
        obtain ⟨r1, r2, r3, r4⟩ := ih (t + 1) (mk6 (S.1 0) (S.1 1) (S.1 2) (S.1 3) (S.1 4) (upd (S.1 5) t ((S.1 5 t) ||| (S.1 5 d))), mk4 (S.2 0) (S.2 1) (S.2 2) (S.2 3)) (by omega) (by omega) (by omega) h4
        refine ⟨r1, r2, r3, fun u => ?_⟩
        rw [r4 u]
        show (if t + 1 ≤ u ∧ u ≤ T ∧ bt (upd (S.1 5) t ((S.1 5 t) ||| (S.1 5 d)) u) i = true then upd (S.1 5) t ((S.1 5 t) ||| (S.1 5 d)) u ||| upd (S.1 5) t ((S.1 5 t) ||| (S.1 5 d)) d else upd (S.1 5) t ((S.1 5 t) ||| (S.1 5 d)) u) = _
        rw [upd_ne (show d ≠ t by omega)]
        by_cases e : u = t
        · subst e
          rw [if_neg (by omega), upd_at, if_pos ⟨by omega, by omega, c2⟩]
        · rw [upd_ne e]
          by_cases c3 : t ≤ u ∧ u ≤ T ∧ bt (S.1 5 u) i = true
          · rw [if_pos c3, if_pos ⟨by omega, c3.2⟩]
          · rw [if_neg c3, if_neg (fun q => c3 ⟨by omega, q.2⟩)]
      · have c3 : bt (S.1 5 t) i = false := by simpa using c2
        have c2' : f_O_holds (S.1 5 t) (nI i) = 0 := (hb0 (by omega)).mpr c3
        rw [if_pos c2', if_pos c2']
        obtain ⟨r1, r2, r3, r4⟩ := ih (t + 1) S (by omega) (by omega) (by omega) h4
        refine ⟨r1, r2, r3, fun u => ?_⟩
        rw [r4 u]
        by_cases e : u = t
        · subst e
          rw [if_neg (by omega), if_neg (fun q => c2 q.2.2)]
        · by_cases c3 : t ≤ u ∧ u ≤ T ∧ bt (S.1 5 u) i = true
          · rw [if_pos c3, if_pos ⟨by omega, c3.2⟩]
          · rw [if_neg c3, if_neg (fun q => c3 ⟨by omega, q.2⟩)]
theorem hd_loop {T : Nat} {w : WS} {a0 a1 a2 a3 a4 a5 a6 a7 : Nat → Int32} (h : RelW T w a0 a1 a2 a3 a4 a5 a6 a7) {b0 d : Int32} {i : Nat} (hi : i < 13) : ∀ (n k : Nat), 6 ≤ k + n → k ≤ dnN a7 i → (∃ k', k' < dnN a7 i ∧ k ≤ k' ∧ a6 (4 * i + k') = d ∧ ¬ lr_W_hasDirect w (nI i) d n (nI k) = 0 ∧ lr_R_implement_34 b0 a0 a6 a7 (nI i) d n (nI k) = -1 ∧ la6_R_implement_34 b0 a0 a6 a7 (nI i) d n (nI k) = a6 ∧ la7_R_implement_34 b0 a0 a6 a7 (nI i) d n (nI k) = a7) ∨ (lr_W_hasDirect w (nI i) d n (nI k) = 0 ∧ lr_R_implement_34 b0 a0 a6 a7 (nI i) d n (nI k) = (if a7 i = 4 then -2 else a7 i + 1) ∧ la6_R_implement_34 b0 a0 a6 a7 (nI i) d n (nI k) = (if a7 i = 4 then a6 else upd a6 (((4 : Int32) * nI i) + (a7 i)).toNatClampNeg d) ∧ la7_R_implement_34 b0 a0 a6 a7 (nI i) d n (nI k) = (if a7 i = 4 then a7 else upd a7 i (a7 i + 1))) := by
  have hdc := h.2.2.2.2.2.2.2.2.2
  obtain ⟨q0, q1, q2, q3, q4⟩ := h.2.1
  have hd4 := dn_le hdc hi
  intro n
  induction n with
  | zero => intro k h1 h2; exfalso; omega
  | succ n ih =>
    intro k h1 h2
    rw [lr_W_hasDirect_s, lr_R_implement_34_s, la6_R_implement_34_s, la7_R_implement_34_s, q3, cl (by omega : i < 1000)]
    by_cases c : dnN a7 i ≤ k
    · have c' : a7 i ≤ nI k := by rw [dn_nI hdc hi]; exact (ile_iff (by omega) (by omega)).mpr c
      simp only [if_pos c']
      refine Or.inr ⟨by trivial, ?_, by trivial, by trivial⟩
      rw [upd_at]
    · have c' : ¬ a7 i ≤ nI k := fun q => c (by rw [dn_nI hdc hi] at q; exact (ile_iff (by omega) (by omega)).mp q)
      simp only [if_neg c']
      have hk : k < 4 := by omega
      unfold f_W_directAt
      rw [q4, cl4 hi hk, cl4' hi hk]
      by_cases c2 : a6 (4 * i + k) = d
      · simp only [if_pos c2]
        exact Or.inl ⟨k, by omega, by omega, c2, by decide, by trivial, by trivial, by trivial⟩
      · simp only [if_neg c2]
        rw [nI_1]
        rcases ih (k + 1) (by omega) (by omega) with ⟨k', r1, r2, r3⟩ | r
        · exact Or.inl ⟨k', r1, by omega, r3⟩
        · exact Or.inr r
theorem ifc_iff {T : Nat} {w : WS} {a0 a1 a2 a3 a4 a5 a6 a7 : Nat → Int32} (h : RelW T w a0 a1 a2 a3 a4 a5 a6 a7) {k : Nat} (h1 : 1 ≤ k) (h2 : k ≤ T) : f_W_isInterface w (nI k) = a0 k := by
  have hT := h.2.2.1.1
  have hs := h.2.2.2.2.1
  have h01 := h.2.2.2.2.2.2.1 k (by omega)
  unfold f_W_isInterface
  rw [has_there h.1, there_1 hT h1 h2, if_neg (by decide : ¬ (1 : Int32) = 0)]
  by_cases c0 : a0 k = 0
  · rw [if_pos ((set_fl hs.2.2 (by omega)).mpr c0), c0]
  · rw [if_neg (fun q => c0 ((set_fl hs.2.2 (by omega)).mp q))]
    rcases h01 with q | q
    · exact absurd q c0
    · rw [q]
theorem ifc_no {w : WS} {p b : Int32} (e : w.2 3 = b) (c : f_R_there b p = 0) : f_W_isInterface w p = 0 := by
  unfold f_W_isInterface
  rw [has_there e, if_pos c]
theorem rel_imp {T : Nat} {w : WS} {a0 a1 a2 a3 a4 a5 a6 a7 : Nat → Int32} (h : RelW T w a0 a1 a2 a3 a4 a5 a6 a7) {i d : Nat} (i1 : 1 ≤ i) (i2 : i ≤ T) (d1 : 1 ≤ d) (d2 : d < i) (hd : ¬ a0 d = 0) (hc : dnN a7 i < 4) : f_W_addDirect w (nI i) (nI d) = a7 i + 1 ∧ RelW T (s_W_addDirect w (nI i) (nI d)) a0 a1 a2 a3 a4 a5 (upd a6 (4 * i + dnN a7 i) (nI d)) (upd a7 i (a7 i + 1)) := by
  obtain ⟨h1, ⟨q0, q1, q2, q3, q4⟩, hw, hf0, hs, hfr, h01, hpa, hdi, hdc⟩ := h
  have hT := hw.1
  have hdn := dn_nI hdc (show i < 13 by omega)
  have hix : ((nI i * (4 : Int32)) + (a7 i)).toNatClampNeg = 4 * i + dnN a7 i := by
    rw [hdn]; exact cl4' (by omega) hc
  have hinc : a7 i + 1 = nI (dnN a7 i + 1) := (congrArg (· + 1) hdn).trans (nI_1 _)
  unfold f_W_addDirect s_W_addDirect
  rw [q3, q4, cl (by omega : i < 1000), hix]
  obtain ⟨r1, ⟨r20, r21, r22, r23, r24⟩, ⟨r30, r31, r32, r33⟩, r4⟩ := ad_loop hT (show i < 13 by omega) d2 14 i (mk6 (w.1 0) (w.1 1) (w.1 2) (upd a7 i (a7 i + 1)) (upd a6 (4 * i + dnN a7 i) (nI d)) (w.1 5), mk4 (w.2 0) (w.2 1) (w.2 2) (w.2 3)) (by omega) (by omega) (by omega) h1
  refine ⟨by rw [r1]; exact upd_at, r33.trans h1, ⟨r20.trans q0, r21.trans q1, r22.trans q2, r23, r24⟩, ?_, ?_, ⟨fun j hj => by rw [r30]; exact hs.1 j hj, fun j hj => by rw [r31]; exact hs.2.1 j hj, fun j hj => by rw [r32]; exact hs.2.2 j hj⟩, ?_, h01, hpa, ?_, ?_⟩
  · refine Wd_imp hw i1 i2 d1 d2 (by unfold IN; simp [hd]) hc ?_ (fun t ht => ?_) ?_ (fun k hk => ?_) (fun t ht ht2 k hk => ?_) (fun t ht1 ht2 j => ?_)
    · unfold dnN; rw [upd_at, hinc]; exact cl (by unfold dnN at hc ⊢; omega)
    · unfold dnN; rw [upd_ne ht]
    · unfold drN; rw [upd_at]; exact cl (by omega)
    · unfold drN; rw [upd_ne (by omega)]
    · unfold drN; rw [upd_ne (by omega)]
    · unfold FN
      rw [r4 t]
      show bt (if i ≤ t ∧ t ≤ T ∧ bt (w.1 5 t) i = true then w.1 5 t ||| w.1 5 d else w.1 5 t) j = true ↔ _
      by_cases c : bt (w.1 5 t) i = true
      · have h5 := F_le hw t ht1 ht2 i c
        rw [if_pos ⟨h5.2, ht2, c⟩, b_or, c]
        simp
      · rw [if_neg (fun q => c q.2.2)]
        exact ⟨fun q => Or.inl q, fun q => q.elim id (fun q => absurd q.1 c)⟩
  · rw [r4 0, if_neg (by omega)]; exact hf0
  · intro t ht1 ht2
    have h5 := hfr t ht1 ht2
    refine ⟨h5.1, ?_, h5.2.2⟩
    rw [upd_ne (by omega)]; exact h5.2.1
  · intro k hk
    by_cases e : k = 4 * i + dnN a7 i
    · rw [e, upd_at]; exact vp_in_nI (by omega) (by decide)
    · rw [upd_ne e]; exact hdi k hk
  · intro k hk
    by_cases e : k = i
    · rw [e, upd_at, hinc, nI_toInt (by omega)]; omega
    · rw [upd_ne e]; exact hdc k hk
theorem q_implement {v : ES} {lc b0 b1 : Int32} {a0 a1 a2 a3 a4 a5 a6 a7 a8 a9 a11 : Nat → Int32} (h : Rel v lc b0 b1 a0 a1 a2 a3 a4 a5 a6 a7 a8 a9 a11) {p1 p2 : Int32} : f_O_implement v p1 p2 = f_R_implement b0 a0 a6 a7 p1 p2 ∧ Rel (s_O_implement v p1 p2) lc b0 b1 a0 a1 a2 a3 a4 a5 (s_R_implement_a6 b0 a0 a6 a7 p1 p2) (s_R_implement_a7 b0 a0 a6 a7 p1 p2) a8 a9 a11 := by
  have h' := h
  obtain ⟨⟨T, rfl, hw⟩, hr⟩ := h
  have hT := hw.2.2.1.1
  have hdc := hw.2.2.2.2.2.2.2.2.2
  obtain ⟨q0, q1, q2, q3, q4⟩ := hw.2.1
  unfold f_O_implement f_R_implement s_O_implement s_R_implement_a6 s_R_implement_a7
  rw [has_there hw.1]
  by_cases c1 : f_R_there (nI T) p1 = (0 : Int32)
  · simp only [if_pos c1]; exact ⟨by trivial, h'⟩
  · simp only [if_neg c1]
    by_cases c2 : f_R_there (nI T) p2 = (0 : Int32)
    · simp only [if_pos c2, if_pos (ifc_no hw.1 c2)]; exact ⟨by trivial, h'⟩
    · simp only [if_neg c2]
      obtain ⟨i, rfl, i1, i2⟩ := there_k hT c1
      obtain ⟨d, rfl, d1, d2⟩ := there_k hT c2
      rw [ifc_iff hw d1 d2, cl (by omega : d < 1000)]
      by_cases c3 : i ≤ d
      · have c3' : nI i ≤ nI d := (ile_iff (by omega) (by omega)).mpr c3
        have c3'' : ¬ nI d < nI i := fun q => by have := (ilt_iff (by omega) (by omega)).mp q; omega
        simp only [if_pos c3', if_neg c3'']
        split <;> exact ⟨by trivial, h'⟩
      · have c3' : ¬ nI i ≤ nI d := fun q => c3 ((ile_iff (by omega) (by omega)).mp q)
        have c3'' : nI d < nI i := (ilt_iff (by omega) (by omega)).mpr (by omega)
        simp only [if_neg c3', if_pos c3'']
        by_cases c4 : a0 d = 0
        · simp only [if_pos c4]; exact ⟨by trivial, h'⟩
        · simp only [if_neg c4]
          have hi : i < 13 := by omega
          unfold f_W_hasDirect f_W_directCount
          have hdn := dn_nI hdc hi
          have hd4 := dn_le hdc hi
          rw [q3, cl (by omega : i < 1000)]
          rcases hd_loop hw (b0 := nI T) (d := nI d) hi 14 0 (by omega) (by omega) with ⟨k', -, -, -, r1, r2, r3, r4⟩ | ⟨r1, r2, r3, r4⟩
          · rw [nI_0] at r1 r2 r3 r4
            rw [if_neg r1, if_neg r1, r2, r3, r4]; exact ⟨by trivial, h'⟩
          · rw [nI_0] at r1 r2 r3 r4
            rw [if_pos r1, if_pos r1, r2, r3, r4]
            by_cases c5 : dnN a7 i < 4
            · have c5' : a7 i < (4 : Int32) := by rw [hdn, show (4 : Int32) = nI 4 from rfl]; exact (ilt_iff (by omega) (by omega)).mpr c5
              have c5'' : ¬ a7 i = (4 : Int32) := fun q => by rw [hdn, show (4 : Int32) = nI 4 from rfl, ieq_iff (by omega) (by omega)] at q; omega
              simp only [if_pos c5', if_neg c5'']
              obtain ⟨s1, s2⟩ := rel_imp hw i1 i2 d1 (by omega) c4 c5
              refine ⟨s1, ⟨T, rfl, ?_⟩, hr⟩
              have hix : (((4 : Int32) * nI i) + (a7 i)).toNatClampNeg = 4 * i + dnN a7 i := by
                rw [hdn]; exact cl4 hi c5
              rw [hix]; exact s2
            · have c5' : ¬ a7 i < (4 : Int32) := fun q => by rw [hdn, show (4 : Int32) = nI 4 from rfl] at q; exact c5 ((ilt_iff (by omega) (by omega)).mp q)
              have c5'' : a7 i = (4 : Int32) := by rw [hdn, show (4 : Int32) = nI 4 from rfl, ieq_iff (by omega) (by omega)]; omega
              simp only [if_neg c5', if_pos c5'']; exact ⟨by trivial, h'⟩
theorem ho_loop {T : Nat} {w : WS} {a3 a5 : Nat → Int32} (h3 : w.2 3 = nI T) (h5 : w.1 2 = a5) (hT : T ≤ 12) {p p2 : Int32} : ∀ (n k : Nat), 14 ≤ k + n → k ≤ T + 1 → (¬ lr_W_hostsAnother w p n (nI k) = 0 ∧ lr_R_nest_50 (nI T) a3 a5 p p2 n (nI k) = -1 ∧ la5_R_nest_50 (nI T) a3 a5 p p2 n (nI k) = a5) ∨ (lr_W_hostsAnother w p n (nI k) = 0 ∧ lr_R_nest_50 (nI T) a3 a5 p p2 n (nI k) = 0 ∧ la5_R_nest_50 (nI T) a3 a5 p p2 n (nI k) = upd a5 p.toNatClampNeg p2) := by
  intro n
  induction n with
  | zero => intro k h1 h2; exfalso; omega
  | succ n ih =>
    intro k h1 h2
    rw [lr_W_hostsAnother_s, lr_R_nest_50_s, la5_R_nest_50_s, h3, h5, cl (by omega : k < 1000)]
    by_cases c : T < k
    · simp only [if_pos ((ilt_iff (by omega) (by omega)).mpr c)]
      exact Or.inr ⟨by trivial, by trivial, by trivial⟩
    · simp only [if_neg (fun q => c ((ilt_iff (by omega) (by omega)).mp q))]
      rw [nI_1]
      have r := ih (k + 1) (by omega) (by omega)
      by_cases c2 : nI k = p
      · simp only [if_pos c2]; exact r
      · simp only [if_neg c2]
        by_cases c4 : a5 k = p
        · simp only [if_pos c4]
          exact Or.inl ⟨by decide, by trivial, by trivial⟩
        · simp only [if_neg c4]; exact r
theorem q_nest {v : ES} {lc b0 b1 : Int32} {a0 a1 a2 a3 a4 a5 a6 a7 a8 a9 a11 : Nat → Int32} (h : Rel v lc b0 b1 a0 a1 a2 a3 a4 a5 a6 a7 a8 a9 a11) {p1 p2 : Int32} : f_O_nest v p1 p2 = f_R_nest b0 a3 a5 p1 p2 ∧ Rel (s_O_nest v p1 p2) lc b0 b1 a0 a1 a2 a3 a4 (s_R_nest_a5 b0 a3 a5 p1 p2) a6 a7 a8 a9 a11 := by
  have h' := h
  obtain ⟨⟨T, rfl, hw⟩, hr⟩ := h
  have hT := hw.2.2.1.1
  obtain ⟨q0, q1, q2, q3, q4⟩ := hw.2.1
  unfold f_O_nest f_R_nest s_O_nest s_R_nest_a5 f_W_samePackage f_W_hostOf f_W_hostsAnother
  rw [has_there hw.1, has_there hw.1]
  by_cases c1 : f_R_there (nI T) p1 = (0 : Int32)
  · simp only [if_pos c1]; exact ⟨by trivial, h'⟩
  · simp only [if_neg c1]
    by_cases c2 : f_R_there (nI T) p2 = (0 : Int32)
    · simp only [if_pos c2]; exact ⟨by trivial, h'⟩
    · simp only [if_neg c2]
      have hcmp : p2 ≤ p1 ↔ ¬ p1 < p2 := by rw [Int32.le_iff_toInt_le, Int32.lt_iff_toInt_lt]; omega
      by_cases c3 : p1 < p2
      · have c3' : ¬ p2 ≤ p1 := fun q => hcmp.mp q c3
        simp only [if_pos c3, if_neg c3']; exact ⟨by trivial, h'⟩
      · have c3' : p2 ≤ p1 := hcmp.mpr c3
        simp only [if_neg c3, if_pos c3']
        rw [q1, q2]
        by_cases c4 : a3 p1.toNatClampNeg = a3 p2.toNatClampNeg
        · simp only [if_pos c4, if_neg (by decide : ¬ (1 : Int32) = 0)]
          by_cases c5 : a5 p2.toNatClampNeg = p2
          · simp only [if_pos c5]
            rcases ho_loop (w := v.1) (a3 := a3) (p := p1) (p2 := p2) hw.1 q2 hT 14 1 (by omega) (by omega) with ⟨r1, r2, r3⟩ | ⟨r1, r2, r3⟩
            · rw [show nI 1 = (1 : Int32) from rfl] at r1 r2 r3
              rw [if_neg r1, if_neg r1, r2, r3]; exact ⟨by trivial, h'⟩
            · rw [show nI 1 = (1 : Int32) from rfl] at r1 r2 r3
              rw [if_pos r1, if_pos r1, r2, r3]
              refine ⟨rfl, ⟨T, rfl, ?_⟩, hr⟩
              obtain ⟨h1, -, hw2, hf0, hs, hfr, h01, hb⟩ := hw
              unfold s_W_setHost
              exact ⟨h1, ⟨q0, q1, by rw [← q2]; rfl, q3, q4⟩, hw2, hf0, hs, hfr, h01, hb⟩
          · simp only [if_neg c5]; exact ⟨by trivial, h'⟩
        · simp only [if_neg c4, ↓reduceIte]; exact ⟨by trivial, h'⟩
