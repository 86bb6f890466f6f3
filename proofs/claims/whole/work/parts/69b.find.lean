section
variable {T : Nat} {v : ES} {a0 a1 a2 a3 a4 a5 a6 a7 : Nat → Int32}
theorem own_iff {m : MS} {a : Nat → Int32} (hm : RelM m a) {t q : Nat} (h1 : 1 ≤ t) (h2 : t < 13) (hq : q < 4) : bt (m 0 q) t = true ↔ ¬ a (4 * t + q) < 0 := by
  rw [(hm q hq).1 t (by omega), rg_1 h1 h2]
  unfold eH
  simp
theorem ff_loop (h : RelW T v.1 a0 a1 a2 a3 a4 a5 a6 a7) {a8 : Nat → Int32} (hm : RelM v.2.1 a8) {p1 : Int32} {q : Nat} (hq : q < 4) : ∀ (n : Nat) (seen : Int32) (L U : List Nat) (y : Nat → Int32), L.length + 6 * U.length + 1 ≤ n → L.length + 5 * U.length ≤ 80 → (∀ i, i < 13 → bt seen i = false → i ∈ U) → Stk y L → (∀ t, t ∈ L → 1 ≤ t ∧ t ≤ T) → (∀ u, u < 13 → bt seen u = true → hfB (v.1.1 5) (v.2.1 0 q) u = true → ∃ s, L.find? (hfB (v.1.1 5) (v.2.1 0 q)) = some s ∧ s < u) → lr_R_findField_12 a4 a6 a7 a8 p1 (nI q) n seen (nI L.length) y = match L.find? (hfB (v.1.1 5) (v.2.1 0 q)) with
    | some s => nI (Gs (chN a4 a6 a7) (bt (v.2.1 0 q)) (hfB (v.1.1 5) (v.2.1 0 q)) 13 s)
    | none => 0 := by
  have hT := h.2.2.1.1
  have hpa := h.2.2.2.2.2.2.2.1
  have hdi := h.2.2.2.2.2.2.2.2.1
  have hdc := h.2.2.2.2.2.2.2.2.2
  intro n
  induction n with
  | zero => intro seen L U y h1; exfalso; omega
  | succ n ih =>
    intro seen L U y h1 h2 h3 h4 h5 h6
    rw [lr_R_findField_12_s]
    cases L with
    | nil =>
      rw [if_pos (by decide +kernel)]
      rfl
    | cons t L =>
      have ht := h5 t List.mem_cons_self
      have ht13 : t < 13 := by omega
      have hl : (t :: L).length = L.length + 1 := rfl
      rw [hl] at h1 h2 ⊢
      rw [if_neg (fun r => by have := (ile0_iff (by omega)).mp r; omega), pk_m1, cl (by omega : L.length < 1000), h4.1, cl4 ht13 hq, cl (by omega : t < 1000)]
      by_cases c : bt (v.2.1 0 q) t = true
      · rw [if_neg ((own_iff hm ht.1 ht13 hq).mp c), List.find?_cons, hf_own h ht.1 ht.2 c]
        show nI t = nI (Gs _ _ _ 13 t)
        rw [Gs_s, if_pos c]
      · have cn0 : a8 (4 * t + q) < 0 := Decidable.byContradiction (fun r => c ((own_iff hm ht.1 ht13 hq).mpr r))
        rw [if_pos cn0]
        by_cases c2 : bt seen t = true
        · rw [if_neg (fun r => by rw [sb0 (by omega)] at r; rw [r] at c2; cases c2)]
          have hnf : hfB (v.1.1 5) (v.2.1 0 q) t = false := by
            cases e : hfB (v.1.1 5) (v.2.1 0 q) t with
            | false => rfl
            | true =>
              obtain ⟨s, e1, e2⟩ := h6 t ht13 c2 e
              rw [List.find?_cons, e] at e1
              have : t = s := Option.some.inj e1
              omega
          have e0 : (t :: L).find? (hfB (v.1.1 5) (v.2.1 0 q)) = L.find? (hfB (v.1.1 5) (v.2.1 0 q)) := by rw [List.find?_cons, hnf]
          rw [e0] at h6 ⊢
          exact ih seen L U y (by omega) (by omega) h3 h4.2 (fun u hu => h5 u (List.mem_cons_of_mem _ hu)) h6
        · have c2' : bt seen t = false := by simpa using c2
          rw [if_pos ((sb0 (by omega)).mpr c2')]
          have hm1 : t ∈ U := h3 t ht13 c2'
          have hlen := List.length_erase_of_mem hm1
          have hpos := List.length_pos_of_mem hm1
          have hd4 := dn_le hdc ht13
          have hp4 := par_lt hpa ht13
          have hU : ∀ i, i < 13 → bt (seen ||| ((1 : Int32) <<< (nI t &&& (31 : Int32)))) i = false → i ∈ U.erase t := by
            intro i hi hb
            rw [or_bit (by omega) (by omega)] at hb
            simp only [Bool.or_eq_false_iff, decide_eq_false_iff_not] at hb
            exact (List.mem_erase_of_ne hb.2).mpr (h3 i hi hb.1)
          have h7 : ∀ u, u ∈ chN a4 a6 a7 t ++ L → 1 ≤ u ∧ u ≤ T := by
            intro u hu
            rcases List.mem_append.mp hu with r | r
            · have := ch_lt h t u ht.1 ht.2 r
              omega
            · exact h5 u (List.mem_cons_of_mem _ r)
          have hfind : (chN a4 a6 a7 t ++ L).find? (hfB (v.1.1 5) (v.2.1 0 q)) = ((chN a4 a6 a7 t).find? (hfB (v.1.1 5) (v.2.1 0 q))).or (L.find? (hfB (v.1.1 5) (v.2.1 0 q))) := List.find?_append
          have h8 : ∀ u, u < 13 → bt (seen ||| ((1 : Int32) <<< (nI t &&& (31 : Int32)))) u = true → hfB (v.1.1 5) (v.2.1 0 q) u = true → ∃ s, (chN a4 a6 a7 t ++ L).find? (hfB (v.1.1 5) (v.2.1 0 q)) = some s ∧ s < u := by
            intro u hu hb hf
            rw [or_bit (by omega) (by omega)] at hb
            simp only [Bool.or_eq_true, decide_eq_true_eq] at hb
            by_cases c3 : hfB (v.1.1 5) (v.2.1 0 q) t = true
            · obtain ⟨s, e, s1, s2, s3⟩ := hf_some h ht.1 ht.2 c3 c
              refine ⟨s, by rw [hfind, e]; rfl, ?_⟩
              rcases hb with hb | hb
              · obtain ⟨s', e1, e2⟩ := h6 u hu hb hf
                rw [List.find?_cons, c3] at e1
                have : t = s' := Option.some.inj e1
                omega
              · omega
            · rcases hb with hb | hb
              · obtain ⟨s', e1, e2⟩ := h6 u hu hb hf
                have c3' : hfB (v.1.1 5) (v.2.1 0 q) t = false := by simpa using c3
                rw [List.find?_cons, c3'] at e1
                refine ⟨s', ?_, e2⟩
                rw [hfind, hf_none h ht.1 ht.2 c3]
                exact e1
              · rw [hb] at hf; exact absurd hf c3
          have hres : (match (t :: L).find? (hfB (v.1.1 5) (v.2.1 0 q)) with
    | some s => nI (Gs (chN a4 a6 a7) (bt (v.2.1 0 q)) (hfB (v.1.1 5) (v.2.1 0 q)) 13 s)
    | none => 0) = (match (chN a4 a6 a7 t ++ L).find? (hfB (v.1.1 5) (v.2.1 0 q)) with
    | some s => nI (Gs (chN a4 a6 a7) (bt (v.2.1 0 q)) (hfB (v.1.1 5) (v.2.1 0 q)) 13 s)
    | none => 0) := by
            by_cases c3 : hfB (v.1.1 5) (v.2.1 0 q) t = true
            · obtain ⟨s, e, s1, s2, s3⟩ := hf_some h ht.1 ht.2 c3 c
              rw [hfind, e, List.find?_cons, c3]
              show nI (Gs _ _ _ 13 t) = nI (Gs _ _ _ 13 s)
              rw [Gs_s, if_neg c, e]
              show nI (Gs _ _ _ 12 s) = nI (Gs _ _ _ 13 s)
              rw [Gs_fuel (ch_lt h) s 12 13 s1 (by omega) (by omega) (by omega)]
            · have c3' : hfB (v.1.1 5) (v.2.1 0 q) t = false := by simpa using c3
              rw [hfind, hf_none h ht.1 ht.2 c3, List.find?_cons, c3']
              rfl
          rw [hres, par_nI hpa ht13, dn_nI hdc ht13]
          have hlc : (chN a4 a6 a7 t ++ L).length ≤ L.length + 5 := by
            unfold chN
            rw [List.length_append, List.length_append, List.length_map, List.length_range]
            split <;> simp <;> omega
          by_cases c4 : parN a4 t = 0
          · rw [if_pos ((ile0_iff (by omega)).mpr c4)]
            have ech : chN a4 a6 a7 t ++ L = (List.range (dnN a7 t)).map (drN a6 t) ++ L := by unfold chN; rw [if_pos c4, List.append_nil]
            obtain ⟨g1, g2⟩ := pu_loop (a4 := a4) (a7 := a7) (a8 := a8) (p1 := p1) (p2 := nI q) hdi ht13 14 (dnN a7 t) L y (by omega) hd4 (by omega) h4.2
            rw [← ech] at g1 g2
            rw [g1]
            exact ih _ (chN a4 a6 a7 t ++ L) (U.erase t) _ (by omega) (by omega) hU g2 h7 h8
          · rw [if_neg (fun r => c4 ((ile0_iff (by omega)).mp r)), nI_1]
            have ech : chN a4 a6 a7 t ++ L = (List.range (dnN a7 t)).map (drN a6 t) ++ (parN a4 t :: L) := by unfold chN; rw [if_neg c4, List.append_assoc]; rfl
            obtain ⟨g1, g2⟩ := pu_loop (a4 := a4) (a7 := a7) (a8 := a8) (p1 := p1) (p2 := nI q) hdi ht13 14 (dnN a7 t) (parN a4 t :: L) (upd y L.length (nI (parN a4 t))) (by omega) hd4 (by rw [List.length_cons]; omega) ⟨upd_at, Stk_upd L (Nat.le_refl _) h4.2⟩
            rw [← ech] at g1 g2
            rw [List.length_cons] at g1 g2
            rw [g1]
            exact ih _ (chN a4 a6 a7 t ++ L) (U.erase t) _ (by omega) (by omega) hU g2 h7 h8
theorem ff_eq (h : RelW T v.1 a0 a1 a2 a3 a4 a5 a6 a7) {a8 a12 : Nat → Int32} (hm : RelM v.2.1 a8) {t q : Nat} (h1 : 1 ≤ t) (h2 : t ≤ T) (hq : q < 4) : f_R_findField a4 a6 a7 a8 a12 (nI t) (nI q) = f_W_search v.1 (nI t) (f_M_owners v.2.1 (nI q)) := by
  have hT := h.2.2.1.1
  unfold f_R_findField f_W_search f_M_owners
  rw [cl (by omega : q < 1000)]
  have e0 : (0 : Int32).toNatClampNeg = 0 := by decide +kernel
  rw [e0]
  have r1 := ff_loop h hm (p1 := nI t) hq 80 0 [t] (List.range 13) (upd a12 0 (nI t)) (by simp) (by simp) (fun i hi _ => List.mem_range.mpr hi) ⟨upd_at, trivial⟩ (fun u hu => by rw [List.mem_singleton.mp hu]; exact ⟨h1, h2⟩) (fun u _ hb => by rw [b_0] at hb; cases hb)
  have r2 := se_loop h (x := v.2.1 0 q) (p := nI t) 14 t 0 h1 h2 (by omega) (by omega)
  rw [nI_0] at r2
  rw [show nI [t].length = (1 : Int32) from rfl] at r1
  rw [r1, r2, List.find?_cons]
  cases e : hfB (v.1.1 5) (v.2.1 0 q) t with
  | true => rfl
  | false => rfl
/-- what is found is a told type with the field -/
theorem se_sp (h : RelW T v.1 a0 a1 a2 a3 a4 a5 a6 a7) {a8 : Nat → Int32} (hm : RelM v.2.1 a8) {t q : Nat} (h1 : 1 ≤ t) (h2 : t ≤ T) (hq : q < 4) : f_W_search v.1 (nI t) (f_M_owners v.2.1 (nI q)) = 0 ∨ ∃ k, 1 ≤ k ∧ k ≤ T ∧ f_W_search v.1 (nI t) (f_M_owners v.2.1 (nI q)) = nI k ∧ eH (a8 (4 * k + q)) = true := by
  have hT := h.2.2.1.1
  unfold f_W_search f_M_owners
  rw [cl (by omega : q < 1000)]
  have r2 := se_loop h (x := v.2.1 0 q) (p := nI t) 14 t 0 h1 h2 (by omega) (by omega)
  rw [nI_0] at r2
  rw [r2]
  by_cases c : hfB (v.1.1 5) (v.2.1 0 q) t = true
  · obtain ⟨g1, g2, g3⟩ := Gs_own h (x := v.2.1 0 q) 13 t h1 h2 (by omega) c
    rw [if_pos c]
    refine Or.inr ⟨_, g1, by omega, rfl, ?_⟩
    rw [own_iff hm g1 (by omega) hq] at g3
    unfold eH; simpa using g3
  · rw [if_neg c]; exact Or.inl rfl
end
