section
variable {T : Nat} {v : ES} {a0 a1 a2 a3 a4 a5 a6 a7 : Nat → Int32}
theorem neg_lt0 {x : Int32} (h : x < 0) : ¬ (0 : Int32) ≤ x ∧ ¬ (0 : Int32) < x := by
  rw [Int32.lt_iff_toInt_lt] at h
  rw [Int32.le_iff_toInt_le, Int32.lt_iff_toInt_lt]
  omega
theorem pos_nI {r : Nat} (h1 : 1 ≤ r) (h2 : r < 1000) : (0 : Int32) ≤ nI r ∧ (0 : Int32) < nI r := ⟨nI_pos' (by omega), (i0lt_iff h2).mpr (by omega)⟩
theorem sta_iff {a9 : Nat → Int32} (hm : RelM v.2.2 a9) {t q : Nat} (h1 : 1 ≤ t) (h2 : t < 13) (hq : q < 4) (he : eH (a9 (4 * t + q)) = true) : f_M_isStatic v.2.2 (nI t) (nI q) = f_R_isStatic a9 (nI t) (nI q) := by
  rw [sta_eq hm h1 h2 hq]
  have h01 : f_R_isStatic a9 (nI t) (nI q) = 0 ∨ f_R_isStatic a9 (nI t) (nI q) = 1 := by
    unfold f_R_isStatic; split
    · exact Or.inl rfl
    · exact Or.inr rfl
  by_cases c : eS (a9 (4 * t + q)) = true
  · rw [if_pos c]
    rcases h01 with z | z
    · rw [(e_sta h2 hq he).mp z] at c; cases c
    · exact z.symm
  · rw [if_neg c, (e_sta h2 hq he).mpr (by simpa using c)]
theorem run_sel (h : RelW T v.1 a0 a1 a2 a3 a4 a5 a6 a7) {a9 : Nat → Int32} (hm : RelM v.2.2 a9) {q : Nat} (hq : q < 4) {x : Int32} (hx : x < 0 ∨ ∃ s, 1 ≤ s ∧ s ≤ T ∧ x = nI s ∧ eH (a9 (4 * s + q)) = true) : (if (0 : Int32) ≤ x then f_R_withCode a9 x (nI q) else x) = f_O_runnable v x (nI q) := by
  have hT := h.2.2.1.1
  rcases hx with z | ⟨s, s1, s2, rfl, he⟩
  · rw [if_neg (neg_lt0 z).1, run_neg z]
  · rw [if_pos (pos_nI s1 (by omega)).1, run_eq h hm hq s1 s2 he]
theorem virt_eq (h : RelW T v.1 a0 a1 a2 a3 a4 a5 a6 a7) {a8 a9 a10 a11 a12 : Nat → Int32} (hm : RelM v.2.2 a9) (hI : RelI T a0 a9) {b1 p1 : Int32} {q c d r : Nat} (hq : q < 4) (c1 : 1 ≤ c) (c2 : c ≤ T) (d1 : 1 ≤ d) (d2 : d ≤ T) (r1 : 1 ≤ r) (r2 : r ≤ T) (hr : IN a0 r = false) : f_R_invoke_c1 (nI T) b1 a0 a1 a3 a4 a5 a6 a7 a8 a9 a10 a11 a12 p1 (nI c) (nI d) (nI q) (nI r) (s_R_closeAbove_a10 (nI T) a4 a6 a7 a10) = f_O_invokeVirtual v (nI c) (nI d) (nI q) (nI r) ∧ s_R_invoke_b1_c1 (nI T) b1 a0 a1 a3 a4 a5 a6 a7 a8 a9 a10 a11 a12 p1 (nI c) (nI d) (nI q) (nI r) (s_R_closeAbove_a10 (nI T) a4 a6 a7 a10) = s_O_invokeVirtual v (nI c) (nI d) (nI q) (nI r) := by
  have hT := h.2.2.1.1
  obtain ⟨e1, e2, e3⟩ := res_eq h (abR (a10 := a10) h) (a8 := a8) (a12 := a12) hm hI (kd := 1) (inI := 0) (Or.inl ⟨rfl, rfl⟩) d1 d2 c1 c2 hq
  refine ⟨?_, ?_⟩
  · unfold f_R_invoke_c1 f_R_invoke_c2 f_R_invoke_c3 f_O_invokeVirtual
    rw [e1]
    rcases e3 with z | ⟨t, t1, t2, e, he⟩
    · rw [if_neg (neg_lt0 z).1, if_neg (neg_lt0 z).2]
    · rw [e, if_pos (pos_nI t1 (by omega)).1, if_pos (pos_nI t1 (by omega)).2, sta_iff hm t1 (by omega) hq he]
      obtain ⟨s1, s2⟩ := sel_eq h (a10 := s_R_closeAbove_a10 (nI T) a4 a6 a7 a10) (a11 := a11) hm hI hq r1 r2 hr t1 t2 he
      rw [s1, run_sel h hm hq s2]
  · unfold s_R_invoke_b1_c1 s_R_invoke_b1_c2 s_R_invoke_b1_c3 s_O_invokeVirtual
    rw [e2]
    simp only [ite_self]
theorem intf_eq (h : RelW T v.1 a0 a1 a2 a3 a4 a5 a6 a7) {a8 a9 a10 a11 a12 : Nat → Int32} (hm : RelM v.2.2 a9) (hI : RelI T a0 a9) {b1 p1 : Int32} {q c d r : Nat} (hq : q < 4) (c1 : 1 ≤ c) (c2 : c ≤ T) (d1 : 1 ≤ d) (d2 : d ≤ T) (r1 : 1 ≤ r) (r2 : r ≤ T) (hr : IN a0 r = false) : f_R_invoke_c4 (nI T) b1 a0 a1 a3 a4 a5 a6 a7 a8 a9 a10 a11 a12 p1 (nI c) (nI d) (nI q) (nI r) (s_R_closeAbove_a10 (nI T) a4 a6 a7 a10) = f_O_invokeInterface v (nI c) (nI d) (nI q) (nI r) ∧ s_R_invoke_b1_c4 (nI T) b1 a0 a1 a3 a4 a5 a6 a7 a8 a9 a10 a11 a12 p1 (nI c) (nI d) (nI q) (nI r) (s_R_closeAbove_a10 (nI T) a4 a6 a7 a10) = s_O_invokeInterface v (nI c) (nI d) (nI q) (nI r) := by
  have hT := h.2.2.1.1
  obtain ⟨e1, e2, e3⟩ := res_eq h (abR (a10 := a10) h) (a8 := a8) (a12 := a12) hm hI (kd := 2) (inI := 1) (Or.inr ⟨rfl, rfl⟩) d1 d2 c1 c2 hq
  refine ⟨?_, ?_⟩
  · unfold f_R_invoke_c4 f_R_invoke_c5 f_R_invoke_c6 f_O_invokeInterface
    rw [e1]
    rcases e3 with z | ⟨t, t1, t2, e, he⟩
    · rw [if_neg (neg_lt0 z).1, if_neg (neg_lt0 z).2]
    · rw [e, if_pos (pos_nI t1 (by omega)).1, if_pos (pos_nI t1 (by omega)).2, sta_iff hm t1 (by omega) hq he, is_eq h (abR (a10 := a10) h) r1 r2 (by omega)]
      obtain ⟨s1, s2⟩ := sel_eq h (a10 := s_R_closeAbove_a10 (nI T) a4 a6 a7 a10) (a11 := a11) hm hI hq r1 r2 hr t1 t2 he
      rw [s1]
      congr 2
      rcases s2 with z | ⟨s, k1, k2, k3, k4⟩
      · rw [if_neg (neg_lt0 z).1, if_neg (neg_lt0 z).2]
      · rw [k3, if_pos (pos_nI k1 (by omega)).1, if_pos (pos_nI k1 (by omega)).2, acc_eq hm k1 (by omega) hq k4, cl4 (by omega) hq, run_eq h hm hq k1 k2 k4]
        by_cases z0 : a9 (4 * s + q) &&& 3 = 0
        · rw [if_pos z0, if_pos z0]; split <;> rfl
        · rw [if_neg z0, if_neg z0]
  · unfold s_R_invoke_b1_c4 s_R_invoke_b1_c5 s_R_invoke_b1_c6 s_O_invokeInterface
    rw [e2]
    simp only [ite_self]
theorem kd_eq (h : RelW T v.1 a0 a1 a2 a3 a4 a5 a6 a7) {c : Nat} (c1 : 1 ≤ c) (c2 : c ≤ T) : (a0 c = 0 ∧ f_W_isInterface v.1 (nI c) = 0) ∨ (¬ a0 c = 0 ∧ f_W_isInterface v.1 (nI c) = 1) := by
  have hT := h.2.2.1.1
  rw [ifc_iff h c1 c2]
  rcases h.2.2.2.2.2.2.1 c (by omega) with z | z
  · exact Or.inl ⟨z, z⟩
  · exact Or.inr ⟨by rw [z]; decide, z⟩
theorem stat_eq (h : RelW T v.1 a0 a1 a2 a3 a4 a5 a6 a7) {a8 a9 a10 a11 a12 : Nat → Int32} (hm : RelM v.2.2 a9) (hI : RelI T a0 a9) {b1 p1 p5 : Int32} {q c d : Nat} (hq : q < 4) (c1 : 1 ≤ c) (c2 : c ≤ T) (d1 : 1 ≤ d) (d2 : d ≤ T) : f_R_invoke_c10 (nI T) b1 a0 a1 a3 a4 a5 a6 a7 a8 a9 a10 a11 a12 p1 (nI c) (nI d) (nI q) p5 (s_R_closeAbove_a10 (nI T) a4 a6 a7 a10) = f_O_invokeStatic v (nI c) (nI d) (nI q) ∧ s_R_invoke_b1_c10 (nI T) b1 a0 a1 a3 a4 a5 a6 a7 a8 a9 a10 a11 a12 p1 (nI c) (nI d) (nI q) p5 (s_R_closeAbove_a10 (nI T) a4 a6 a7 a10) = s_O_invokeStatic v (nI c) (nI d) (nI q) := by
  have hT := h.2.2.1.1
  have core : ∀ kd inI : Int32, (kd = 1 ∧ inI = 0) ∨ (kd = 2 ∧ inI = 1) → f_W_isInterface v.1 (nI c) = inI → (if (0 : Int32) ≤ f_R_resolved (nI T) a0 a1 a3 a4 a5 a6 a7 a8 a9 (s_R_closeAbove_a10 (nI T) a4 a6 a7 a10) a12 kd (nI d) (nI c) (nI q) then (if f_R_isStatic a9 (f_R_resolved (nI T) a0 a1 a3 a4 a5 a6 a7 a8 a9 (s_R_closeAbove_a10 (nI T) a4 a6 a7 a10) a12 kd (nI d) (nI c) (nI q)) (nI q) = (1 : Int32) then f_R_resolved (nI T) a0 a1 a3 a4 a5 a6 a7 a8 a9 (s_R_closeAbove_a10 (nI T) a4 a6 a7 a10) a12 kd (nI d) (nI c) (nI q) else (-6 : Int32)) else f_R_resolved (nI T) a0 a1 a3 a4 a5 a6 a7 a8 a9 (s_R_closeAbove_a10 (nI T) a4 a6 a7 a10) a12 kd (nI d) (nI c) (nI q)) = f_O_invokeStatic v (nI c) (nI d) (nI q) ∧ s_R_resolved_b1 (nI T) a0 a1 a3 a4 a5 a6 a7 a8 a9 (s_R_closeAbove_a10 (nI T) a4 a6 a7 a10) a12 kd (nI d) (nI c) (nI q) = s_O_invokeStatic v (nI c) (nI d) (nI q) := by
    intro kd inI hk hi
    obtain ⟨e1, e2, e3⟩ := res_eq h (abR (a10 := a10) h) (a8 := a8) (a12 := a12) hm hI hk d1 d2 c1 c2 hq
    refine ⟨?_, ?_⟩
    · unfold f_O_invokeStatic
      rw [e1, hi]
      rcases e3 with z | ⟨t, t1, t2, e, he⟩
      · have hle : f_O_resolveMethod v inI (nI d) (nI c) (nI q) ≤ 0 := by
          rw [Int32.lt_iff_toInt_lt] at z
          rw [Int32.le_iff_toInt_le]; omega
        rw [if_neg (neg_lt0 z).1, if_pos hle]
      · have hn : ¬ nI t ≤ 0 := fun z => by have := (ile0_iff (by omega)).mp z; omega
        rw [e, if_pos (pos_nI t1 (by omega)).1, if_neg hn, sta_iff hm t1 (by omega) hq he]
        have h01 : f_R_isStatic a9 (nI t) (nI q) = 0 ∨ f_R_isStatic a9 (nI t) (nI q) = 1 := by
          unfold f_R_isStatic; split
          · exact Or.inl rfl
          · exact Or.inr rfl
        rcases h01 with z | z
        · rw [z, if_neg (by decide), if_pos rfl]
        · rw [z, if_pos rfl, if_neg (by decide)]
    · unfold s_O_invokeStatic
      rw [e2, hi]
      simp only [ite_self]
  unfold f_R_invoke_c10 s_R_invoke_b1_c10 f_R_invoke_c11 f_R_invoke_c12 s_R_invoke_b1_c11 s_R_invoke_b1_c12
  rw [cl (by omega : c < 1000)]
  simp only [ite_self]
  rcases kd_eq h c1 c2 with ⟨z, hi⟩ | ⟨z, hi⟩
  · rw [if_pos z, if_pos z]; exact core 1 0 (Or.inl ⟨rfl, rfl⟩) hi
  · rw [if_neg z, if_neg z]; exact core 2 1 (Or.inr ⟨rfl, rfl⟩) hi
/-- SPECIAL -/
theorem spec_eq (h : RelW T v.1 a0 a1 a2 a3 a4 a5 a6 a7) {a8 a9 a10 a11 a12 : Nat → Int32} (hm : RelM v.2.2 a9) (hI : RelI T a0 a9) {b1 p1 p5 : Int32} {q c d : Nat} (hq : q < 4) (c1 : 1 ≤ c) (c2 : c ≤ T) (d1 : 1 ≤ d) (d2 : d ≤ T) (hdc : FN (v.1.1 5) d c = true) : f_R_invoke_c7 (nI T) b1 a0 a1 a3 a4 a5 a6 a7 a8 a9 a10 a11 a12 p1 (nI c) (nI d) (nI q) p5 (s_R_closeAbove_a10 (nI T) a4 a6 a7 a10) = f_O_invokeSpecial v (nI c) (nI d) (nI q) ∧ s_R_invoke_b1_c7 (nI T) b1 a0 a1 a3 a4 a5 a6 a7 a8 a9 a10 a11 a12 p1 (nI c) (nI d) (nI q) p5 (s_R_closeAbove_a10 (nI T) a4 a6 a7 a10) = s_O_invokeSpecial v (nI c) (nI d) (nI q) := by
  have hw := h.2.2.1
  have hT := hw.1
  have hpa := h.2.2.2.2.2.2.2.1
  obtain ⟨q0, q1, q2, q3, q4⟩ := h.2.1
  have hsp : f_R_special (nI T) a0 a4 a9 (s_R_closeAbove_a10 (nI T) a4 a6 a7 a10) (nI c) (nI d) (nI q) = (if (f_W_isClass v.1 (nI c)) = (0 : Int32) then (if (0 : Int32) = (0 : Int32) then (if (f_O_greatestOf ((f_W_chain v.1 (nI c)) &&& (f_M_instances v.2.2 (nI q)))) = (0 : Int32) then (f_O_runnable v (f_O_bestOfInterfaces v (nI c) (nI q)) (nI q)) else (f_O_runnable v (f_O_greatestOf ((f_W_chain v.1 (nI c)) &&& (f_M_instances v.2.2 (nI q)))) (nI q))) else (if (f_O_greatestOf ((f_W_chain v.1 (f_W_superclassOf v.1 (nI d))) &&& (f_M_instances v.2.2 (nI q)))) = (0 : Int32) then (f_O_runnable v (f_O_bestOfInterfaces v (f_W_superclassOf v.1 (nI d)) (nI q)) (nI q)) else (f_O_runnable v (f_O_greatestOf ((f_W_chain v.1 (f_W_superclassOf v.1 (nI d))) &&& (f_M_instances v.2.2 (nI q)))) (nI q)))) else (if nI c = nI d then (if (0 : Int32) = (0 : Int32) then (if (f_O_greatestOf ((f_W_chain v.1 (nI c)) &&& (f_M_instances v.2.2 (nI q)))) = (0 : Int32) then (f_O_runnable v (f_O_bestOfInterfaces v (nI c) (nI q)) (nI q)) else (f_O_runnable v (f_O_greatestOf ((f_W_chain v.1 (nI c)) &&& (f_M_instances v.2.2 (nI q)))) (nI q))) else (if (f_O_greatestOf ((f_W_chain v.1 (f_W_superclassOf v.1 (nI d))) &&& (f_M_instances v.2.2 (nI q)))) = (0 : Int32) then (f_O_runnable v (f_O_bestOfInterfaces v (f_W_superclassOf v.1 (nI d)) (nI q)) (nI q)) else (f_O_runnable v (f_O_greatestOf ((f_W_chain v.1 (f_W_superclassOf v.1 (nI d))) &&& (f_M_instances v.2.2 (nI q)))) (nI q)))) else (if (1 : Int32) = (0 : Int32) then (if (f_O_greatestOf ((f_W_chain v.1 (nI c)) &&& (f_M_instances v.2.2 (nI q)))) = (0 : Int32) then (f_O_runnable v (f_O_bestOfInterfaces v (nI c) (nI q)) (nI q)) else (f_O_runnable v (f_O_greatestOf ((f_W_chain v.1 (nI c)) &&& (f_M_instances v.2.2 (nI q)))) (nI q))) else (if (f_O_greatestOf ((f_W_chain v.1 (f_W_superclassOf v.1 (nI d))) &&& (f_M_instances v.2.2 (nI q)))) = (0 : Int32) then (f_O_runnable v (f_O_bestOfInterfaces v (f_W_superclassOf v.1 (nI d)) (nI q)) (nI q)) else (f_O_runnable v (f_O_greatestOf ((f_W_chain v.1 (f_W_superclassOf v.1 (nI d))) &&& (f_M_instances v.2.2 (nI q)))) (nI q)))))) := by
    have hsup : f_W_superclassOf v.1 (nI d) = nI (parN a4 d) := by
      unfold f_W_superclassOf
      rw [q0, cl (by omega : d < 1000), par_nI hpa (by omega)]
    have hself := sp_loop h (abR (a10 := a10) h) hm hq (p1 := nI c) (p2 := nI d) c1 c2 14 c c1 c2 (by omega) rfl
    have h10 : ¬ (1 : Int32) = 0 := by decide
    unfold f_R_special
    rw [cl (by omega : c < 1000), cl (by omega : d < 1000)]
    by_cases k0 : a0 c = 0
    · have kc : ¬ f_W_isClass v.1 (nI c) = 0 := fun z => (cls_iff h c1 c2).mp z k0
      have kd0 : a0 d = 0 := by
        refine Decidable.byContradiction (fun z => ?_)
        have := F_ifc hw d d1 d2 (by unfold IN; simp [z]) c hdc
        unfold IN at this
        simp [k0] at this
      simp only [if_pos k0, if_pos kd0, if_neg kc, ↓reduceIte, if_neg h10]
      by_cases e : nI c = nI d
      · simp only [if_pos e]; exact hself
      · simp only [if_neg e]
        have e' : c ≠ d := fun z => e (by rw [z])
        have hIc : IN a0 c = false := by unfold IN; simp [k0]
        obtain ⟨hp, hpf⟩ : parN a4 d ≠ 0 ∧ FN (v.1.1 5) (parN a4 d) c = true := by
          rcases (F_cls hw d1 d2 hIc).mp hdc with z | z
          · exact absurd z e'
          · exact z
        have his : ¬ f_R_is (s_R_closeAbove_a10 (nI T) a4 a6 a7 a10) (nI d) (nI c) = 0 := by
          rw [is_eq h (abR (a10 := a10) h) d1 d2 (by omega)]
          unfold f_W_isKindOf
          rw [cl (by omega : d < 1000), hb1 (by omega)]
          exact hdc
        have hq2 := (hw.2 d d1 d2).1
        rw [if_neg his, hsup, par_nI hpa (by omega)]
        exact sp_loop h (abR (a10 := a10) h) hm hq (p1 := nI c) (p2 := nI d) (by omega) (by omega) 14 (parN a4 d) (by omega) (by omega) (by omega) rfl
    · have kc : f_W_isClass v.1 (nI c) = 0 := (cls_iff h c1 c2).mpr k0
      simp only [if_neg k0, if_pos kc, ↓reduceIte, ite_self]
      exact hself
  have core : ∀ kd inI : Int32, (kd = 1 ∧ inI = 0) ∨ (kd = 2 ∧ inI = 1) → f_W_isInterface v.1 (nI c) = inI → (if (0 : Int32) ≤ f_R_resolved (nI T) a0 a1 a3 a4 a5 a6 a7 a8 a9 (s_R_closeAbove_a10 (nI T) a4 a6 a7 a10) a12 kd (nI d) (nI c) (nI q) then (if f_R_isStatic a9 (f_R_resolved (nI T) a0 a1 a3 a4 a5 a6 a7 a8 a9 (s_R_closeAbove_a10 (nI T) a4 a6 a7 a10) a12 kd (nI d) (nI c) (nI q)) (nI q) = (0 : Int32) then f_R_special (nI T) a0 a4 a9 (s_R_closeAbove_a10 (nI T) a4 a6 a7 a10) (nI c) (nI d) (nI q) else (-6 : Int32)) else f_R_resolved (nI T) a0 a1 a3 a4 a5 a6 a7 a8 a9 (s_R_closeAbove_a10 (nI T) a4 a6 a7 a10) a12 kd (nI d) (nI c) (nI q)) = f_O_invokeSpecial v (nI c) (nI d) (nI q) ∧ s_R_resolved_b1 (nI T) a0 a1 a3 a4 a5 a6 a7 a8 a9 (s_R_closeAbove_a10 (nI T) a4 a6 a7 a10) a12 kd (nI d) (nI c) (nI q) = s_O_invokeSpecial v (nI c) (nI d) (nI q) := by
    intro kd inI hk hi
    obtain ⟨e1, e2, e3⟩ := res_eq h (abR (a10 := a10) h) (a8 := a8) (a12 := a12) hm hI hk d1 d2 c1 c2 hq
    refine ⟨?_, ?_⟩
    · rw [hsp]
      unfold f_O_invokeSpecial
      rw [e1, hi]
      rcases e3 with z | ⟨t, t1, t2, e, he⟩
      · rw [if_neg (neg_lt0 z).1, if_neg (neg_lt0 z).2]
      · rw [e, if_pos (pos_nI t1 (by omega)).1, if_pos (pos_nI t1 (by omega)).2, sta_iff hm t1 (by omega) hq he]
    · unfold s_O_invokeSpecial
      rw [e2, hi]
      simp only [ite_self]
  unfold f_R_invoke_c7 s_R_invoke_b1_c7 f_R_invoke_c8 f_R_invoke_c9 s_R_invoke_b1_c8 s_R_invoke_b1_c9
  rw [cl (by omega : c < 1000)]
  simp only [ite_self]
  rcases kd_eq h c1 c2 with ⟨z, hi⟩ | ⟨z, hi⟩
  · rw [if_pos z, if_pos z]; exact core 1 0 (Or.inl ⟨rfl, rfl⟩) hi
  · rw [if_neg z, if_neg z]; exact core 2 1 (Or.inr ⟨rfl, rfl⟩) hi
end
theorem vZ_selL {b0 : Int32} {a0 a3 a4 a6 a7 a9 a10 a11 : Nat → Int32} {p1 p2 p3 : Int32} (hz : vZ a11) : ∀ (n : Nat) (x : Int32), vZ (la11_R_selected_19 b0 a0 a3 a4 a6 a7 a9 a10 a11 p1 p2 p3 n x) := by
  intro n
  induction n with
  | zero => intro x; exact vZ_0
  | succ n ih =>
    intro x
    rw [la11_R_selected_19_s]
    split
    · exact vZ_fill hz
    · split
      · exact ih _
      · exact vZ_fill hz
theorem vZ_sel {b0 : Int32} {a0 a3 a4 a6 a7 a9 a10 a11 : Nat → Int32} {p1 p2 p3 : Int32} (hz : vZ a11) : vZ (s_R_selected_a11 b0 a0 a3 a4 a6 a7 a9 a10 a11 p1 p2 p3) := by
  unfold s_R_selected_a11
  split
  · exact vZ_selL hz _ _
  · exact hz
theorem vZ_ite {c : Prop} [Decidable c] {x y : Nat → Int32} (h1 : vZ x) (h2 : vZ y) : vZ (if c then x else y) := by
  split
  · exact h1
  · exact h2
theorem vZ_inv {b0 b1 : Int32} {a0 a1 a3 a4 a5 a6 a7 a8 a9 a10 a11 a12 : Nat → Int32} {p1 p2 p3 p4 p5 : Int32} (hz : vZ a11) : vZ (s_R_invoke_a11 b0 b1 a0 a1 a3 a4 a5 a6 a7 a8 a9 a10 a11 a12 p1 p2 p3 p4 p5) := by
  unfold s_R_invoke_a11 s_R_invoke_a11_c1 s_R_invoke_a11_c2 s_R_invoke_a11_c3 s_R_invoke_a11_c4 s_R_invoke_a11_c5 s_R_invoke_a11_c6 s_R_invoke_a11_c7 s_R_invoke_a11_c8 s_R_invoke_a11_c9 s_R_invoke_a11_c10 s_R_invoke_a11_c11 s_R_invoke_a11_c12
  repeat' (first | with_reducible exact hz | with_reducible exact vZ_sel hz | with_reducible apply vZ_ite)
theorem q_invoke {v : ES} {lc b0 b1 : Int32} {a0 a1 a2 a3 a4 a5 a6 a7 a8 a9 a11 : Nat → Int32} (h : Rel v lc b0 b1 a0 a1 a2 a3 a4 a5 a6 a7 a8 a9 a11) {a10 a12 : Nat → Int32} {p1 p2 p3 p4 p5 : Int32} : f_O_invoke v lc p1 p2 p3 p4 p5 = f_R_invoke b0 b1 a0 a1 a3 a4 a5 a6 a7 a8 a9 a10 a11 a12 p1 p2 p3 p4 p5 ∧ s_O_invoke v lc p1 p2 p3 p4 p5 = s_R_invoke_b1 b0 b1 a0 a1 a3 a4 a5 a6 a7 a8 a9 a10 a11 a12 p1 p2 p3 p4 p5 := by
  obtain ⟨⟨T, rfl, hw⟩, hl, hm1, hm2, hz, hx, -⟩ := h
  have hT := hw.2.2.1.1
  have hI := hx T hT rfl
  unfold f_O_invoke f_R_invoke s_O_invoke s_R_invoke_b1
  rw [has_there hw.1, has_there hw.1, name_eq]
  by_cases c2 : f_R_there (nI T) p2 = (0 : Int32)
  · simp only [if_pos c2, ite_self]
    exact ⟨trivial, hl⟩
  · simp only [if_neg c2]
    by_cases c3 : f_R_there (nI T) p3 = (0 : Int32)
    · simp only [if_pos c3, ite_self]
      exact ⟨trivial, hl⟩
    · simp only [if_neg c3]
      by_cases c4 : f_R_in p4 (0 : Int32) (3 : Int32) = (0 : Int32)
      · simp only [if_pos c4, ite_self]
        exact ⟨trivial, hl⟩
      · simp only [if_neg c4]
        obtain ⟨c, rfl, k1, k2⟩ := there_k hT c2
        obtain ⟨d, rfl, d1, d2⟩ := there_k hT c3
        obtain ⟨q, rfl, hq⟩ := name_k c4
        have hk : ∀ i j, 1 ≤ i → i ≤ T → 1 ≤ j → j ≤ T → f_R_is (s_R_closeAbove_a10 (nI T) a4 a6 a7 a10) (nI i) (nI j) = f_W_isKindOf v.1 (nI i) (nI j) := fun i j i1 i2 j1 j2 => is_eq hw (abR (a10 := a10) hw) i1 i2 (by omega)
        have h10 : ¬ (1 : Int32) = 0 := by decide
        by_cases z0 : p1 = 0
        · subst z0
          simp only [if_neg (by decide +kernel : ¬ f_R_in (0 : Int32) (0 : Int32) (3 : Int32) = 0), ↓reduceIte]
          unfold f_O_isReceiver
          simp only [↓reduceIte]
          by_cases c5 : f_R_there (nI T) p5 = 0
          · simp only [if_pos c5, if_pos (cls_no hw.1 c5), ↓reduceIte]; exact ⟨trivial, hl⟩
          · simp only [if_neg c5]
            obtain ⟨r, rfl, r1, r2⟩ := there_k hT c5
            rw [cl (by omega : r < 1000), hk r c r1 r2 k1 k2]
            by_cases c6 : a0 r = 0
            · simp only [if_pos c6, if_neg (fun z => (cls_iff hw r1 r2).mp z c6)]
              by_cases c7 : f_W_isKindOf v.1 (nI r) (nI c) = 0
              · simp only [if_pos c7, ↓reduceIte]; exact ⟨trivial, hl⟩
              · simp only [if_neg c7, if_neg h10]
                obtain ⟨e1, e2⟩ := virt_eq hw (a8 := a8) (a10 := a10) (a11 := a11) (a12 := a12) hm2 hI (b1 := b1) (p1 := 0) hq k1 k2 d1 d2 r1 r2 (by unfold IN; simp [c6])
                exact ⟨e1.symm, e2.symm⟩
            · simp only [if_neg c6, if_pos ((cls_iff hw r1 r2).mpr c6), ↓reduceIte]; exact ⟨trivial, hl⟩
        · by_cases z1 : p1 = 1
          · subst z1
            simp only [if_neg (by decide +kernel : ¬ f_R_in (1 : Int32) (0 : Int32) (3 : Int32) = 0), if_neg h10, ↓reduceIte]
            unfold f_O_isReceiver
            simp only [if_neg h10, ↓reduceIte]
            by_cases c5 : f_R_there (nI T) p5 = 0
            · simp only [if_pos c5, if_pos (cls_no hw.1 c5)]; exact ⟨trivial, hl⟩
            · simp only [if_neg c5]
              obtain ⟨r, rfl, r1, r2⟩ := there_k hT c5
              rw [cl (by omega : r < 1000)]
              by_cases c6 : a0 r = 0
              · simp only [if_pos c6, if_neg (fun z => (cls_iff hw r1 r2).mp z c6)]
                obtain ⟨e1, e2⟩ := intf_eq hw (a8 := a8) (a10 := a10) (a11 := a11) (a12 := a12) hm2 hI (b1 := b1) (p1 := 1) hq k1 k2 d1 d2 r1 r2 (by unfold IN; simp [c6])
                exact ⟨e1.symm, e2.symm⟩
              · simp only [if_neg c6, if_pos ((cls_iff hw r1 r2).mpr c6)]; exact ⟨trivial, hl⟩
          · by_cases z2 : p1 = 2
            · subst z2
              simp only [if_neg (by decide +kernel : ¬ f_R_in (2 : Int32) (0 : Int32) (3 : Int32) = 0), if_neg z0, if_neg z1, ↓reduceIte]
              unfold f_O_isReceiver
              simp only [if_neg z0, if_neg z1, ↓reduceIte]
              by_cases c5 : p5 = 0
              · simp only [if_pos c5]
                rw [hk d c d1 d2 k1 k2]
                by_cases c7 : f_W_isKindOf v.1 (nI d) (nI c) = 0
                · simp only [if_pos c7, ↓reduceIte]; exact ⟨trivial, hl⟩
                · simp only [if_neg c7, if_neg h10]
                  have hdc : FN (v.1.1 5) d c = true := by
                    unfold f_W_isKindOf at c7
                    rw [cl (by omega : d < 1000), hb1 (by omega)] at c7
                    exact c7
                  obtain ⟨e1, e2⟩ := spec_eq hw (a8 := a8) (a10 := a10) (a11 := a11) (a12 := a12) hm2 hI (b1 := b1) (p1 := 2) (p5 := p5) hq k1 k2 d1 d2 hdc
                  rw [c5] at e1 e2
                  exact ⟨e1.symm, e2.symm⟩
              · simp only [if_neg c5, ↓reduceIte]; exact ⟨trivial, hl⟩
            · by_cases z3 : p1 = 3
              · subst z3
                simp only [if_neg (by decide +kernel : ¬ f_R_in (3 : Int32) (0 : Int32) (3 : Int32) = 0), if_neg z0, if_neg z1, if_neg z2]
                unfold f_O_isReceiver
                simp only [if_neg z0, if_neg z1, if_neg z2, ↓reduceIte]
                by_cases c5 : p5 = 0
                · simp only [if_pos c5, if_neg h10]
                  obtain ⟨e1, e2⟩ := stat_eq hw (a8 := a8) (a10 := a10) (a11 := a11) (a12 := a12) hm2 hI (b1 := b1) (p1 := 3) (p5 := p5) hq k1 k2 d1 d2
                  rw [c5] at e1 e2
                  exact ⟨e1.symm, e2.symm⟩
                · simp only [if_neg c5, ↓reduceIte]; exact ⟨trivial, hl⟩
              · have hk0 : f_R_in p1 (0 : Int32) (3 : Int32) = 0 := by
                  refine Decidable.byContradiction (fun z => ?_)
                  obtain ⟨j, rfl, hj⟩ := in_k3 (m := 3) (by decide +kernel) (by omega) z
                  rcases (by omega : j = 0 ∨ j = 1 ∨ j = 2 ∨ j = 3) with rfl | rfl | rfl | rfl
                  · exact z0 rfl
                  · exact z1 rfl
                  · exact z2 rfl
                  · exact z3 rfl
                simp only [if_pos hk0]
                unfold f_O_isReceiver
                simp only [if_neg z0, if_neg z1, if_neg z2, if_neg z3, ↓reduceIte]
                exact ⟨trivial, hl⟩
