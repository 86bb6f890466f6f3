/-! RESOLUTION of methods and fields -/
section
variable {T : Nat} {v : ES} {a0 a1 a2 a3 a4 a5 a6 a7 ab : Nat → Int32}
theorem acc_eq {m : MS} {a : Nat → Int32} (hm : RelM m a) {t q : Nat} (h1 : 1 ≤ t) (h2 : t < 13) (hq : q < 4) (he : eH (a (4 * t + q)) = true) : f_M_accessOf m (nI t) (nI q) = a (4 * t + q) &&& 3 := by
  unfold f_M_accessOf
  rw [cl4' h2 hq]
  exact (hm q hq).2.2.2.2.1 t h1 h2 he
theorem sta_eq {m : MS} {a : Nat → Int32} (hm : RelM m a) {t q : Nat} (h1 : 1 ≤ t) (h2 : t < 13) (hq : q < 4) : f_M_isStatic m (nI t) (nI q) = if eS (a (4 * t + q)) = true then 1 else 0 := by
  unfold f_M_isStatic
  rw [cl (by omega : q < 1000), holds_eq (by omega), (hm q hq).2.1 t (by omega), rg_1 h1 h2, Bool.true_and]
/-- what was found, admitted or not -/
theorem adm_eq (h : RelW T v.1 a0 a1 a2 a3 a4 a5 a6 a7) (hab : AbOK (FN (v.1.1 5)) ab (T + 1)) {a9 : Nat → Int32} (hm : RelM v.2.2 a9) {r q d : Nat} (r1 : 1 ≤ r) (r2 : r ≤ T) (hq : q < 4) (d1 : 1 ≤ d) (d2 : d ≤ T) (he : eH (a9 (4 * r + q)) = true) : (if f_R_usable a3 a5 ab (nI d) (nI r) (a9 (((4 : Int32) * nI r) + nI q).toNatClampNeg) = 0 then (-5 : Int32) else nI r) = f_O_admitted_m v (nI r) (nI q) (nI d) := by
  have hT := h.2.2.1.1
  unfold f_O_admitted_m
  rw [cl4 (by omega) hq, useM_eq h hab (by omega) d1 d2 ((hm q hq).2.2.2.2.2 r (by omega)) he, acc_eq hm r1 (by omega) hq he, if_pos ((i0lt_iff (by omega)).mpr (by omega))]
theorem admf_eq (h : RelW T v.1 a0 a1 a2 a3 a4 a5 a6 a7) (hab : AbOK (FN (v.1.1 5)) ab (T + 1)) {a8 : Nat → Int32} (hm : RelM v.2.1 a8) {r q d : Nat} (r1 : 1 ≤ r) (r2 : r ≤ T) (hq : q < 4) (d1 : 1 ≤ d) (d2 : d ≤ T) (he : eH (a8 (4 * r + q)) = true) : (if f_R_usable a3 a5 ab (nI d) (nI r) (a8 (((4 : Int32) * nI r) + nI q).toNatClampNeg) = 0 then (-5 : Int32) else nI r) = f_O_admitted_f v (nI r) (nI q) (nI d) := by
  have hT := h.2.2.1.1
  unfold f_O_admitted_f
  rw [cl4 (by omega) hq, useM_eq h hab (by omega) d1 d2 ((hm q hq).2.2.2.2.2 r (by omega)) he, acc_eq hm r1 (by omega) hq he, if_pos ((i0lt_iff (by omega)).mpr (by omega))]
theorem ifm_sm (h : RelW T v.1 a0 a1 a2 a3 a4 a5 a6 a7) {a9 : Nat → Int32} (hm : RelM v.2.2 a9) {i q : Nat} (h1 : 1 ≤ i) (h2 : i ≤ T) (hq : q < 4) : sm (f_O_interfaceMethods v (nI i) (nI q)) ∧ cn (f_O_interfaceMethods v (nI i) (nI q)) 12 = cn (f_O_interfaceMethods v (nI i) (nI q)) T := by
  have hT := h.2.2.1.1
  refine ⟨fun j hj hb => ?_, cn_hi 12 (fun j j1 j2 => ?_) hT⟩
  · have := ifm_bit h hm h1 h2 hq hj hb
    omega
  · cases e : bt (f_O_interfaceMethods v (nI i) (nI q)) j with
    | false => rfl
    | true =>
      have := ifm_bit h hm h1 h2 hq (by omega) e
      exfalso; omega
theorem z_ext {x : Int32} (hs : sm x) (h : ∀ j, 1 ≤ j → j ≤ 12 → bt x j = false) : x = 0 := by
  refine b_ext (fun j hj => ?_)
  rw [b_0]
  cases e : bt x j with
  | false => rfl
  | true =>
    have := hs j hj e
    rw [h j this.1 this.2] at e; cases e
/-- the third way: any of the interfaces -/
theorem any_eq (h : RelW T v.1 a0 a1 a2 a3 a4 a5 a6 a7) (hab : AbOK (FN (v.1.1 5)) ab (T + 1)) {a9 : Nat → Int32} (hm : RelM v.2.2 a9) (hI : RelI T a0 a9) {i q d : Nat} (h1 : 1 ≤ i) (h2 : i ≤ T) (hq : q < 4) : (lb1_R_findAbove_40 (nI T) a0 a9 ab (nI i) (nI q) 14 0 (nI T) 0 = f_J_bitCount (f_O_interfaceMethods v (nI i) (nI q))) ∧ ((f_O_interfaceMethods v (nI i) (nI q) = 0 ∧ lr_R_findAbove_40 (nI T) a0 a9 ab (nI i) (nI q) 14 0 (nI T) 0 = 0) ∨ (¬ f_O_interfaceMethods v (nI i) (nI q) = 0 ∧ ∃ r, 1 ≤ r ∧ r ≤ T ∧ lr_R_findAbove_40 (nI T) a0 a9 ab (nI i) (nI q) 14 0 (nI T) 0 = nI r ∧ f_O_leastOf (f_O_interfaceMethods v (nI i) (nI q)) = nI r ∧ eH (a9 (4 * r + q)) = true ∧ eS (a9 (4 * r + q)) = false ∧ f_R_usable a3 a5 ab (nI d) (nI r) (a9 (4 * r + q)) = 1)) := by
  have hT := h.2.2.1.1
  obtain ⟨hs, hc⟩ := ifm_sm h hm h1 h2 hq
  obtain ⟨f1, f2, f3⟩ := fa_loop (T := T) (a0 := a0) (ab := ab) (cand_eq h hab hm h1 h2 hq) 14 T 0 0 (by omega) (by omega)
  rw [nI_0] at f1 f2 f3
  refine ⟨?_, ?_⟩
  · rw [f3, bc_cn hs, hc, Int32.zero_add]
  · rcases least_sp (x := f_O_interfaceMethods v (nI i) (nI q)) with ⟨s1, s2⟩ | ⟨r, s1, s2, s3, s4, s5⟩
    · exact Or.inl ⟨z_ext hs s1, f1 (fun j j1 j2 => s1 j j1 (by omega))⟩
    · have hb := ifm_bit h hm h1 h2 hq (by omega) s3
      refine Or.inr ⟨(fun z => by rw [z, b_0] at s3; cases s3), r, s1, hb.2.2.2.1, f2 r s1 hb.2.2.2.1 s3 s4, s5, hb.2.2.2.2.2.1, hb.2.2.2.2.2.2.1, ?_⟩
      have h3 : a9 (4 * r + q) &&& 3 = 3 := by
        rcases (hI r q s1 (by omega) hq).2 hb.2.2.2.1 hb.2.2.2.2.1 hb.2.2.2.2.2.1 with z | z
        · have := hb.2.2.2.2.2.2.2
          unfold eP at this
          rw [hb.2.2.2.2.2.1, z] at this
          exact absurd this (by decide)
        · exact z
      unfold f_R_usable
      rw [if_pos h3]
theorem res_eq (h : RelW T v.1 a0 a1 a2 a3 a4 a5 a6 a7) (hab : AbOK (FN (v.1.1 5)) ab (T + 1)) {a8 a9 a12 : Nat → Int32} (hm : RelM v.2.2 a9) (hI : RelI T a0 a9) {kd inI : Int32} (hk : (kd = 1 ∧ inI = 0) ∨ (kd = 2 ∧ inI = 1)) {d c q : Nat} (d1 : 1 ≤ d) (d2 : d ≤ T) (c1 : 1 ≤ c) (c2 : c ≤ T) (hq : q < 4) : f_R_resolved (nI T) a0 a1 a3 a4 a5 a6 a7 a8 a9 ab a12 kd (nI d) (nI c) (nI q) = f_O_resolveMethod v inI (nI d) (nI c) (nI q) ∧ s_R_resolved_b1 (nI T) a0 a1 a3 a4 a5 a6 a7 a8 a9 ab a12 kd (nI d) (nI c) (nI q) = s_O_resolveMethod v inI (nI d) (nI c) (nI q) ∧ (f_O_resolveMethod v inI (nI d) (nI c) (nI q) < 0 ∨ ∃ r, 1 ≤ r ∧ r ≤ T ∧ f_O_resolveMethod v inI (nI d) (nI c) (nI q) = nI r ∧ eH (a9 (4 * r + q)) = true) := by
  have hT := h.2.2.1.1
  have hm5 : (-5 : Int32) < 0 := by decide
  have hm6 : (-6 : Int32) < 0 := by decide
  have hm4 : (-4 : Int32) < 0 := by decide
  have h01 := h.2.2.2.2.2.2.1 c (by omega)
  -- the method's part, once the kind fits
  have core : IN a0 c = decide (¬ kd = 1) → ∀ M B : Int32, M = f_R_findMethod (nI T) 0 a0 a4 a9 ab kd (nI c) (nI q) → B = s_R_findMethod_b1 (nI T) 0 a0 a4 a9 ab kd (nI c) (nI q) → ∀ A S : Int32, A = (if (f_O_greatestOf ((f_W_chain v.1 (nI c)) &&& (f_M_owners v.2.2 (nI q)))) = (0 : Int32) then (if (f_O_bestOfInterfaces v (nI c) (nI q)) ≤ (0 : Int32) then (if (f_O_interfaceMethods v (nI c) (nI q)) = (0 : Int32) then (-4 : Int32) else (f_O_leastOf (f_O_interfaceMethods v (nI c) (nI q)))) else (f_O_admitted_m v (f_O_bestOfInterfaces v (nI c) (nI q)) (nI q) (nI d))) else (if (f_O_greatestOf ((f_W_chain v.1 (nI c)) &&& (f_M_owners v.2.2 (nI q)))) ≤ (0 : Int32) then (if (f_O_interfaceMethods v (nI c) (nI q)) = (0 : Int32) then (-4 : Int32) else (f_O_leastOf (f_O_interfaceMethods v (nI c) (nI q)))) else (f_O_admitted_m v (f_O_greatestOf ((f_W_chain v.1 (nI c)) &&& (f_M_owners v.2.2 (nI q)))) (nI q) (nI d)))) → S = (if (f_O_greatestOf ((f_W_chain v.1 (nI c)) &&& (f_M_owners v.2.2 (nI q)))) = (0 : Int32) then (if (f_O_bestOfInterfaces v (nI c) (nI q)) ≤ (0 : Int32) then (if (f_O_interfaceMethods v (nI c) (nI q)) = (0 : Int32) then (f_J_bitCount (f_O_interfaceMethods v (nI c) (nI q))) else (f_J_bitCount (f_O_interfaceMethods v (nI c) (nI q)))) else (1 : Int32)) else (if (f_O_greatestOf ((f_W_chain v.1 (nI c)) &&& (f_M_owners v.2.2 (nI q)))) ≤ (0 : Int32) then (if (f_O_interfaceMethods v (nI c) (nI q)) = (0 : Int32) then (f_J_bitCount (f_O_interfaceMethods v (nI c) (nI q))) else (f_J_bitCount (f_O_interfaceMethods v (nI c) (nI q)))) else (1 : Int32))) → (if M = 0 then (-4 : Int32) else (if f_R_usable a3 a5 ab (nI d) M (a9 (((4 : Int32) * M) + nI q).toNatClampNeg) = 0 then (-5 : Int32) else M)) = A ∧ (if M = 0 then B else (if f_R_usable a3 a5 ab (nI d) M (a9 (((4 : Int32) * M) + nI q).toNatClampNeg) = 0 then B else B)) = S ∧ (A < 0 ∨ ∃ r, 1 ≤ r ∧ r ≤ T ∧ A = nI r ∧ eH (a9 (4 * r + q)) = true) := by
    intro hIN M B hM hB A S hA hS
    have hBB : (if M = 0 then B else (if f_R_usable a3 a5 ab (nI d) M (a9 (((4 : Int32) * M) + nI q).toNatClampNeg) = 0 then B else B)) = B := by split <;> first | rfl | (split <;> rfl)
    rw [hBB]
    have ho : f_M_owners v.2.2 (nI q) = v.2.2 0 q := by unfold f_M_owners; rw [cl (by omega : q < 1000)]
    rw [ho] at hA hS
    have fm := fm_loop (ab := ab) h hm (b1 := 0) (kd := kd) (p := nI c) hq 14 c c1 c2 (by omega) hIN
    unfold f_R_findMethod at hM
    unfold s_R_findMethod_b1 at hB
    have adm : ∀ r, 1 ≤ r → r ≤ T → eH (a9 (4 * r + q)) = true → M = nI r → A = f_O_admitted_m v (nI r) (nI q) (nI d) → (if M = 0 then (-4 : Int32) else (if f_R_usable a3 a5 ab (nI d) M (a9 (((4 : Int32) * M) + nI q).toNatClampNeg) = 0 then (-5 : Int32) else M)) = A ∧ (A < 0 ∨ ∃ r, 1 ≤ r ∧ r ≤ T ∧ A = nI r ∧ eH (a9 (4 * r + q)) = true) := by
      intro r r1 r2 he eM eA
      rw [eM, if_neg (fun z => by have := (i0_iff (by omega)).mp z; omega), adm_eq h hab hm r1 r2 hq d1 d2 he, eA]
      refine ⟨rfl, ?_⟩
      rw [← adm_eq h hab hm r1 r2 hq d1 d2 he]
      split
      · exact Or.inl hm5
      · exact Or.inr ⟨r, r1, r2, rfl, he⟩
    rcases fm with ⟨g0, g1, g2⟩ | ⟨g0, g1, g2⟩
    · rw [g1] at hM
      rw [g2] at hB
      rw [if_pos g0] at hA hS
      unfold f_R_findAbove at hM
      unfold s_R_findAbove_b1 at hB
      have anyc : f_R_only (nI T) a9 (f_R_maximals (nI T) a0 a9 ab (nI c) (nI q)) (nI q) ≤ 0 → f_O_bestOfInterfaces v (nI c) (nI q) ≤ 0 → (if M = 0 then (-4 : Int32) else (if f_R_usable a3 a5 ab (nI d) M (a9 (((4 : Int32) * M) + nI q).toNatClampNeg) = 0 then (-5 : Int32) else M)) = A ∧ B = S ∧ (A < 0 ∨ ∃ r, 1 ≤ r ∧ r ≤ T ∧ A = nI r ∧ eH (a9 (4 * r + q)) = true) := by
        intro o1 o2
        rw [if_pos o1] at hM hB
        rw [if_pos o2] at hA hS
        obtain ⟨k1, k2⟩ := any_eq (d := d) h hab hm hI c1 c2 hq
        have hBS : B = S := by
          rw [hB, hS, k1]
          split <;> rfl
        rcases k2 with ⟨z0, z1⟩ | ⟨z0, r, r1, r2, z1, z2, z3, -, z4⟩
        · rw [z1] at hM
          rw [if_pos z0] at hA
          rw [if_pos hM, hA]
          exact ⟨rfl, hBS, Or.inl hm4⟩
        · rw [z1] at hM
          rw [if_neg z0, z2] at hA
          rw [hM, if_neg (fun z => by have := (i0_iff (by omega)).mp z; omega), cl4 (by omega) hq, z4, if_neg (by decide), hA]
          exact ⟨rfl, hBS, Or.inr ⟨r, r1, r2, rfl, z3⟩⟩
      rcases best_sp h hab hm c1 c2 hq with ⟨e1, e2⟩ | ⟨r, r1, r2, e1, e2, e3, -⟩ | ⟨e1, e2⟩
      · exact anyc (by rw [e1]; decide) (by rw [e2]; decide)
      · have hn : ¬ nI r ≤ 0 := fun z => by have := (ile0_iff (by omega)).mp z; omega
        rw [e1, if_neg hn] at hM
        rw [e1, if_neg hn] at hB
        rw [e2, if_neg hn] at hA
        rw [e2, if_neg hn] at hS
        have hb := ifm_bit h hm c1 c2 hq (by omega) e3
        obtain ⟨y1, y2⟩ := adm r r1 r2 hb.2.2.2.2.2.1 hM hA
        exact ⟨y1, by rw [hB, hS], y2⟩
      · exact anyc (by rw [Int32.lt_iff_toInt_lt] at e1; rw [Int32.le_iff_toInt_le]; omega) (by rw [e2]; decide)
    · rw [g1] at hM
      rw [g2] at hB
      rw [if_neg g0] at hA hS
      rcases gr_sp h c1 c2 (x := v.2.2 0 q) with z | ⟨r, r1, r2, r3, -, r4⟩
      · exact absurd z g0
      · rw [r4] at hM hA hS
        have hn : ¬ nI r ≤ 0 := fun z => by have := (ile0_iff (by omega)).mp z; omega
        rw [if_neg hn] at hA hS
        have he : eH (a9 (4 * r + q)) = true := by
          rw [own_iff hm r1 (by omega) hq] at r3
          unfold eH; simpa using r3
        obtain ⟨y1, y2⟩ := adm r r1 r2 he hM hA
        exact ⟨y1, by rw [hB, hS], y2⟩
  unfold f_R_resolved s_R_resolved_b1 f_O_resolveMethod s_O_resolveMethod
  rw [useT_eq h (by omega) (by omega), ifc_iff h c1 c2, cl (by omega : c < 1000)]
  by_cases u : f_W_mayUseType v.1 (nI c) (nI d) = 0
  · simp only [if_pos u]; exact ⟨trivial, trivial, Or.inl hm5⟩
  · simp only [if_neg u]
    rcases hk with ⟨rfl, rfl⟩ | ⟨rfl, rfl⟩
    · simp only [if_neg (by decide : ¬ (1 : Int32) = 0), if_neg (by decide : ¬ (1 : Int32) = 2)]
      by_cases c0 : a0 c = 0
      · simp only [if_pos c0]
        exact core (by unfold IN; simp [c0]) _ _ rfl rfl _ _ rfl rfl
      · simp only [if_neg c0]; exact ⟨trivial, trivial, Or.inl hm6⟩
    · simp only [if_neg (by decide : ¬ (2 : Int32) = 0), ↓reduceIte]
      by_cases c0 : a0 c = 1
      · simp only [if_pos c0]
        exact core (by unfold IN; rw [c0]; decide) _ _ rfl rfl _ _ rfl rfl
      · simp only [if_neg c0]; exact ⟨trivial, trivial, Or.inl hm6⟩
/-- a field's resolution -/
theorem resf_eq (h : RelW T v.1 a0 a1 a2 a3 a4 a5 a6 a7) (hab : AbOK (FN (v.1.1 5)) ab (T + 1)) {a8 a9 a12 : Nat → Int32} (hm : RelM v.2.1 a8) {d c q : Nat} (d1 : 1 ≤ d) (d2 : d ≤ T) (c1 : 1 ≤ c) (c2 : c ≤ T) (hq : q < 4) : f_R_resolved (nI T) a0 a1 a3 a4 a5 a6 a7 a8 a9 ab a12 0 (nI d) (nI c) (nI q) = f_O_admitted_f v (f_O_findField v (nI d) (nI c) (nI q)) (nI q) (nI d) ∧ s_R_resolved_b1 (nI T) a0 a1 a3 a4 a5 a6 a7 a8 a9 ab a12 0 (nI d) (nI c) (nI q) = (if f_O_findField v (nI d) (nI c) (nI q) ≤ 0 then 0 else 1) ∧ (f_O_admitted_f v (f_O_findField v (nI d) (nI c) (nI q)) (nI q) (nI d) < 0 ∨ ∃ r, 1 ≤ r ∧ r ≤ T ∧ f_O_admitted_f v (f_O_findField v (nI d) (nI c) (nI q)) (nI q) (nI d) = nI r ∧ eH (a8 (4 * r + q)) = true) := by
  have hT := h.2.2.1.1
  have hneg : ∀ x : Int32, x < 0 → f_O_admitted_f v x (nI q) (nI d) = x := by
    intro x hx
    unfold f_O_admitted_f
    rw [if_neg (fun z => by rw [Int32.lt_iff_toInt_lt] at hx z; omega)]
  unfold f_R_resolved s_R_resolved_b1 f_O_findField
  rw [useT_eq h (by omega) (by omega), ff_eq h hm c1 c2 hq]
  by_cases u : f_W_mayUseType v.1 (nI c) (nI d) = 0
  · simp only [if_pos u]
    rw [hneg (-5) (by decide)]
    exact ⟨rfl, by decide, Or.inl (by decide)⟩
  · simp only [if_neg u, ↓reduceIte]
    rcases se_sp h hm c1 c2 hq with z | ⟨r, r1, r2, e, he⟩
    · simp only [if_pos z]
      rw [hneg (-3) (by decide)]
      exact ⟨rfl, by decide, Or.inl (by decide)⟩
    · rw [e]
      have hn0 : ¬ nI r = 0 := fun z => by have := (i0_iff (by omega)).mp z; omega
      have hn1 : ¬ nI r ≤ 0 := fun z => by have := (ile0_iff (by omega)).mp z; omega
      simp only [if_neg hn0, if_neg hn1]
      refine ⟨admf_eq h hab hm r1 r2 hq d1 d2 he, by split <;> rfl, ?_⟩
      rw [← admf_eq h hab hm r1 r2 hq d1 d2 he]
      split
      · exact Or.inl (by decide)
      · exact Or.inr ⟨r, r1, r2, rfl, he⟩
end
theorem abR {v : ES} {T : Nat} {a0 a1 a2 a3 a4 a5 a6 a7 a10 : Nat → Int32} (hw : RelW T v.1 a0 a1 a2 a3 a4 a5 a6 a7) : AbOK (FN (v.1.1 5)) (s_R_closeAbove_a10 (nI T) a4 a6 a7 a10) (T + 1) := ca_ok hw.2.2.1 hw.2.2.2.2.2.2.2.1 hw.2.2.2.2.2.2.2.2.1 hw.2.2.2.2.2.2.2.2.2
theorem e4_lt : ∀ c, c < 4 → ∀ f, f < 3 → nI (c + 4 * f) < 8 → (nI (c + 4 * f) < 4 ↔ eS (nI (c + 4 * f)) = false) := by decide +kernel
theorem q_use {v : ES} {lc b0 b1 : Int32} {a0 a1 a2 a3 a4 a5 a6 a7 a8 a9 a11 : Nat → Int32} (h : Rel v lc b0 b1 a0 a1 a2 a3 a4 a5 a6 a7 a8 a9 a11) {a10 a12 : Nat → Int32} {p1 p2 p3 p4 : Int32} : f_O_use v p1 p2 p3 p4 = f_R_use b0 a0 a1 a3 a4 a5 a6 a7 a8 a9 a10 a12 p1 p2 p3 p4 := by
  obtain ⟨⟨T, rfl, hw⟩, hl, hm1, hm2, -, -, hF⟩ := h
  have hT := hw.2.2.1.1
  unfold f_O_use f_R_use
  rw [has_there hw.1, has_there hw.1, name_eq]
  by_cases c2 : f_R_there (nI T) p1 = (0 : Int32)
  · simp only [if_pos c2]
  · simp only [if_neg c2]
    by_cases c3 : f_R_there (nI T) p2 = (0 : Int32)
    · simp only [if_pos c3]
    · simp only [if_neg c3]
      by_cases c4 : f_R_in p3 (0 : Int32) (3 : Int32) = (0 : Int32)
      · simp only [if_pos c4]
      · simp only [if_neg c4]
        obtain ⟨d, rfl, d1, d2⟩ := there_k hT c2
        obtain ⟨c, rfl, c1, c2'⟩ := there_k hT c3
        obtain ⟨q, rfl, hq⟩ := name_k c4
        obtain ⟨r1, -, r3⟩ := resf_eq hw (abR (a10 := a10) hw) (a9 := a9) (a12 := a12) hm1 d1 d2 c1 c2' hq
        rw [r1]
        rcases r3 with z | ⟨r, s1, s2, e, he⟩
        · have hle : f_O_admitted_f v (f_O_findField v (nI d) (nI c) (nI q)) (nI q) (nI d) ≤ 0 := by
            rw [Int32.lt_iff_toInt_lt] at z
            rw [Int32.le_iff_toInt_le]; omega
          rw [if_pos hle, if_pos hle]
        · rw [e]
          have hn1 : ¬ nI r ≤ 0 := fun z => by have := (ile0_iff (by omega)).mp z; omega
          rw [if_neg hn1, if_neg hn1, sta_eq hm1 s1 (by omega) hq, cl4 (by omega) hq]
          have hlt : a8 (4 * r + q) < 4 ↔ eS (a8 (4 * r + q)) = false := by
            rcases (hm1 q hq).2.2.2.2.2 r (by omega) with z | ⟨cc, ff, g1, g2, g3⟩
            · rw [z, e_m1.1] at he; cases he
            · have h8 := hF r q (by omega) hq
              rw [g3] at h8 ⊢
              exact e4_lt cc g1 ff g2 h8
          by_cases c5 : eS (a8 (4 * r + q)) = true
          · have hh : ¬ a8 (4 * r + q) < 4 := fun z => by rw [hlt.mp z] at c5; cases c5
            rw [if_pos c5, if_neg hh]
          · have hh : a8 (4 * r + q) < 4 := hlt.mpr (by simpa using c5)
            rw [if_neg c5, if_pos hh]
theorem q_resolve {v : ES} {lc b0 b1 : Int32} {a0 a1 a2 a3 a4 a5 a6 a7 a8 a9 a11 : Nat → Int32} (h : Rel v lc b0 b1 a0 a1 a2 a3 a4 a5 a6 a7 a8 a9 a11) {a10 a12 : Nat → Int32} {p1 p2 p3 p4 : Int32} : f_O_resolve v lc p1 p2 p3 p4 = f_R_resolve b0 b1 a0 a1 a3 a4 a5 a6 a7 a8 a9 a10 a12 p1 p2 p3 p4 ∧ s_O_resolve v lc p1 p2 p3 p4 = s_R_resolve_b1 b0 b1 a0 a1 a3 a4 a5 a6 a7 a8 a9 a10 a12 p1 p2 p3 p4 := by
  obtain ⟨⟨T, rfl, hw⟩, hl, hm1, hm2, -, hx, -⟩ := h
  have hT := hw.2.2.1.1
  have hI := hx T hT rfl
  unfold f_O_resolve f_R_resolve s_O_resolve s_R_resolve_b1
  rw [has_there hw.1, has_there hw.1, name_eq]
  by_cases c2 : f_R_there (nI T) p2 = (0 : Int32)
  · simp only [if_pos c2]
    split <;> exact ⟨rfl, hl⟩
  · simp only [if_neg c2]
    by_cases c3 : f_R_there (nI T) p3 = (0 : Int32)
    · simp only [if_pos c3]
      split <;> exact ⟨rfl, hl⟩
    · simp only [if_neg c3]
      by_cases c4 : f_R_in p4 (0 : Int32) (3 : Int32) = (0 : Int32)
      · simp only [if_pos c4]
        split <;> exact ⟨rfl, hl⟩
      · simp only [if_neg c4]
        obtain ⟨d, rfl, d1, d2⟩ := there_k hT c2
        obtain ⟨c, rfl, c1, c2'⟩ := there_k hT c3
        obtain ⟨q, rfl, hq⟩ := name_k c4
        by_cases k : f_R_in p1 (0 : Int32) (2 : Int32) = (0 : Int32)
        · have k0 : ¬ p1 = 0 := fun z => by rw [z] at k; exact absurd k (by decide +kernel)
          have k1 : ¬ p1 = 1 := fun z => by rw [z] at k; exact absurd k (by decide +kernel)
          have k2 : ¬ p1 = 2 := fun z => by rw [z] at k; exact absurd k (by decide +kernel)
          simp only [if_pos k, if_neg k0, if_neg k1, if_neg k2]
          exact ⟨trivial, hl⟩
        · simp only [if_neg k]
          obtain ⟨j, rfl, hj⟩ := in_k3 (m := 2) (by decide +kernel) (by omega) k
          rcases (by omega : j = 0 ∨ j = 1 ∨ j = 2) with rfl | rfl | rfl
          · rw [nI_0]
            obtain ⟨r1, r2, -⟩ := resf_eq hw (abR (a10 := a10) hw) (a9 := a9) (a12 := a12) hm1 d1 d2 c1 c2' hq
            rw [r1, r2]
            simp only [↓reduceIte]
            exact ⟨by split <;> rfl, by trivial⟩
          · obtain ⟨r1, r2, -⟩ := res_eq hw (abR (a10 := a10) hw) (a8 := a8) (a12 := a12) hm2 hI (kd := nI 1) (Or.inl ⟨rfl, rfl⟩) d1 d2 c1 c2' hq
            rw [r1, r2]
            simp only [if_neg (by decide : ¬ nI 1 = (0 : Int32)), if_pos (by decide : nI 1 = (1 : Int32))]
            exact ⟨trivial, trivial⟩
          · obtain ⟨r1, r2, -⟩ := res_eq hw (abR (a10 := a10) hw) (a8 := a8) (a12 := a12) hm2 hI (kd := nI 2) (Or.inr ⟨rfl, rfl⟩) d1 d2 c1 c2' hq
            rw [r1, r2]
            simp only [if_neg (by decide : ¬ nI 2 = (0 : Int32)), if_neg (by decide : ¬ nI 2 = (1 : Int32)), if_pos (by decide : nI 2 = (2 : Int32))]
            exact ⟨trivial, trivial⟩
