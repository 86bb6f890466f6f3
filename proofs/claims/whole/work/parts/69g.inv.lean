/-! SELECTION and INVOKE -/
section
variable {T : Nat} {v : ES} {a0 a1 a2 a3 a4 a5 a6 a7 ab : Nat → Int32}
/-- the walk down the numbers and the walk up the superclasses meet the same types -/
theorem sel_loop (h : RelW T v.1 a0 a1 a2 a3 a4 a5 a6 a7) {a9 a10 a11 : Nat → Int32} (hm : RelM v.2.2 a9) (hI : RelI T a0 a9) {q : Nat} (hq : q < 4) {r t : Nat} (r1 : 1 ≤ r) (r2 : r ≤ T) (hr : IN a0 r = false) (t1 : 1 ≤ t) (t2 : t ≤ T) : ∀ (n k c m : Nat), k + 1 ≤ n → k ≤ 12 → c ≤ k → c + 1 ≤ m → (c = 0 ∨ (IN a0 c = false ∧ FN (v.1.1 5) r c = true)) → (∀ j, c < j → j ≤ k → ¬ (FN (v.1.1 5) r j = true ∧ IN a0 j = false)) → lr_O_select v (nI r) (nI t) (nI q) n (nI k) = lr_R_selected_19 (nI T) a0 a3 a4 a6 a7 a9 a10 a11 (nI r) (nI t) (nI q) m (nI c) := by
  have hw := h.2.2.1
  have hT := hw.1
  have hpa := h.2.2.2.2.2.2.2.1
  have hchb : ∀ j, 1 ≤ j → j < 32 → (bt (f_W_chain v.1 (nI r)) j = true ↔ (FN (v.1.1 5) r j = true ∧ IN a0 j = false)) := by
    intro j j1 hj
    rw [ch_bit h r1 r2 hj]
    constructor
    · rintro (z | z)
      · exact z
      · rw [z]; exact ⟨F_refl hw r1 r2, hr⟩
    · intro z; exact Or.inl z
  intro n
  induction n with
  | zero => intro k c m h1; exfalso; omega
  | succ n ih =>
    intro k c m h1 h2 h3 h4 h5 h6
    rw [lr_O_select_s]
    cases k with
    | zero =>
      have : c = 0 := by omega
      subst this
      obtain ⟨m, rfl⟩ : ∃ j, m = j + 1 := ⟨m - 1, by omega⟩
      rw [if_pos (by decide : nI 0 < (1 : Int32)), lr_R_selected_19_s, if_pos (by decide : nI 0 ≤ (0 : Int32))]
      unfold s_R_fillCan_a10
      have h10 := fi_10 hT (a3 := a3) (a4 := a4) (a6 := a6) (a7 := a7) (a9 := a9) (a10 := a10) (p1 := nI q) 14 1 a11 (by omega) (by omega)
      rw [show nI 1 = (1 : Int32) from rfl] at h10
      rw [h10]
      exact (coded_eq h (abR h) hm r1 r2 hq).symm
    | succ k =>
      rw [if_neg (fun z => by have := (ilt1_iff (by omega)).mp z; omega), pk_m1]
      by_cases e : c = k + 1
      · subst e
        rcases h5 with z | ⟨g1, g2⟩
        · exfalso; omega
        · rw [if_neg ((hb1 (by omega)).mpr ((hchb (k + 1) (by omega) (by omega)).mpr ⟨g2, g1⟩))]
          obtain ⟨m, rfl⟩ : ∃ j, m = j + 1 := ⟨m - 1, by omega⟩
          have hcl := F_le hw r r1 r2 (k + 1) g2
          have hco := co_eq h hm hq (can_ok h (a10 := a10) (a11 := a11) hm hI hq) (c := k + 1) (by omega) (by omega) g1 t1 t2
          have hn0 : ¬ nI (k + 1) ≤ 0 := fun z => by have := (ile0_iff (by omega)).mp z; omega
          rw [lr_R_selected_19_s, if_neg hn0, cl13 (by omega) (by omega), cl (by omega : k + 1 < 1000), par_nI hpa (by omega)]
          by_cases k1 : s_R_fillCan_a11 (nI T) a3 a4 a6 a7 a9 a10 a11 (nI q) (13 * (k + 1) + t) = 0
          · rw [if_pos k1, if_pos (Decidable.byContradiction (fun w => hco.mp w k1))]
            have hq2 := (hw.2 (k + 1) (by omega) (by omega)).1
            refine ih k (parN a4 (k + 1)) m (by omega) (by omega) (by omega) (by omega) ?_ (fun j j1 j2 z => ?_)
            · by_cases p0 : parN a4 (k + 1) = 0
              · exact Or.inl p0
              · refine Or.inr ⟨hq2.2.1 p0, F_trans hw r r1 r2 (k + 1) g2 ?_⟩
                exact F_step hw (by omega) (by omega) (Or.inl ⟨p0, rfl⟩) (F_refl hw (by omega) (by omega))
            · have hl := F_lin hw r r1 r2 j (k + 1) z.2 g1 z.1 g2 (by omega)
              rcases (F_cls hw (by omega) (by omega) z.2).mp hl with w | ⟨w1, w2⟩
              · omega
              · have := F_le hw (parN a4 (k + 1)) (by omega) (by omega) j w2
                omega
          · rw [if_neg k1, if_neg (hco.mpr k1)]
      · have hno : bt (f_W_chain v.1 (nI r)) (k + 1) = false := by
          cases w : bt (f_W_chain v.1 (nI r)) (k + 1) with
          | false => rfl
          | true => exact absurd ((hchb (k + 1) (by omega) (by omega)).mp w) (h6 (k + 1) (by omega) (by omega))
        rw [if_pos ((hb0 (by omega)).mpr hno)]
        exact ih k c m (by omega) (by omega) (by omega) h4 h5 (fun j j1 j2 => h6 j j1 (by omega))
/-- what is selected has the method, or is a code -/
theorem sel_sp (h : RelW T v.1 a0 a1 a2 a3 a4 a5 a6 a7) {a9 : Nat → Int32} (hm : RelM v.2.2 a9) {tb : Nat → Nat → Prop} {q : Nat} (hq : q < 4) (hO : OvT T (IN a0) (FN (v.1.1 5)) (insB a9 q) (accN a9 q) a3 tb) {r t : Nat} (r1 : 1 ≤ r) (r2 : r ≤ T) (hr : IN a0 r = false) (t1 : 1 ≤ t) (t2 : t ≤ T) : ∀ (n k : Nat), k + 1 ≤ n → k ≤ r → (lr_O_select v (nI r) (nI t) (nI q) n (nI k) < 0 ∨ ∃ s, 1 ≤ s ∧ s ≤ T ∧ lr_O_select v (nI r) (nI t) (nI q) n (nI k) = nI s ∧ eH (a9 (4 * s + q)) = true) := by
  have hw := h.2.2.1
  have hT := hw.1
  intro n
  induction n with
  | zero => intro k h1; exfalso; omega
  | succ n ih =>
    intro k h1 h2
    rw [lr_O_select_s]
    cases k with
    | zero =>
      rw [if_pos (by decide : nI 0 < (1 : Int32))]
      rcases best_sp h (abR (a10 := fun _ => 0) h) hm r1 r2 hq with ⟨-, e2⟩ | ⟨s, s1, s2, -, e2, e3, -⟩ | ⟨-, e2⟩
      · rw [e2]; exact Or.inl (by decide)
      · rw [e2]; exact Or.inr ⟨s, s1, s2, rfl, (ifm_bit h hm r1 r2 hq (by omega) e3).2.2.2.2.2.1⟩
      · rw [e2]; exact Or.inl (by decide)
    | succ k =>
      rw [if_neg (fun z => by have := (ilt1_iff (by omega)).mp z; omega), pk_m1]
      by_cases w : bt (f_W_chain v.1 (nI r)) (k + 1) = true
      · rw [if_neg ((hb1 (by omega)).mpr w)]
        by_cases c : f_O_canOverride v (nI (k + 1)) (nI t) (nI q) = 0
        · rw [if_pos c]; exact ih k (by omega) (by omega)
        · rw [if_neg c]
          refine Or.inr ⟨k + 1, by omega, by omega, rfl, ?_⟩
          have hI : IN a0 (k + 1) = false := by
            rcases (ch_bit h r1 r2 (by omega)).mp w with z | z
            · exact z.2
            · rw [z]; exact hr
          have hx := (hO (k + 1) t (by omega) (by omega) hI t1 t2).mp ((co_eq h hm hq hO (by omega) (by omega) hI t1 t2).mp c)
          have := hx.1
          unfold insB at this
          rw [Bool.and_eq_true] at this
          exact this.1
      · rw [if_pos ((hb0 (by omega)).mpr (by simpa using w))]; exact ih k (by omega) (by omega)
theorem sel_eq (h : RelW T v.1 a0 a1 a2 a3 a4 a5 a6 a7) {a9 a10 a11 : Nat → Int32} (hm : RelM v.2.2 a9) (hI : RelI T a0 a9) {q : Nat} (hq : q < 4) {r t : Nat} (r1 : 1 ≤ r) (r2 : r ≤ T) (hr : IN a0 r = false) (t1 : 1 ≤ t) (t2 : t ≤ T) (he : eH (a9 (4 * t + q)) = true) : f_R_selected (nI T) a0 a3 a4 a6 a7 a9 a10 a11 (nI r) (nI t) (nI q) = f_O_select v (nI r) (nI t) (nI q) ∧ (f_O_select v (nI r) (nI t) (nI q) < 0 ∨ ∃ s, 1 ≤ s ∧ s ≤ T ∧ f_O_select v (nI r) (nI t) (nI q) = nI s ∧ eH (a9 (4 * s + q)) = true) := by
  have hT := h.2.2.1.1
  unfold f_R_selected f_O_select
  rw [acc_eq hm t1 (by omega) hq he]
  have hp : f_R_isPrivate a9 (nI t) (nI q) = 0 ↔ ¬ (a9 (4 * t + q) &&& 3) = 0 := by
    unfold f_R_isPrivate
    rw [cl4 (by omega) hq]
    by_cases z : (a9 (4 * t + q) &&& 3) = 0
    · rw [if_pos z]; exact ⟨fun w => absurd w (by decide), fun w => absurd z w⟩
    · rw [if_neg z]; exact ⟨fun _ => z, fun _ => rfl⟩
  by_cases z : (a9 (4 * t + q) &&& 3) = 0
  · rw [if_pos z, if_neg (fun w => hp.mp w z)]
    exact ⟨rfl, Or.inr ⟨t, t1, t2, rfl, he⟩⟩
  · rw [if_neg z, if_pos (hp.mpr z)]
    refine ⟨?_, sel_sp h hm hq (can_ok h (a10 := a10) (a11 := a11) hm hI hq) r1 r2 hr t1 t2 14 r (by omega) (by omega)⟩
    exact (sel_loop h hm hI hq r1 r2 hr t1 t2 14 r r 14 (by omega) (by omega) (by omega) (by omega) (Or.inr ⟨hr, F_refl h.2.2.1 r1 r2⟩) (fun j j1 j2 => by exfalso; omega)).symm
theorem run_eq (h : RelW T v.1 a0 a1 a2 a3 a4 a5 a6 a7) {a9 : Nat → Int32} (hm : RelM v.2.2 a9) {q s : Nat} (hq : q < 4) (s1 : 1 ≤ s) (s2 : s ≤ T) (he : eH (a9 (4 * s + q)) = true) : f_R_withCode a9 (nI s) (nI q) = f_O_runnable v (nI s) (nI q) := by
  have hT := h.2.2.1.1
  have hn : ¬ nI s ≤ 0 := fun z => by have := (ile0_iff (by omega)).mp z; omega
  unfold f_R_withCode f_O_runnable f_M_abstracts
  rw [if_neg hn, if_neg hn, cl (by omega : q < 1000)]
  have hb : bt (v.2.2 2 q) s = eA (a9 (4 * s + q)) := by rw [(hm q hq).2.2.1 s (by omega), rg_1 s1 (by omega), Bool.true_and]
  by_cases c : eA (a9 (4 * s + q)) = true
  · rw [if_neg (fun z => by rw [(e_abs (by omega) hq he).mp z] at c; cases c), if_neg ((hb1 (by omega)).mpr (by rw [hb]; exact c))]
  · rw [if_pos ((e_abs (by omega) hq he).mpr (by simpa using c)), if_pos ((hb0 (by omega)).mpr (by rw [hb]; simpa using c))]
theorem run_neg {x y : Int32} (hx : x < 0) : f_O_runnable v x y = x := by
  unfold f_O_runnable
  rw [if_pos (by rw [Int32.lt_iff_toInt_lt] at hx; rw [Int32.le_iff_toInt_le]; omega)]
theorem run_best (h : RelW T v.1 a0 a1 a2 a3 a4 a5 a6 a7) {a9 : Nat → Int32} (hm : RelM v.2.2 a9) {q i : Nat} (hq : q < 4) (h1 : 1 ≤ i) (h2 : i ≤ T) : f_O_runnable v (f_O_bestOfInterfaces v (nI i) (nI q)) (nI q) = f_O_bestOfInterfaces v (nI i) (nI q) := by
  have hT := h.2.2.1.1
  rcases best_sp h (abR (a10 := fun _ => 0) h) hm h1 h2 hq with ⟨-, e2⟩ | ⟨s, s1, s2, -, e2, e3, e4⟩ | ⟨-, e2⟩
  · rw [e2]; exact run_neg (by decide)
  · rw [e2]
    have hn : ¬ nI s ≤ 0 := fun z => by have := (ile0_iff (by omega)).mp z; omega
    unfold f_O_runnable f_M_abstracts
    rw [if_neg hn, cl (by omega : q < 1000), if_pos]
    rw [hb0 (by omega), (hm q hq).2.2.1 s (by omega), e4, Bool.and_false]
  · rw [e2]; exact run_neg (by decide)
/-- the walk of SPECIAL -/
theorem sp_loop (h : RelW T v.1 a0 a1 a2 a3 a4 a5 a6 a7) (hab : AbOK (FN (v.1.1 5)) ab (T + 1)) {a9 : Nat → Int32} (hm : RelM v.2.2 a9) {q : Nat} (hq : q < 4) {p1 p2 : Int32} {s : Nat} (s1 : 1 ≤ s) (s2 : s ≤ T) : ∀ (n t : Nat), 1 ≤ t → t ≤ T → t + 1 ≤ n → IN a0 t = IN a0 s → lr_R_special_48 (nI T) a0 a4 a9 ab p1 p2 (nI q) (nI s) n (nI t) = if f_O_greatestOf (f_W_chain v.1 (nI t) &&& f_M_instances v.2.2 (nI q)) = 0 then f_O_runnable v (f_O_bestOfInterfaces v (nI s) (nI q)) (nI q) else f_O_runnable v (f_O_greatestOf (f_W_chain v.1 (nI t) &&& f_M_instances v.2.2 (nI q))) (nI q) := by
  have hT := h.2.2.1.1
  have hpa := h.2.2.2.2.2.2.2.1
  intro n
  induction n with
  | zero => intro t h1 h2 h3; exfalso; omega
  | succ n ih =>
    intro t h1 h2 h3 h4
    have hneg : ¬ nI t ≤ 0 := fun r => by have := (ile0_iff (by omega)).mp r; omega
    have hib : bt (f_M_instances v.2.2 (nI q)) t = insB a9 q t := by rw [ins_bit hm hq (by omega), rg_1 h1 (by omega), Bool.true_and]
    rw [lr_R_special_48_s, if_neg hneg]
    have hstop : ∀ m, 1 ≤ m → lr_R_special_48 (nI T) a0 a4 a9 ab p1 p2 (nI q) (nI s) m 0 = f_O_runnable v (f_O_bestOfInterfaces v (nI s) (nI q)) (nI q) := by
      intro m hm1
      obtain ⟨m, rfl⟩ : ∃ k, m = k + 1 := ⟨m - 1, by omega⟩
      rw [lr_R_special_48_s, if_pos (by decide : (0 : Int32) ≤ 0), coded_eq h hab hm s1 s2 hq, run_best h hm hq s1 s2]
    by_cases ci : insB a9 q t = true
    · have ci2 := ci
      unfold insB at ci2
      rw [Bool.and_eq_true, Bool.not_eq_true'] at ci2
      have hn : ¬ f_R_has a9 (nI t) (nI q) = 0 := fun z => by rw [e_has (by omega) hq, ci2.1] at z; cases z
      rw [if_neg hn, if_pos ((e_sta (by omega) hq ci2.1).mpr ci2.2), gr_yes h h1 h2 (by rw [hib]; exact ci), if_neg (fun r => by have := (i0_iff (by omega)).mp r; omega), run_eq h hm hq h1 h2 ci2.1]
    · have hnx : ¬ bt (f_M_instances v.2.2 (nI q)) t = true := by rw [hib]; exact ci
      have hgo : (if a0 (nI s).toNatClampNeg = 0 then lr_R_special_48 (nI T) a0 a4 a9 ab p1 p2 (nI q) (nI s) n (a4 (nI t).toNatClampNeg) else lr_R_special_48 (nI T) a0 a4 a9 ab p1 p2 (nI q) (nI s) n 0) = if f_O_greatestOf (f_W_chain v.1 (nI t) &&& f_M_instances v.2.2 (nI q)) = 0 then f_O_runnable v (f_O_bestOfInterfaces v (nI s) (nI q)) (nI q) else f_O_runnable v (f_O_greatestOf (f_W_chain v.1 (nI t) &&& f_M_instances v.2.2 (nI q))) (nI q) := by
        rw [cl (by omega : s < 1000), cl (by omega : t < 1000), par_nI hpa (by omega)]
        by_cases c0 : a0 s = 0
        · rw [if_pos c0]
          have hs0 : IN a0 s = false := by unfold IN; simp [c0]
          by_cases c3 : parN a4 t = 0
          · rw [c3, nI_0, hstop n (by omega), gr_no h h1 h2 hnx (Or.inr c3), if_pos rfl]
          · have hq2 := (h.2.2.1.2 t h1 h2).1
            rw [gr_par h h1 h2 hnx c3]
            exact ih (parN a4 t) (by omega) (by omega) (by omega) (by rw [hq2.2.1 c3, hs0])
        · rw [if_neg c0, hstop n (by omega)]
          have hs1 : IN a0 s = true := by unfold IN; simp [c0]
          rw [gr_no h h1 h2 hnx (Or.inl (by rw [h4]; exact hs1)), if_pos rfl]
      by_cases ch : f_R_has a9 (nI t) (nI q) = 0
      · rw [if_pos ch]; exact hgo
      · rw [if_neg ch]
        have he : eH (a9 (4 * t + q)) = true := by
          have := fun z => ch ((e_has (by omega) hq).mpr z)
          simpa using this
        have hs : ¬ f_R_isStatic a9 (nI t) (nI q) = 0 := fun z => ci (by unfold insB; rw [he, (e_sta (by omega) hq he).mp z]; rfl)
        rw [if_neg hs]; exact hgo
end
