theorem hp_at {D : va_G} {cl : List vw_C} {ws : va_W} {t : State} {H : Heap} (ht : t.heap = H) (h : va_P D cl ws H) : va_P D cl ws t.heap := by rw [ht]; exact h
theorem hp_to {D : va_G} {cl : List vw_C} {ws : va_W} {t : State} {H : Heap} (ht : t.heap = H) (h : va_P D cl ws t.heap) : va_P D cl ws H := by rw [← ht]; exact h
/-! ranges: what a number that was looked at may index -/
theorem in_k {x : Int32} {n : Nat} (h : vp_in x n) : x = nI x.toNatClampNeg := by
  obtain ⟨j, hj, rfl⟩ := nI_of (fun q => h (Or.inl q))
  rw [nI_clamp hj]
theorem in_lt {x : Int32} {n : Nat} (h : vp_in x n) : x.toNatClampNeg < n := Nat.not_le.mp fun q => h (Or.inr q)
theorem in_k1 {x : Int32} {n : Nat} (h : vp_in x n) : x + (1 : Int32) = nI (x.toNatClampNeg + 1) := by
  rw [← nI_1, ← in_k h]
theorem in_0 : vp_in (0 : Int32) 13 := by rw [vp_in_iff]; decide +kernel
theorem in_et {x : Int32} {k : Nat} (et : x = nI k) (h : k ≤ 12) : vp_in x 13 := by rw [et]; exact vp_in_nI (by omega) (by decide)
theorem et_i {x : Int32} {k : Nat} (et : x = nI k) (h : k ≤ 13) : x.toInt = k := by rw [et]; exact nI_toInt (by omega)
theorem le12 {x : Int32} {k : Nat} (et : x = nI k) (h2 : k ≤ 13) (c : ¬ (12 : Int32) < x) : k ≤ 12 := by
  have h := et_i et h2
  have h3 : (12 : Int32).toInt = 12 := by decide +kernel
  rw [Int32.lt_iff_toInt_lt] at c; omega
theorem lt12 {x : Int32} {k : Nat} (et : x = nI k) (h2 : k ≤ 13) (c : ¬ (12 : Int32) ≤ x) : k ≤ 12 := by
  have h := et_i et h2
  have h3 : (12 : Int32).toInt = 12 := by decide +kernel
  rw [Int32.le_iff_toInt_le] at c; omega
theorem lePar {x y : Int32} {k : Nat} (et : x = nI k) (h2 : k ≤ 13) (c : ¬ y < x) (hp : vp_in y 13) : k ≤ 12 := by
  have h := et_i et h2
  have h3 := vp_in_iff.mp hp
  rw [Int32.lt_iff_toInt_lt] at c; omega
theorem ltPar {x y : Int32} {k : Nat} (et : x = nI k) (h2 : k ≤ 13) (c : ¬ y ≤ x) (hp : vp_in y 13) : k ≤ 12 := by
  have h := et_i et h2
  have h3 := vp_in_iff.mp hp
  rw [Int32.le_iff_toInt_le] at c; omega
/-- the world's numbers stay in their bounds -/
def WF (w : WS) : Prop := (0 ≤ (w.2 3).toInt ∧ (w.2 3).toInt ≤ 12) ∧ (∀ i, i < 13 → vp_in (w.1 0 i) 13) ∧ (∀ i, i < 52 → vp_in (w.1 4 i) 13) ∧ (∀ i, i < 13 → 0 ≤ (w.1 3 i).toInt ∧ (w.1 3 i).toInt ≤ 4)
theorem leCnt {w : WS} {x : Int32} {k : Nat} (hw : WF w) (et : x = nI k) (h2 : k ≤ 13) (c : ¬ (w.2 3) < x) : k ≤ 12 := by
  have h := et_i et h2
  have h3 := hw.1
  rw [Int32.lt_iff_toInt_lt] at c; omega
theorem ltDc {w : WS} {x y : Int32} {k : Nat} (hw : WF w) (et : x = nI k) (h2 : k ≤ 13) (c : ¬ ((w.1 3) y.toNatClampNeg) ≤ x) (hp : vp_in y 13) : k < 4 := by
  have h := et_i et h2
  have h3 := hw.2.2.2 _ (in_lt hp)
  rw [Int32.le_iff_toInt_le] at c; omega
theorem ix4 {a b : Nat} : (nI a * (4 : Int32)) + nI b = nI (a * 4 + b) := by
  rw [show (4 : Int32) = nI 4 from rfl, pk_mul, nI_add]
theorem in_dc {x y : Int32} {k : Nat} (hp : vp_in y 13) (et : x = nI k) (h : k < 4) : vp_in ((y * (4 : Int32)) + x) 52 := by
  rw [in_k hp, et, ix4]
  have := in_lt hp
  exact vp_in_nI (by omega) (by decide)
theorem in_52 {x y : Int32} (hp : vp_in y 13) (hx : vp_in x 4) : vp_in ((y * (4 : Int32)) + x) 52 := in_dc hp (in_k hx) (in_lt hx)
theorem one_i : (1 : Int32).toInt = 1 := by decide +kernel
theorem in_has {w : WS} {x : Int32} (hw : WF w) (c : ¬ (f_W_has w x) = (0 : Int32)) : vp_in x 13 := by
  unfold f_W_has at c
  have h3 := hw.1
  have h4 := one_i
  by_cases h1 : x < (1 : Int32)
  · rw [if_pos h1] at c; exact absurd rfl c
  · rw [if_neg h1] at c
    by_cases h2 : (w.2 3) < x
    · rw [if_pos h2] at c; exact absurd rfl c
    · rw [Int32.lt_iff_toInt_lt] at h1 h2
      rw [vp_in_iff]; omega
theorem has_of_cls {w : WS} {x : Int32} (c : ¬ (f_W_isClass w x) = (0 : Int32)) : ¬ (f_W_has w x) = (0 : Int32) := by
  intro h
  unfold f_W_isClass at c
  rw [if_pos h] at c; exact c rfl
theorem has_of_ifc {w : WS} {x : Int32} (c : ¬ (f_W_isInterface w x) = (0 : Int32)) : ¬ (f_W_has w x) = (0 : Int32) := by
  intro h
  unfold f_W_isInterface at c
  rw [if_pos h] at c; exact c rfl
theorem in_cls {w : WS} {x : Int32} (hw : WF w) (c : ¬ (f_W_isClass w x) = (0 : Int32)) : vp_in x 13 := in_has hw (has_of_cls c)
theorem in_ifc {w : WS} {x : Int32} (hw : WF w) (c : ¬ (f_W_isInterface w x) = (0 : Int32)) : vp_in x 13 := in_has hw (has_of_ifc c)
theorem in_name {x : Int32} (c : ¬ (f_O_isName x) = (0 : Int32)) : vp_in x 4 := by
  unfold f_O_isName at c
  have h4 : (4 : Int32).toInt = 4 := by decide +kernel
  have h0 : (0 : Int32).toInt = 0 := by decide +kernel
  by_cases h1 : x < (0 : Int32)
  · rw [if_pos h1] at c; exact absurd rfl c
  · rw [if_neg h1] at c
    by_cases h2 : (4 : Int32) ≤ x
    · rw [if_pos h2] at c; exact absurd rfl c
    · rw [Int32.lt_iff_toInt_lt] at h1
      rw [Int32.le_iff_toInt_le] at h2
      rw [vp_in_iff]; omega
theorem wf_dir {w : WS} {x y : Int32} (hw : WF w) (h : vp_in ((x * (4 : Int32)) + y) 52) : vp_in (f_W_directAt w x y) 13 := by
  unfold f_W_directAt
  exact hw.2.2.1 _ (in_lt h)
theorem in_nextL {w : WS} {x y : Int32} (hw : WF w) (hx : vp_in x 13) : ∀ (n k : Nat), 14 ≤ k + n → k ≤ 13 → vp_in (lr_W_nextToSearch w x y n (nI k)) 13 := by
  intro n
  induction n with
  | zero => intro k h1 h2; exfalso; omega
  | succ n ih =>
    intro k h1 h2
    rw [lr_W_nextToSearch_s]
    by_cases c1 : ((w.1 3) x.toNatClampNeg) ≤ nI k
    · rw [if_pos c1]; exact hw.2.1 _ (in_lt hx)
    · rw [if_neg c1]
      have hk := ltDc hw (rfl : nI k = nI k) h2 c1 hx
      split
      · rw [nI_1]; exact ih (k + 1) (by omega) (by omega)
      · exact wf_dir hw (in_dc hx rfl hk)
theorem in_next {w : WS} {x y : Int32} (hw : WF w) (hx : vp_in x 13) : vp_in (f_W_nextToSearch w x y) 13 := by
  unfold f_W_nextToSearch
  exact in_nextL hw hx 14 0 (by omega) (by omega)
theorem dn_k {x : Int32} {k : Nat} (et : x = nI k) (h2 : k ≤ 12) (c : ¬ x < (1 : Int32)) : 1 ≤ k := by
  have h := et_i et (by omega)
  have h4 := one_i
  rw [Int32.lt_iff_toInt_lt] at c; omega
theorem dn_et {x : Int32} {k : Nat} (et : x = nI k) (h2 : k ≤ 12) (c : ¬ x < (1 : Int32)) : x + (-1 : Int32) = nI (k - 1) := by
  have h := dn_k et h2 c
  obtain ⟨j, rfl⟩ : ∃ j, k = j + 1 := ⟨k - 1, by omega⟩
  rw [et]; exact pk_m1 j
theorem dn_h1 {x : Int32} {k n : Nat} (et : x = nI k) (h2 : k ≤ 12) (h1 : k + 1 ≤ n + 1) (c : ¬ x < (1 : Int32)) : k - 1 + 1 ≤ n := by
  have h := dn_k et h2 c
  omega
theorem in_greatL {x : Int32} : ∀ (n k : Nat), k + 1 ≤ n → k ≤ 12 → vp_in (lr_O_greatestOf x n (nI k)) 13 := by
  intro n
  induction n with
  | zero => intro k h1 h2; exfalso; omega
  | succ n ih =>
    intro k h1 h2
    rw [lr_O_greatestOf_s]
    by_cases c1 : nI k < (1 : Int32)
    · rw [if_pos c1]; exact in_0
    · rw [if_neg c1]
      split
      · rw [dn_et rfl h2 c1]; exact ih (k - 1) (dn_h1 rfl h2 h1 c1) (by omega)
      · exact in_et rfl h2
theorem in_great {x : Int32} : vp_in (f_O_greatestOf x) 13 := in_greatL 14 12 (by omega) (by omega)
theorem in_leastL {x : Int32} : ∀ (n k : Nat), 14 ≤ k + n → k ≤ 13 → vp_in (lr_O_leastOf x n (nI k)) 13 := by
  intro n
  induction n with
  | zero => intro k h1 h2; exfalso; omega
  | succ n ih =>
    intro k h1 h2
    rw [lr_O_leastOf_s]
    by_cases c1 : (12 : Int32) < nI k
    · rw [if_pos c1]; exact in_0
    · rw [if_neg c1]
      have hk := le12 rfl h2 c1
      split
      · rw [nI_1]; exact ih (k + 1) (by omega) (by omega)
      · exact in_et rfl hk
theorem in_least {x : Int32} : vp_in (f_O_leastOf x) 13 := in_leastL 14 1 (by omega) (by omega)
theorem no_neg {x : Int32} {p : Prop} (h : (0 : Int32) < x) (e : x.toInt ≤ 0) : p := by
  have h0 : (0 : Int32).toInt = 0 := by decide +kernel
  rw [Int32.lt_iff_toInt_lt] at h; omega
theorem in_best {v : ES} {x y : Int32} (h : (0 : Int32) < f_O_bestOfInterfaces v x y) : vp_in (f_O_bestOfInterfaces v x y) 13 := by
  revert h
  unfold f_O_bestOfInterfaces
  split
  · intro h; exact no_neg h (by decide +kernel)
  · split
    · intro _; exact in_least
    · intro h; exact no_neg h (by decide +kernel)
theorem in_adm {v : ES} {x y z : Int32} (hx : (0 : Int32) < x → vp_in x 13) (h : (0 : Int32) < f_O_admitted_m v x y z) : vp_in (f_O_admitted_m v x y z) 13 := by
  revert h
  unfold f_O_admitted_m
  split
  · rename_i h1
    split
    · intro h; exact no_neg h (by decide +kernel)
    · intro _; exact hx h1
  · intro h; exact hx h
theorem in_res {v : ES} {a b c d : Int32} (h : (0 : Int32) < f_O_resolveMethod v a b c d) : vp_in (f_O_resolveMethod v a b c d) 13 := by
  revert h
  unfold f_O_resolveMethod
  split
  · intro h; exact no_neg h (by decide +kernel)
  · split
    · split
      · split
        · split
          · intro h; exact no_neg h (by decide +kernel)
          · intro _; exact in_least
        · intro h; exact in_adm in_best h
      · split
        · split
          · intro h; exact no_neg h (by decide +kernel)
          · intro _; exact in_least
        · intro h; exact in_adm (fun _ => in_great) h
    · intro h; exact no_neg h (by decide +kernel)
theorem in_selL {v : ES} {a b d : Int32} : ∀ (n k : Nat), k + 1 ≤ n → k ≤ 12 → (0 : Int32) < lr_O_select v a b d n (nI k) → vp_in (lr_O_select v a b d n (nI k)) 13 := by
  intro n
  induction n with
  | zero => intro k h1 h2; exfalso; omega
  | succ n ih =>
    intro k h1 h2
    rw [lr_O_select_s]
    by_cases c1 : nI k < (1 : Int32)
    · rw [if_pos c1]; exact in_best
    · rw [if_neg c1]
      have h3 := ih (k - 1) (dn_h1 rfl h2 h1 c1) (by omega)
      rw [dn_et rfl h2 c1]
      split
      · exact h3
      · split
        · exact h3
        · intro _; exact in_et rfl h2
theorem in_sel {v : ES} {a b d : Int32} (ha : vp_in a 13) (hb : vp_in b 13) (h : (0 : Int32) < f_O_select v a b d) : vp_in (f_O_select v a b d) 13 := by
  revert h
  unfold f_O_select
  split
  · intro _; exact hb
  · intro h
    rw [in_k ha] at h ⊢
    exact in_selL 14 _ (by have := in_lt ha; omega) (by have := in_lt ha; omega) h
theorem wf_sup {w : WS} {x : Int32} (hw : WF w) (hx : vp_in x 13) : vp_in (f_W_superclassOf w x) 13 := hw.2.1 _ (in_lt hx)
theorem in_ext {w : WS} {x : Int32} (hw : WF w) (c : ¬ (f_W_mayBeExtended w x) = (0 : Int32)) : vp_in x 13 := by
  refine in_cls hw (fun h => ?_)
  unfold f_W_mayBeExtended at c
  rw [if_pos h] at c; exact c rfl
theorem in_full {w : WS} (hw : WF w) (c : (f_W_isFull w) = (0 : Int32)) : vp_in ((w.2 3) + (1 : Int32)) 13 := by
  have h3 := hw.1
  unfold f_W_isFull at c
  have h4 : (12 : Int32).toInt = 12 := by decide +kernel
  by_cases h1 : (w.2 3) < (12 : Int32)
  · rw [Int32.lt_iff_toInt_lt] at h1
    obtain ⟨j, hj, e⟩ := vp_in_of (x := w.2 3) (n := 12) (vp_in_iff.mpr (by omega)) (by decide)
    rw [e, nI_1]; exact vp_in_nI (by omega) (by decide)
  · rw [if_neg h1] at c; exact absurd c (by decide +kernel)
theorem in_dcf {w : WS} {x : Int32} (hw : WF w) (hx : vp_in x 13) (c : ¬ (4 : Int32) ≤ (f_W_directCount w x)) : vp_in ((x * (4 : Int32)) + ((w.1 3) x.toNatClampNeg)) 52 := by
  have h3 := hw.2.2.2 _ (in_lt hx)
  unfold f_W_directCount at c
  have h4 : (4 : Int32).toInt = 4 := by decide +kernel
  rw [Int32.le_iff_toInt_le] at c
  obtain ⟨j, hj, e⟩ := vp_in_of (x := (w.1 3) x.toNatClampNeg) (n := 4) (vp_in_iff.mpr (by omega)) (by decide)
  exact in_dc hx e hj
theorem in4_4 {x : Int32} (c : x = (4 : Int32)) : vp_in (x - (4 : Int32)) 4 := by rw [c, vp_in_iff]; decide +kernel
theorem in4_5 {x : Int32} (c : x = (5 : Int32)) : vp_in (x - (4 : Int32)) 4 := by rw [c, vp_in_iff]; decide +kernel
theorem in4_6 {x : Int32} (c : x = (6 : Int32)) : vp_in (x - (4 : Int32)) 4 := by rw [c, vp_in_iff]; decide +kernel
theorem in4_7 {x : Int32} (c : x = (7 : Int32)) : vp_in (x - (4 : Int32)) 4 := by rw [c, vp_in_iff]; decide +kernel
theorem in_eq0 {x : Int32} (c : x = (0 : Int32)) : vp_in x 13 := by rw [c]; exact in_0
theorem in_searchL {w : WS} {a b : Int32} (hw : WF w) : ∀ (n : Nat) (x y : Int32), vp_in x 13 → vp_in (lr_W_search w a b n x y) 13 := by
  intro n
  induction n with
  | zero => intro x y _; exact in_0
  | succ n ih =>
    intro x y hx
    rw [lr_W_search_s]
    split
    · exact in_0
    · split
      · exact in_0
      · split
        · exact ih _ _ (in_next hw hx)
        · exact hx
theorem in_search {w : WS} {a b : Int32} (hw : WF w) (ha : vp_in a 13) : vp_in (f_W_search w a b) 13 := in_searchL hw 14 a 0 ha
theorem in_ff {v : ES} {a b c : Int32} (hw : WF v.1) (hb : vp_in b 13) (h : (0 : Int32) < f_O_findField v a b c) : vp_in (f_O_findField v a b c) 13 := by
  revert h
  unfold f_O_findField
  split
  · intro h; exact no_neg h (by decide +kernel)
  · split
    · intro h; exact no_neg h (by decide +kernel)
    · intro _; exact in_search hw hb
theorem in_rcv {v : ES} {a b c d : Int32} (hw : WF v.1) (h : ¬ (f_O_isReceiver v a b c d) = (0 : Int32)) (e : a = (0 : Int32) ∨ a = (1 : Int32)) : vp_in d 13 := by
  unfold f_O_isReceiver at h
  rcases e with e | e
  · rw [if_pos e] at h
    by_cases c1 : (f_W_isClass v.1 d) = (0 : Int32)
    · rw [if_pos c1] at h; exact absurd rfl h
    · exact in_cls hw c1
  · rw [if_neg (by rw [e]; decide), if_pos e] at h
    exact in_cls hw h
