/-! the reference's table of overriding -/
theorem cl13 {c a : Nat} (hc : c < 13) (ha : a < 13) : (((13 : Int32) * nI c) + nI a).toNatClampNeg = 13 * c + a := by rw [jx13]; exact cl (by omega)
theorem ol_01 {a3 a4 a9 a10 a11 : Nat → Int32} {p1 p2 p3 : Int32} : ∀ (n : Nat) (x : Int32), lr_R_overriding_115 a3 a4 a9 a10 a11 p1 p2 p3 n x = 0 ∨ lr_R_overriding_115 a3 a4 a9 a10 a11 p1 p2 p3 n x = 1 := by
  intro n
  induction n with
  | zero => intro x; exact Or.inl rfl
  | succ n ih =>
    intro x
    rw [lr_R_overriding_115_s]
    split
    · exact Or.inl rfl
    · split
      · exact Or.inl rfl
      · split
        · exact ih _
        · split
          · exact ih _
          · exact Or.inr rfl
theorem ov_01 {a3 a4 a9 a10 a11 : Nat → Int32} {p1 p2 p3 : Int32} : f_R_overriding a3 a4 a9 a10 a11 p1 p2 p3 = 0 ∨ f_R_overriding a3 a4 a9 a10 a11 p1 p2 p3 = 1 := by
  unfold f_R_overriding
  repeat' split
  all_goals first | exact Or.inl rfl | exact Or.inr rfl | exact ol_01 _ _
theorem fi_in {b0 : Int32} {a3 a4 a6 a7 a9 a10 : Nat → Int32} {p1 : Int32} {c : Nat} (hc : c < 13) : ∀ (n a : Nat) (y : Nat → Int32), a + 1 ≤ n → a < 13 → (∀ k, (∀ a', 1 ≤ a' → a' ≤ a → k ≠ 13 * c + a') → (lfin_R_fillCan_19 b0 a3 a4 a6 a7 a9 a10 p1 (nI c) n (nI a) y).2 k = y k) ∧ ∀ a', 1 ≤ a' → a' ≤ a → ∃ y' : Nat → Int32, (∀ k, (∀ a'', 1 ≤ a'' → a'' ≤ a' → k ≠ 13 * c + a'') → y' k = (lfin_R_fillCan_19 b0 a3 a4 a6 a7 a9 a10 p1 (nI c) n (nI a) y).2 k) ∧ (lfin_R_fillCan_19 b0 a3 a4 a6 a7 a9 a10 p1 (nI c) n (nI a) y).2 (13 * c + a') = f_R_overriding a3 a4 a9 (s_R_closeAbove_a10 b0 a4 a6 a7 a10) y' (nI c) (nI a') p1 := by
  intro n
  induction n with
  | zero => intro a y h1; exfalso; omega
  | succ n ih =>
    intro a y h1 h2
    rw [lfin_R_fillCan_19_s]
    cases a with
    | zero =>
      rw [if_pos (by decide : nI 0 ≤ (0 : Int32))]
      exact ⟨fun k _ => rfl, fun a' q1 q2 => by exfalso; omega⟩
    | succ a =>
      rw [if_neg (fun z => by have := (ile0_iff (by omega)).mp z; omega), pk_m1, cl13 hc h2, nar_01 ov_01]
      obtain ⟨i1, i2⟩ := ih a (upd y (13 * c + (a + 1)) (f_R_overriding a3 a4 a9 (s_R_closeAbove_a10 b0 a4 a6 a7 a10) y (nI c) (nI (a + 1)) p1)) (by omega) (by omega)
      refine ⟨fun k hk => ?_, fun a' q1 q2 => ?_⟩
      · rw [i1 k (fun a' r1 r2 => hk a' r1 (by omega)), upd_ne (hk (a + 1) (by omega) (by omega))]
      · by_cases e : a' = a + 1
        · subst e
          refine ⟨y, fun k hk => ?_, ?_⟩
          · rw [i1 k (fun a' r1 r2 => hk a' r1 (by omega)), upd_ne (hk (a + 1) (by omega) (by omega))]
          · rw [i1 _ (fun a' r1 r2 => by omega), upd_at]
        · exact i2 a' q1 (by omega)
theorem fi_out {T : Nat} (hT : T ≤ 12) {a3 a4 a6 a7 a9 a10 : Nat → Int32} {p1 : Int32} : ∀ (n c : Nat) (y : Nat → Int32), 14 ≤ c + n → 1 ≤ c → c ≤ T + 1 → (∀ k, k < 13 * c + 1 → la11_R_fillCan_6 (nI T) a3 a4 a6 a7 a9 a10 p1 n (nI c) y k = y k) ∧ ∀ c' a', c ≤ c' → c' ≤ T → 1 ≤ a' → a' ≤ T → ∃ y' : Nat → Int32, (∀ k, k ≤ 13 * c' + 12 → (∀ a'', 1 ≤ a'' → a'' ≤ a' → k ≠ 13 * c' + a'') → y' k = la11_R_fillCan_6 (nI T) a3 a4 a6 a7 a9 a10 p1 n (nI c) y k) ∧ la11_R_fillCan_6 (nI T) a3 a4 a6 a7 a9 a10 p1 n (nI c) y (13 * c' + a') = f_R_overriding a3 a4 a9 (s_R_closeAbove_a10 (nI T) a4 a6 a7 a10) y' (nI c') (nI a') p1 := by
  intro n
  induction n with
  | zero => intro c y h1 h2 h3; exfalso; omega
  | succ n ih =>
    intro c y h1 h2 h3
    rw [la11_R_fillCan_6_s]
    by_cases ct : T < c
    · rw [if_pos ((ilt_iff (by omega) (by omega)).mpr ct)]
      exact ⟨fun k _ => rfl, fun c' a' q1 q2 => by exfalso; omega⟩
    · rw [if_neg (fun z => ct ((ilt_iff (by omega) (by omega)).mp z)), nI_1]
      obtain ⟨j1, j2⟩ := fi_in (b0 := nI T) (a3 := a3) (a4 := a4) (a6 := a6) (a7 := a7) (a9 := a9) (a10 := a10) (p1 := p1) (show c < 13 by omega) 14 T y (by omega) (by omega)
      obtain ⟨i1, i2⟩ := ih (c + 1) (lfin_R_fillCan_19 (nI T) a3 a4 a6 a7 a9 a10 p1 (nI c) 14 (nI T) y).2 (by omega) (by omega) (by omega)
      refine ⟨fun k hk => ?_, fun c' a' q1 q2 q3 q4 => ?_⟩
      · rw [i1 k (by omega), j1 k (fun a' r1 r2 => by omega)]
      · by_cases e : c' = c
        · subst e
          obtain ⟨y', g1, g2⟩ := j2 a' q3 q4
          refine ⟨y', fun k hk hk2 => ?_, ?_⟩
          · rw [i1 k (by omega)]; exact g1 k hk2
          · rw [i1 _ (by omega)]; exact g2
        · exact i2 c' a' (by omega) q2 q3 q4
theorem fi_10 {T : Nat} (hT : T ≤ 12) {a3 a4 a6 a7 a9 a10 : Nat → Int32} {p1 : Int32} : ∀ (n c : Nat) (y : Nat → Int32), 14 ≤ c + n → c ≤ T + 1 → la10_R_fillCan_6 (nI T) a3 a4 a6 a7 a9 a10 p1 n (nI c) y = s_R_closeAbove_a10 (nI T) a4 a6 a7 a10 := by
  intro n
  induction n with
  | zero => intro c y h1 h2; exfalso; omega
  | succ n ih =>
    intro c y h1 h2
    rw [la10_R_fillCan_6_s]
    by_cases ct : T < c
    · rw [if_pos ((ilt_iff (by omega) (by omega)).mpr ct)]
    · rw [if_neg (fun z => ct ((ilt_iff (by omega) (by omega)).mp z)), nI_1]
      exact ih (c + 1) _ (by omega) (by omega)
/-- the table, as a relation -/
def tbR (r : Nat → Int32) (c a : Nat) : Prop := ¬ r (13 * c + a) = 0
section
variable {T : Nat} {v : ES} {a0 a1 a2 a3 a4 a5 a6 a7 ab : Nat → Int32}
theorem ol_loop (h : RelW T v.1 a0 a1 a2 a3 a4 a5 a6 a7) {a9 y r : Nat → Int32} {p3 : Int32} {c a : Nat} (c2 : c ≤ T) (a1 : 1 ≤ a) (ha : IN a0 a = false) (hy : ∀ k, k ≤ 13 * c + 12 → (∀ a'', 1 ≤ a'' → a'' ≤ a → k ≠ 13 * c + a'') → y k = r k) : ∀ (n b : Nat), 1 ≤ b → b < c → IN a0 b = false → FN (v.1.1 5) b a = true → b + 1 ≤ n → (¬ lr_R_overriding_115 a3 a4 a9 ab y (nI c) (nI a) p3 n (nI b) = 0 ↔ ∃ b', FN (v.1.1 5) b b' = true ∧ IN a0 b' = false ∧ FN (v.1.1 5) b' a = true ∧ b' ≠ a ∧ tbR r b' a ∧ tbR r c b') := by
  have hw := h.2.2.1
  have hT := hw.1
  have hpa := h.2.2.2.2.2.2.2.1
  intro n
  induction n with
  | zero => intro b h1 h2 h3 h4 h5; exfalso; omega
  | succ n ih =>
    intro b h1 h2 h3 h4 h5
    have hal := F_le hw b h1 (by omega) a h4
    rw [lr_R_overriding_115_s, if_neg (fun z => by have := (ile0_iff (by omega)).mp z; omega)]
    by_cases e : b = a
    · rw [if_pos (by rw [e])]
      refine ⟨fun z => absurd rfl z, ?_⟩
      rintro ⟨b', g1, g2, g3, g4, -⟩
      have l1 := F_le hw b h1 (by omega) b' g1
      have l2 := F_le hw b' l1.1 (by omega) a g3
      exfalso; omega
    · rw [if_neg (fun z => e ((ieq_iff (by omega) (by omega)).mp z)), cl13 (by omega) (by omega), cl13 (by omega) (by omega), cl (by omega : b < 1000), par_nI hpa (by omega)]
      rw [hy (13 * b + a) (by omega) (fun a'' r1 r2 => by omega), hy (13 * c + b) (by omega) (fun a'' r1 r2 => by omega)]
      have hq := (hw.2 b h1 (by omega)).1
      obtain ⟨hp, hpf⟩ : parN a4 b ≠ 0 ∧ FN (v.1.1 5) (parN a4 b) a = true := by
        rcases (F_cls hw h1 (by omega) ha).mp h4 with z | z
        · exact absurd z.symm e
        · exact z
      have hi := ih (parN a4 b) (by omega) (by omega) (hq.2.1 hp) hpf (by omega)
      have no : ¬ (tbR r b a ∧ tbR r c b) → (¬ lr_R_overriding_115 a3 a4 a9 ab y (nI c) (nI a) p3 n (nI (parN a4 b)) = 0 ↔ ∃ b', FN (v.1.1 5) b b' = true ∧ IN a0 b' = false ∧ FN (v.1.1 5) b' a = true ∧ b' ≠ a ∧ tbR r b' a ∧ tbR r c b') := by
        intro hn
        rw [hi]
        constructor
        · rintro ⟨b', g1, g2⟩
          exact ⟨b', F_step hw h1 (by omega) (Or.inl ⟨hp, rfl⟩) g1, g2⟩
        · rintro ⟨b', g1, g2, g3, g4, g5⟩
          rcases (F_cls hw h1 (by omega) g2).mp g1 with z | z
          · rw [z] at g5; exact absurd g5 hn
          · exact ⟨b', z.2, g2, g3, g4, g5⟩
      by_cases k1 : r (13 * b + a) = 0
      · rw [if_pos k1]; exact no (fun z => z.1 k1)
      · rw [if_neg k1]
        by_cases k2 : r (13 * c + b) = 0
        · rw [if_pos k2]; exact no (fun z => z.2 k2)
        · rw [if_neg k2]
          exact ⟨fun _ => ⟨b, F_refl hw h1 (by omega), h3, h4, e, k1, k2⟩, fun _ => by decide⟩
theorem can_ok (h : RelW T v.1 a0 a1 a2 a3 a4 a5 a6 a7) {a9 a10 a11 : Nat → Int32} (hm : RelM v.2.2 a9) (hI : RelI T a0 a9) {q : Nat} (hq : q < 4) : OvT T (IN a0) (FN (v.1.1 5)) (insB a9 q) (accN a9 q) a3 (tbR (s_R_fillCan_a11 (nI T) a3 a4 a6 a7 a9 a10 a11 (nI q))) := by
  intro c a c1 c2 hc a1 a2
  have hw := h.2.2.1
  have hT := hw.1
  have hpa := h.2.2.2.2.2.2.2.1
  have hab := abR (a10 := a10) h
  obtain ⟨-, g⟩ := fi_out hT (a3 := a3) (a4 := a4) (a6 := a6) (a7 := a7) (a9 := a9) (a10 := a10) (p1 := nI q) 14 1 a11 (by omega) (by omega) (by omega)
  obtain ⟨y', hy, he⟩ := g c a c1 c2 a1 a2
  rw [show nI 1 = (1 : Int32) from rfl] at hy he
  have hr : tbR (s_R_fillCan_a11 (nI T) a3 a4 a6 a7 a9 a10 a11 (nI q)) c a ↔ ¬ f_R_overriding a3 a4 a9 (s_R_closeAbove_a10 (nI T) a4 a6 a7 a10) y' (nI c) (nI a) (nI q) = 0 := by
    unfold tbR s_R_fillCan_a11
    rw [he]
  rw [hr]
  unfold f_R_overriding OvR
  have insI : ∀ i, i < 13 → (insB a9 q i = true ↔ (¬ f_R_has a9 (nI i) (nI q) = 0 ∧ f_R_isStatic a9 (nI i) (nI q) = 0)) := by
    intro i hi
    unfold insB
    rw [Bool.and_eq_true, Bool.not_eq_true', e_has hi hq]
    constructor
    · rintro ⟨z1, z2⟩
      exact ⟨by rw [z1]; decide, (e_sta hi hq z1).mpr z2⟩
    · rintro ⟨z1, z2⟩
      have z1' : eH (a9 (4 * i + q)) = true := by simpa using z1
      exact ⟨z1', (e_sta hi hq z1').mp z2⟩
  by_cases k1 : f_R_has a9 (nI c) (nI q) = 0
  · rw [if_pos k1]
    exact ⟨fun z => absurd rfl z, fun z => absurd k1 ((insI c (by omega)).mp z.1).1⟩
  · rw [if_neg k1]
    by_cases k2 : f_R_has a9 (nI a) (nI q) = 0
    · rw [if_pos k2]
      exact ⟨fun z => absurd rfl z, fun z => absurd k2 ((insI a (by omega)).mp z.2.1).1⟩
    · rw [if_neg k2]
      by_cases k3 : f_R_isStatic a9 (nI c) (nI q) = 0
      · rw [if_pos k3]
        by_cases k4 : f_R_isStatic a9 (nI a) (nI q) = 0
        · rw [if_pos k4]
          have ic := (insI c (by omega)).mpr ⟨k1, k3⟩
          have ia := (insI a (by omega)).mpr ⟨k2, k4⟩
          have hec : eH (a9 (4 * c + q)) = true := by
            unfold insB at ic
            rw [Bool.and_eq_true] at ic; exact ic.1
          have hea : eH (a9 (4 * a + q)) = true := by
            unfold insB at ia
            rw [Bool.and_eq_true] at ia; exact ia.1
          obtain ⟨xc, lc⟩ := acc_fact ((hm q hq).2.2.2.2.2 c (by omega)) hec
          obtain ⟨xa, la⟩ := acc_fact ((hm q hq).2.2.2.2.2 a (by omega)) hea
          have his : f_R_is (s_R_closeAbove_a10 (nI T) a4 a6 a7 a10) (nI c) (nI a) = 0 ↔ FN (v.1.1 5) c a = false := by
            rw [is_eq h hab c1 c2 (by omega)]
            unfold f_W_isKindOf FN
            rw [cl (by omega : c < 1000), hb0 (by omega)]
          by_cases k5 : FN (v.1.1 5) c a = true
          · rw [if_neg (fun z => by rw [his.mp z] at k5; cases k5)]
            by_cases k6 : c = a
            · rw [if_pos (by rw [k6])]
              exact ⟨fun _ => ⟨ic, ia, k5, Or.inl k6⟩, fun _ => by decide⟩
            · rw [if_neg (fun z => k6 ((ieq_iff (by omega) (by omega)).mp z)), cl4 (by omega) hq, xa, cl (by omega : c < 1000), cl (by omega : a < 1000)]
              have hpr : f_R_isPrivate a9 (nI c) (nI q) = 0 ↔ accN a9 q c ≠ 0 := by
                unfold f_R_isPrivate
                rw [cl4 (by omega) hq, xc]
                by_cases z : accN a9 q c = 0
                · rw [if_pos ((i0_iff (by omega)).mpr z)]
                  exact ⟨fun w => absurd w (by decide), fun w => absurd z w⟩
                · rw [if_neg (fun w => z ((i0_iff (by omega)).mp w))]
                  exact ⟨fun _ => z, fun _ => rfl⟩
              by_cases k7 : accN a9 q c = 0
              · rw [if_neg (fun z => hpr.mp z k7)]
                refine ⟨fun z => absurd rfl z, fun z => ?_⟩
                rcases z.2.2.2 with w | w
                · exact absurd w k6
                · exact absurd k7 w.1
              · rw [if_pos (hpr.mpr k7)]
                by_cases k8 : accN a9 q a = 0
                · rw [if_pos ((i0_iff (by omega)).mpr k8)]
                  refine ⟨fun z => absurd rfl z, fun z => ?_⟩
                  rcases z.2.2.2 with w | w
                  · exact absurd w k6
                  · exact absurd k8 w.2.1
                · rw [if_neg (fun z => k8 ((i0_iff (by omega)).mp z))]
                  by_cases k9 : 1 < accN a9 q a
                  · rw [if_pos (by rw [show (1 : Int32) = nI 1 from rfl]; exact (ilt_iff (by omega) (by omega)).mpr k9)]
                    exact ⟨fun _ => ⟨ic, ia, k5, Or.inr ⟨k7, k8, Or.inl k9⟩⟩, fun _ => by decide⟩
                  · rw [if_neg (fun z => by rw [show (1 : Int32) = nI 1 from rfl] at z; exact k9 ((ilt_iff (by omega) (by omega)).mp z))]
                    by_cases k10 : a3 c = a3 a
                    · rw [if_pos k10]
                      exact ⟨fun _ => ⟨ic, ia, k5, Or.inr ⟨k7, k8, Or.inr (Or.inl k10)⟩⟩, fun _ => by decide⟩
                    · rw [if_neg k10]
                      have ha : IN a0 a = false := by
                        cases w : IN a0 a with
                        | false => rfl
                        | true =>
                          exfalso
                          rcases (hI a q a1 (by omega) hq).2 a2 w hea with z | z
                          · rw [xa] at z
                            exact k8 ((i0_iff (by omega)).mp z)
                          · rw [xa, show (3 : Int32) = nI 3 from rfl, ieq_iff (by omega) (by omega)] at z
                            omega
                      obtain ⟨hp, hpf⟩ : parN a4 c ≠ 0 ∧ FN (v.1.1 5) (parN a4 c) a = true := by
                        rcases (F_cls hw c1 c2 ha).mp k5 with z | z
                        · exact absurd z.symm k6
                        · exact z
                      have hqp := (hw.2 c c1 c2).1
                      rw [par_nI hpa (by omega)]
                      have hol := ol_loop (ab := s_R_closeAbove_a10 (nI T) a4 a6 a7 a10) (a9 := a9) (p3 := nI q) h c2 a1 ha hy 14 (parN a4 c) (by omega) hqp.1 (hqp.2.1 hp) hpf (by omega)
                      have pp1 : 1 ≤ parN a4 c := by omega
                      have pp2 : parN a4 c ≤ T := by omega
                      rw [hol]
                      constructor
                      · rintro ⟨b, w1, w2, w3, w4, w5, w6⟩
                        have l1 := F_le hw (parN a4 c) pp1 pp2 b w1
                        exact ⟨ic, ia, k5, Or.inr ⟨k7, k8, Or.inr (Or.inr ⟨b, F_step hw c1 c2 (Or.inl ⟨hp, rfl⟩) w1, Nat.ne_of_lt (Nat.lt_of_le_of_lt l1.2 hqp.1), w2, w3, w4, w5, w6⟩)⟩⟩
                      · rintro ⟨-, -, -, w⟩
                        rcases w with w | ⟨-, -, w⟩
                        · exact absurd w k6
                        · rcases w with w | w | ⟨b, w1, w2, w3, w4, w5, w6, w7⟩
                          · exact absurd w k9
                          · exact absurd w k10
                          · rcases (F_cls hw c1 c2 w3).mp w1 with z | z
                            · exact absurd z w2
                            · exact ⟨b, z.2, w3, w4, w5, w6, w7⟩
          · rw [if_pos (his.mpr (by simpa using k5))]
            exact ⟨fun z => absurd rfl z, fun z => absurd z.2.2.1 k5⟩
        · rw [if_neg k4]
          exact ⟨fun z => absurd rfl z, fun z => absurd ((insI a (by omega)).mp z.2.1).2 k4⟩
      · rw [if_neg k3]
        exact ⟨fun z => absurd rfl z, fun z => absurd ((insI c (by omega)).mp z.1).2 k3⟩
theorem can_01 {a9 a10 a11 : Nat → Int32} (hT : T ≤ 12) {q c a : Nat} (c1 : 1 ≤ c) (c2 : c ≤ T) (a1 : 1 ≤ a) (a2 : a ≤ T) : s_R_fillCan_a11 (nI T) a3 a4 a6 a7 a9 a10 a11 (nI q) (13 * c + a) = 0 ∨ s_R_fillCan_a11 (nI T) a3 a4 a6 a7 a9 a10 a11 (nI q) (13 * c + a) = 1 := by
  obtain ⟨-, g⟩ := fi_out hT (a3 := a3) (a4 := a4) (a6 := a6) (a7 := a7) (a9 := a9) (a10 := a10) (p1 := nI q) 14 1 a11 (by omega) (by omega) (by omega)
  obtain ⟨y', -, he⟩ := g c a c1 c2 a1 a2
  unfold s_R_fillCan_a11
  rw [show (1 : Int32) = nI 1 from rfl, he]
  exact ov_01
end
theorem cls_iff {T : Nat} {w : WS} {a0 a1 a2 a3 a4 a5 a6 a7 : Nat → Int32} (h : RelW T w a0 a1 a2 a3 a4 a5 a6 a7) {k : Nat} (h1 : 1 ≤ k) (h2 : k ≤ T) : f_W_isClass w (nI k) = 0 ↔ ¬ a0 k = 0 := by
  have hT := h.2.2.1.1
  have hs := h.2.2.2.2.1
  unfold f_W_isClass
  rw [has_there h.1, there_1 hT h1 h2, if_neg (by decide : ¬ (1 : Int32) = 0)]
  by_cases c0 : a0 k = 0
  · rw [if_pos ((set_fl hs.2.2 (by omega)).mpr c0)]
    exact ⟨fun z => absurd z (by decide), fun z => absurd c0 z⟩
  · rw [if_neg (fun q => c0 ((set_fl hs.2.2 (by omega)).mp q))]
    exact ⟨fun _ => c0, fun _ => rfl⟩
theorem cls_no {w : WS} {p b : Int32} (e : w.2 3 = b) (c : f_R_there b p = 0) : f_W_isClass w p = 0 := by
  unfold f_W_isClass
  rw [has_there e, if_pos c]
theorem q_overrides {v : ES} {lc b0 b1 : Int32} {a0 a1 a2 a3 a4 a5 a6 a7 a8 a9 a11 : Nat → Int32} (h : Rel v lc b0 b1 a0 a1 a2 a3 a4 a5 a6 a7 a8 a9 a11) {a10 : Nat → Int32} {p1 p2 p3 : Int32} : f_O_overrides v p1 p2 p3 = f_R_overrides b0 a0 a3 a4 a6 a7 a9 a10 a11 p1 p2 p3 ∧ vZ (s_R_overrides_a11 b0 a0 a3 a4 a6 a7 a9 a10 a11 p1 p2 p3) := by
  obtain ⟨⟨T, rfl, hw⟩, hl, hm1, hm2, hz, hx, -⟩ := h
  have hT := hw.2.2.1.1
  have hI := hx T hT rfl
  refine ⟨?_, ?_⟩
  · unfold f_O_overrides f_R_overrides
    rw [has_there hw.1, name_eq]
    by_cases c1 : f_R_there (nI T) p1 = (0 : Int32)
    · rw [if_pos (cls_no hw.1 c1), if_pos c1]
    · rw [if_neg c1]
      obtain ⟨c, rfl, k1, k2⟩ := there_k hT c1
      rw [cl (by omega : c < 1000)]
      by_cases c2 : f_R_there (nI T) p2 = (0 : Int32)
      · simp only [if_pos c2]; split <;> rfl
      · simp only [if_neg c2]
        by_cases c3 : f_R_in p3 (0 : Int32) (3 : Int32) = (0 : Int32)
        · simp only [if_pos c3]; split <;> rfl
        · simp only [if_neg c3]
          obtain ⟨a, rfl, j1, j2⟩ := there_k hT c2
          obtain ⟨q, rfl, hq⟩ := name_k c3
          by_cases c0 : a0 c = 0
          · rw [if_neg (fun z => (cls_iff hw k1 k2).mp z c0), if_pos c0, cl13 (by omega) (by omega)]
            have hco := co_eq hw hm2 hq (can_ok hw (a10 := a10) (a11 := a11) hm2 hI hq) k1 k2 (by unfold IN; simp [c0]) j1 j2
            rcases can_01 (a3 := a3) (a4 := a4) (a6 := a6) (a7 := a7) (a9 := a9) (a10 := a10) (a11 := a11) hT (q := q) k1 k2 j1 j2 with z | z
            · rw [z, if_pos (Decidable.byContradiction (fun w => hco.mp w z))]
            · rw [z, if_neg (hco.mpr (by unfold tbR; rw [z]; decide))]
          · rw [if_pos ((cls_iff hw k1 k2).mpr c0), if_neg c0]
  · unfold s_R_overrides_a11
    split
    · exact hz
    · split
      · exact hz
      · split
        · exact hz
        · split
          · exact vZ_fill hz
          · exact hz
