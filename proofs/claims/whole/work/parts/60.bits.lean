/-! the class's sets by their bits -/
theorem hb0 {x : Int32} {k : Nat} (hk : k < 32) : f_O_holds x (nI k) = (0 : Int32) ↔ bt x k = false := by
  unfold f_O_holds
  constructor
  · intro h
    by_cases c : (x &&& ((1 : Int32) <<< (nI k &&& (31 : Int32)))) = (0 : Int32)
    · have h1 : bt (x &&& ((1 : Int32) <<< (nI k &&& (31 : Int32)))) k = false := by rw [c]; exact b_0 k
      rw [b_and, one_shl hk hk] at h1
      simpa using h1
    · rw [if_neg c] at h; exact absurd h (by decide +kernel)
  · intro h
    rw [if_pos]
    refine b_ext (fun i hi => ?_)
    rw [b_and, one_shl hk hi, b_0]
    by_cases e : i = k
    · subst e; simp [h]
    · simp [e]
theorem hb1 {x : Int32} {k : Nat} (hk : k < 32) : ¬ f_O_holds x (nI k) = (0 : Int32) ↔ bt x k = true := by
  rw [hb0 hk]; simp
/-- a set by its elements: the class's test and the reference's agree -/
theorem hb_sb {x : Int32} {k : Nat} (hk : k < 32) : f_O_holds x (nI k) = (0 : Int32) ↔ ((x >>> (nI k &&& (31 : Int32))) &&& (1 : Int32)) = (0 : Int32) := (hb0 hk).trans (sb0 hk).symm
theorem has_there {w : WS} {b x : Int32} (e : w.2 3 = b) : f_W_has w x = f_R_there b x := by
  unfold f_W_has f_R_there f_R_in
  rw [e]
theorem name_in {x : Int32} : f_O_isName x = (0 : Int32) ↔ f_R_in x (0 : Int32) (3 : Int32) = (0 : Int32) := by
  have h4 : (4 : Int32).toInt = 4 := by decide +kernel
  have h3 : (3 : Int32).toInt = 3 := by decide +kernel
  unfold f_O_isName f_R_in
  by_cases c1 : x < (0 : Int32)
  · rw [if_pos c1, if_pos c1]
  · rw [if_neg c1, if_neg c1]
    by_cases c2 : (4 : Int32) ≤ x
    · rw [if_pos c2, if_pos (by rw [Int32.lt_iff_toInt_lt]; rw [Int32.le_iff_toInt_le] at c2; omega)]
    · rw [if_neg c2, if_neg (by rw [Int32.lt_iff_toInt_lt]; rw [Int32.le_iff_toInt_le] at c2; omega)]
