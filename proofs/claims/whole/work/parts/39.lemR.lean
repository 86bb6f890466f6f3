theorem jn_w {x y : Int32} (hp : vp_in x 13) (c : y = (4 : Int32) ∨ y = (5 : Int32) ∨ y = (6 : Int32) ∨ y = (7 : Int32)) : vp_in ((((4 : Int32) * x) + y) - (4 : Int32)) 52 := by
  have h := in_lt hp
  have e : ∀ j : Nat, j < 4 → y = nI (j + 4) → vp_in ((((4 : Int32) * x) + y) - (4 : Int32)) 52 := by
    intro j hj ey
    rw [in_k hp, ey, jx4, show (4 : Int32) = nI 4 from rfl, pk_sub (by omega)]
    exact vp_in_nI (by omega) (by decide)
  rcases c with c | c | c | c
  · exact e 0 (by omega) c
  · exact e 1 (by omega) c
  · exact e 2 (by omega) c
  · exact e 3 (by omega) c
def vZ (a : Nat → Int32) : Prop := ∀ i, narrow .boolean (.int (a i)) = .int (a i)
theorem vZ_0 : vZ (fun _ => 0) := fun _ => (by decide +kernel : narrow .boolean (.int 0) = .int 0)
theorem vZ_nar (x : Int32) : narrow .boolean (.int (vp_nar .boolean x)) = .int (vp_nar .boolean x) := by
  show Value.int ((x &&& 1) &&& 1) = Value.int (x &&& 1)
  rw [Int32.and_assoc]
  rfl
theorem vZ_upd {a : Nat → Int32} (h : vZ a) (k : Nat) (x : Int32) : vZ (upd a k (vp_nar .boolean x)) := by
  intro i
  unfold upd
  split
  · exact vZ_nar x
  · exact h i
theorem vZ_fin {b0 : Int32} {a3 a4 a6 a7 a9 a10 : Nat → Int32} {p1 x2 : Int32} : ∀ (n : Nat) (x : Int32) (y : Nat → Int32), vZ y → vZ (lfin_R_fillCan_19 b0 a3 a4 a6 a7 a9 a10 p1 x2 n x y).2 := by
  intro n
  induction n with
  | zero => intro x y h; exact h
  | succ n ih =>
    intro x y h
    rw [lfin_R_fillCan_19_s]
    split
    · exact h
    · exact ih _ _ (vZ_upd h _ _)
theorem vZ_out {b0 : Int32} {a3 a4 a6 a7 a9 a10 : Nat → Int32} {p1 : Int32} : ∀ (n : Nat) (x : Int32) (y : Nat → Int32), vZ y → vZ (la11_R_fillCan_6 b0 a3 a4 a6 a7 a9 a10 p1 n x y) := by
  intro n
  induction n with
  | zero => intro x y _; exact vZ_0
  | succ n ih =>
    intro x y h
    rw [la11_R_fillCan_6_s]
    split
    · exact h
    · exact ih _ _ (vZ_fin _ _ _ h)
theorem vZ_fill {b0 : Int32} {a3 a4 a6 a7 a9 a10 a11 : Nat → Int32} {p1 : Int32} (h : vZ a11) : vZ (s_R_fillCan_a11 b0 a3 a4 a6 a7 a9 a10 a11 p1) := vZ_out _ _ _ h
