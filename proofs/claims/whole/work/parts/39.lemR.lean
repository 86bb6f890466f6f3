theorem jn_w {x y : Int32} (hp : vp_in x 13) (c : y = (4 : Int32) ∨ y = (5 : Int32) ∨ y = (6 : Int32) ∨ y = (7 : Int32)) : vp_in ((((4 : Int32) * x) + y) - (4 : Int32)) 52 := by
  have h := in_lt hp
  have e : ∀ j : Nat, j < 4 → y = nI (j + 4) → vp_in ((((4 : Int32) * x) + y) - (4 : Int32)) 52 := by
    intro j hj ey
    rw [in_k hp, ey, jx4, show (4 : Int32) = nI 4 from rfl, pk_sub (by omega)]
    exact vp_in_nI (by omega) (by decide)
  rcases c with c | c | c | c
  · exact e 0 (by omega) c
  · exact e 1 (by omega) c
  · exact e 2 (by omega) c
  · exact e 3 (by omega) c
