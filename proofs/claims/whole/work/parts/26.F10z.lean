theorem in_dcf2 {w : WS} {x : Int32} (hw : WF w) (hx : vp_in x 13) (c : (f_W_directCount w x) < (4 : Int32)) : vp_in ((x * (4 : Int32)) + ((w.1 3) x.toNatClampNeg)) 52 := by
  refine in_dcf hw hx (fun h => ?_)
  rw [Int32.lt_iff_toInt_lt] at c
  rw [Int32.le_iff_toInt_le] at h
  omega
