theorem w33 {w : Nat} (h : ¬ (33 : Int32) ≤ nI w) (hw : w < 2 ^ 31) : vp_in (nI w) 33 := by
  refine vp_in_nI ?_ (by decide)
  rcases Nat.lt_or_ge w 33 with q | q
  · exact q
  · exact absurd (show (33 : Int32) ≤ nI w from nI_le (a := 33) (b := w) q hw) h
