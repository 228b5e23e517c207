theorem tNum_m1 {q : Int32} (h : ¬ tNum q = -1) : ¬ tNum q < 0 := by
  unfold tNum at *
  split
  · decide
  split
  · decide
  split
  · decide
  split
  · decide
  simp_all
