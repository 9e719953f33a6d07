theorem kk_m100 {y : Int32} (h0 : 0 ≤ y.toInt) (h1 : y.toInt ≤ 120) : ((-100) - y : Int32).toInt = -100 - y.toInt := by
  have e : ((-100) : Int32).toInt = -100 := by decide
  rw [Int32.toInt_sub, e]
  exact kk_bm (by omega) (by omega)
