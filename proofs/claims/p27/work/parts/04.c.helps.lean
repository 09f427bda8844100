theorem md_zero {p : Int32} (h1 : ¬ p < 0) (h2 : ¬ 1 ≤ p) : p = 0 := by
  have a1 : ¬ p.toInt < 0 := fun h => h1 (Int32.lt_iff_toInt_lt.mpr h)
  have a2 : ¬ 1 ≤ p.toInt := fun h => h2 (Int32.le_iff_toInt_le.mpr h)
  refine Int32.toInt_inj.mp ?_
  show p.toInt = 0
  omega
theorem md_lcg {x y : Int64} (h : y < x) : 0 < lg_cmp x y := by
  unfold lg_cmp
  rw [if_pos h]
  decide
theorem md_lcl {x y : Int64} (h : x < y) : lg_cmp x y < 0 := by
  unfold lg_cmp
  have h1 : ¬ x > y := fun q => by
    have a1 := Int64.lt_iff_toInt_lt.mp h
    have a2 := Int64.lt_iff_toInt_lt.mp q
    omega
  have h2 : ¬ x = y := fun q => by
    have a1 := Int64.lt_iff_toInt_lt.mp h
    rw [q] at a1
    omega
  rw [if_neg h1, if_neg h2]
  decide
theorem md_lcn {p : Int32} (h : p < 0) : lg_cmp p.toInt64 0 < 0 := md_lcl (by
  have a := Int32.lt_iff_toInt_lt.mp h
  refine Int64.lt_iff_toInt_lt.mpr ?_
  rw [Int32.toInt_toInt64]
  exact a)
theorem md_lc2 {p : Int32} (h : 2 ≤ p) : 0 < lg_cmp p.toInt64 1 := md_lcg (by
  have a := Int32.le_iff_toInt_le.mp h
  refine Int64.lt_iff_toInt_lt.mpr ?_
  rw [Int32.toInt_toInt64]
  show (1 : Int) < p.toInt
  have a : (2 : Int) ≤ p.toInt := a
  omega)
theorem md_lc4 {p : Int32} (h : ¬ p < 4) : 0 < lg_cmp p.toInt64 3 := md_lcg (by
  have a : ¬ p.toInt < 4 := fun q => h (Int32.lt_iff_toInt_lt.mpr q)
  refine Int64.lt_iff_toInt_lt.mpr ?_
  rw [Int32.toInt_toInt64]
  show (3 : Int) < p.toInt
  omega)
