/-! ===== the model: barred cells, texts ===== -/
theorem n64_n {n : Int32} (h : n < 0) : ¬ 0 ≤ lg_cmp n.toInt64 0 := by
  intro z
  have z1 := (lg_cmp_ge _ _).mp z
  rw [Int64.le_iff_toInt_le, Int32.toInt_toInt64] at z1
  rw [Int32.lt_iff_toInt_lt, ti_0] at h
  have z2 : 0 ≤ n.toInt := z1
  omega
theorem n64_p {n : Int32} (h : ¬ n < 0) : 0 ≤ lg_cmp n.toInt64 0 := by
  refine (lg_cmp_ge _ _).mpr ?_
  rw [Int64.le_iff_toInt_le, Int32.toInt_toInt64]
  have h1 := Int32.not_lt.mp h
  rw [Int32.le_iff_toInt_le, ti_0] at h1
  exact h1
