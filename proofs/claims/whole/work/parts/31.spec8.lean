def q1F (k o : Nat) : Nat := if ¬ k = 0 ∧ ¬ o = 0 then 0 else if ¬ k = 1 ∧ ¬ o = 1 then 1 else 2
def q2F (k o : Nat) : Nat := if ¬ k = 3 ∧ ¬ o = 3 then 3 else if ¬ k = 2 ∧ ¬ o = 2 then 2 else 1
theorem sp_i {i n : Int32} {l : Nat} (h : spP i n l) : ¬ i < 0 := by
  rw [Int32.lt_iff_toInt_lt, ti_0]
  have := h.1
  omega
theorem sp_n {i n : Int32} {l : Nat} (h : spP i n l) : ¬ n < 0 := by
  rw [Int32.lt_iff_toInt_lt, ti_0]
  have := h.2.1
  omega
theorem sp_l {i n : Int32} {l : Nat} (h : spP i n l) (hl : l ≤ 60) : i.toNatClampNeg + n.toNatClampNeg ≤ 60 := (sp_nat ⟨h.1, h.2.1, by have := h.2.2; omega⟩).2.2
