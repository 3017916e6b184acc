/-! ===== facts of the model's own ways of saying ===== -/
theorem bv_sr1 (x : BitVec 32) (j : Nat) (hj : j < 32) : (x.sshiftRight j &&& 1#32 = 1#32) ↔ x.getLsbD j = true := by
  constructor
  · intro h
    have h2 : (x.sshiftRight j &&& 1#32).getLsbD 0 = x.getLsbD j := by
      rw [BitVec.getLsbD_and, BitVec.getLsbD_sshiftRight, Nat.add_zero, if_pos hj, show (1#32).getLsbD 0 = true from rfl, Bool.and_true]
      simp
    rw [h] at h2
    exact h2.symm
  · intro h
    apply BitVec.eq_of_getLsbD_eq
    intro i hi
    by_cases h0 : i = 0
    · subst h0
      simp [BitVec.getLsbD_sshiftRight, hj, h]
    · simp [BitVec.getLsbD_one, h0]
theorem bv_and1 (x : BitVec 32) (j : Nat) (hj : j < 32) : (x &&& 1#32 <<< j = 0#32) ↔ ¬ x.getLsbD j = true := by
  constructor
  · intro h
    have h1 := congrArg (fun z : BitVec 32 => z.getLsbD j) h
    simpa [BitVec.getLsbD_shiftLeft, hj] using h1
  · intro h
    apply BitVec.eq_of_getLsbD_eq
    intro i hi
    by_cases h0 : i = j
    · subst h0
      simpa [BitVec.getLsbD_shiftLeft, hj] using h
    · simp [BitVec.getLsbD_shiftLeft, BitVec.getLsbD_one]
      omega
theorem in_long {v : Int32} {n : Nat} (hn : n < 2 ^ 31) : ((0 : Int64) ≤ v.toInt64 ∧ v.toInt64 ≤ (nI n).toInt64 - 1) ↔ inN v n := by
  have e1 : ((nI n).toInt64 - 1).toInt = (n : Int) - 1 := by
    rw [Int64.toInt_sub, Int32.toInt_toInt64, nI_toInt hn]
    show ((n : Int) - 1).bmod (2 ^ 64) = _
    rw [Int.bmod_eq_of_le] <;> omega
  rw [Int64.le_iff_toInt_le, Int64.le_iff_toInt_le, e1, Int32.toInt_toInt64]
  show (0 ≤ v.toInt ∧ _) ↔ _
  unfold inN
  omega
theorem in_lit {v : Int32} {a z : Int64} {n : Nat} (ha : a.toInt = 0) (hz : z.toInt + 1 = n) : (a ≤ v.toInt64 ∧ v.toInt64 ≤ z) ↔ inN v n := by
  rw [Int64.le_iff_toInt_le, Int64.le_iff_toInt_le, ha, Int32.toInt_toInt64]
  unfold inN
  omega
theorem in_btw {v : Int32} {a z : Int64} {lo hi : Int32} (ha : a.toInt = lo.toInt) (hz : z.toInt = hi.toInt) : (a ≤ v.toInt64 ∧ v.toInt64 ≤ z) ↔ (lo.toInt ≤ v.toInt ∧ v.toInt ≤ hi.toInt) := by
  rw [Int64.le_iff_toInt_le, Int64.le_iff_toInt_le, ha, hz, Int32.toInt_toInt64]
theorem isin_iff {s k : Int32} (hk : inN k 32) : ((s >>> (k &&& 31)) &&& 1 = 1) ↔ inS s k := by
  obtain ⟨j, hj, hj2⟩ : ∃ j : Nat, j < 32 ∧ k = nI j := ⟨k.toNatClampNeg, hk.lt, hk.eq⟩
  subst hj2
  have hm : (nI j &&& 31 : Int32) = nI j := by
    rw [show (31 : Int32) = nI 31 from rfl, nx_and]
    exact congrArg nI (by rw [show (31 : Nat) = 2 ^ 5 - 1 from rfl, Nat.and_two_pow_sub_one_eq_mod]; omega)
  have hj3 : ((nI j).toBitVec.smod 32).toNat = j := by
    rcases (show j = 0 ∨ j = 1 ∨ j = 2 ∨ j = 3 ∨ j = 4 ∨ j = 5 ∨ j = 6 ∨ j = 7 ∨ j = 8 ∨ j = 9 ∨ j = 10 ∨ j = 11 ∨ j = 12 ∨ j = 13 ∨ j = 14 ∨ j = 15 ∨ j = 16 ∨ j = 17 ∨ j = 18 ∨ j = 19 ∨ j = 20 ∨ j = 21 ∨ j = 22 ∨ j = 23 ∨ j = 24 ∨ j = 25 ∨ j = 26 ∨ j = 27 ∨ j = 28 ∨ j = 29 ∨ j = 30 ∨ j = 31 by omega) with h | h | h | h | h | h | h | h | h | h | h | h | h | h | h | h | h | h | h | h | h | h | h | h | h | h | h | h | h | h | h | h <;> subst h <;> decide
  have a1 : (s >>> nI j &&& 1 = 1) ↔ (s.toBitVec.sshiftRight j &&& 1#32 = 1#32) := by
    rw [← Int32.toBitVec_inj, Int32.toBitVec_and, Int32.toBitVec_shiftRight, BitVec.sshiftRight', hj3]
    rfl
  have a2 : (s &&& bi (nI j) = 0) ↔ (s.toBitVec &&& 1#32 <<< j = 0#32) := by
    unfold bi
    rw [hm, ← Int32.toBitVec_inj, Int32.toBitVec_and, Int32.toBitVec_shiftLeft, BitVec.shiftLeft_eq', hj3]
    rfl
  rw [hm, a1, bv_sr1 _ _ hj]
  unfold inS
  rw [a2, bv_and1 _ _ hj]
  have hp : 0 ≤ (nI j).toInt := hk.1
  constructor
  · intro h
    exact ⟨hp, fun z => z h⟩
  · intro h
    exact Decidable.byContradiction h.2
abbrev kdOk (x : Int32) : Prop := x = 0 ∨ x = 1 ∨ x = 2 ∨ x = 3
abbrev etOk (x : Int32) : Prop := 0 ≤ x.toInt ∧ x.toInt ≤ 9
theorem wk_3 (p : Int32) : wk 3 p = 0 := rfl
theorem wk_else {k : Int32} (p : Int32) (hk : kdOk k) (h3 : ¬ k = 3) (h0 : ¬ k = 0) (h1 : ¬ k = 1) : 2 * (p + 1) = wk k p := by
  have h2 : k = 2 := by
    rcases hk with a | a | a | a
    · exact absurd a h0
    · exact absurd a h1
    · exact a
    · exact absurd a h3
  subst h2
  rfl
theorem cl9_neg {x : Int32} (h : x < 0) : cl9 x = 0 := by
  unfold cl9
  first | rw [if_pos h] | (split <;> first | rfl | (exfalso; simp only [Int32.lt_iff_toInt_lt, Int32.le_iff_toInt_le, ti_0, ti_9] at *; omega))
theorem cv_3 {p e ws : Int32} (he : etOk e) : cv 3 p e ws = 0 := by
  have e1 : ws * wk 3 p - e = -e := by
    rw [wk_3]
    apply Int32.toBitVec_inj.mp
    simp
  unfold cv
  rw [e1]
  have hn : (-e).toInt = - e.toInt := by
    rw [Int32.toInt_neg]
    have := he.1
    have := he.2
    rw [Int.bmod_eq_of_le] <;> omega
  by_cases h : -e < 0
  · exact cl9_neg h
  · have h0 : e.toInt = 0 := by
      have := he.1
      rw [Int32.lt_iff_toInt_lt, hn] at h
      simp only [ti_0] at h
      omega
    have h1 : e = 0 := Int32.toInt_inj.mp h0
    subst h1
    rfl
theorem cv_a {k p e ws : Int32} (h : wk k p * ws - e < 0) : (0 : Int32) = cv k p e ws := by
  unfold cv
  rw [Int32.mul_comm ws]
  exact (cl9_neg h).symm
theorem cv_b {k p e ws : Int32} (h0 : ¬ wk k p * ws - e < 0) (h : 9 < wk k p * ws - e) : (9 : Int32) = cv k p e ws := by
  unfold cv cl9
  rw [Int32.mul_comm ws, if_neg h0, if_pos h]
theorem cv_c {k p e ws : Int32} (h0 : ¬ wk k p * ws - e < 0) (h : ¬ 9 < wk k p * ws - e) : wk k p * ws - e = cv k p e ws := by
  unfold cv cl9
  rw [Int32.mul_comm ws, if_neg h0, if_neg h]
theorem rip_of {br p k e ws : Int32} (hb : 1 ≤ br.toInt) (he : etOk e) (h : br ≤ cv k p e ws) : ripP p br k e ws := by
  refine ⟨fun z => ?_, h⟩
  subst z
  rw [cv_3 he, Int32.le_iff_toInt_le] at h
  simp only [ti_0] at h
  omega
def thN (kd : Nat → Int32) : Nat → Nat
  | 0 => 0
  | n + 1 => thN kd n + (if kd n = 3 then 1 else 0)
theorem in_bt {v : Int32} {a z : Int64} {lo hi : Int} (ha : a.toInt = lo) (hz : z.toInt = hi) : (a ≤ v.toInt64 ∧ v.toInt64 ≤ z) ↔ btw v lo hi := by
  rw [Int64.le_iff_toInt_le, Int64.le_iff_toInt_le, ha, hz, Int32.toInt_toInt64]
theorem in_le {v : Int32} {n : Nat} (hn : n < 2 ^ 31) : ((0 : Int64) ≤ v.toInt64 ∧ v.toInt64 ≤ (nI n).toInt64) ↔ inN v (n + 1) := by
  rw [Int64.le_iff_toInt_le, Int64.le_iff_toInt_le, Int32.toInt_toInt64, Int32.toInt_toInt64, nI_toInt hn]
  show (0 ≤ v.toInt ∧ _) ↔ _
  unfold inN
  omega
theorem so_s {pc : Int32} {kd et ro rb rv : Nat → Int32} {k : Nat} (h : soP pc kd et ro rb rv k) (e : cv (kd (ro k).toNatClampNeg) pc (et (ro k).toNatClampNeg) (rb k) = rv k) : soP pc kd et ro rb rv (k + 1) := by
  intro q hq
  by_cases a : q = k
  · subst a
    exact e
  · exact h q (by omega)
theorem so_n {pc : Int32} {kd et ro rb rv : Nat → Int32} {k : Nat} (h : ¬ soP pc kd et ro rb rv k) : ¬ soP pc kd et ro rb rv (k + 1) := fun z => h (fun q hq => z q (by omega))
theorem so_m {pc : Int32} {kd et ro rb rv : Nat → Int32} {k : Nat} (e : ¬ cv (kd (ro k).toNatClampNeg) pc (et (ro k).toNatClampNeg) (rb k) = rv k) : ¬ soP pc kd et ro rb rv (k + 1) := fun z => e (z k (by omega))
theorem setF_h0 {P : Nat → Prop} [DecidablePred P] {n : Nat} (h : ¬ P n) : setF P 0 n ||| 0 = setF P 0 (n + 1) := by rw [Int32.or_zero, setF, Nat.zero_add, if_neg h, Int32.or_zero]
theorem setF_h {P : Nat → Prop} [DecidablePred P] {a n : Nat} (h : ¬ P (a + n)) : setF P a n ||| 0 = setF P a (n + 1) := by rw [Int32.or_zero, setF, if_neg h, Int32.or_zero]
theorem kd_up {kd : Nat → Int32} (h : ∀ k, k < 16 → kdOk (kd k)) {j k : Nat} (hk : k < 3) : ∀ q, q < 16 → kdOk (upd kd j (nI k) q) := by
  intro q hq
  unfold upd
  split
  · rcases (show k = 0 ∨ k = 1 ∨ k = 2 by omega) with a | a | a <;> subst a
    · exact Or.inl rfl
    · exact Or.inr (Or.inl rfl)
    · exact Or.inr (Or.inr (Or.inl rfl))
  · exact h q hq
theorem et_up {et : Nat → Int32} (h : ∀ k, k < 16 → etOk (et k)) {j k : Nat} (hk : k < 10) : ∀ q, q < 16 → etOk (upd et j (nI k) q) := by
  intro q hq
  unfold upd
  split
  · unfold etOk
    rw [nI_toInt (by omega)]
    omega
  · exact h q hq
