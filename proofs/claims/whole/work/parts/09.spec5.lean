/-! rows of the kit's text on bits, pasted: bt and its laws, nx_and, wb_of32 -/
def bt (x : Int32) (i : Nat) : Bool := x.toBitVec.getLsbD i
theorem b_ext {x y : Int32} (h : ∀ i, i < 32 → bt x i = bt y i) : x = y := Int32.toBitVec_inj.mp (BitVec.eq_of_getLsbD_eq (fun i hi => h i hi))
theorem b_or (x y : Int32) (i : Nat) : bt (x ||| y) i = (bt x i || bt y i) := by unfold bt; rw [Int32.toBitVec_or, BitVec.getLsbD_or]
theorem b_and (x y : Int32) (i : Nat) : bt (x &&& y) i = (bt x i && bt y i) := by unfold bt; rw [Int32.toBitVec_and, BitVec.getLsbD_and]
theorem b_xor (x y : Int32) (i : Nat) : bt (x ^^^ y) i = (bt x i ^^ bt y i) := by unfold bt; rw [Int32.toBitVec_xor, BitVec.getLsbD_xor]
theorem b_big {x : Int32} {i : Nat} (h : 32 ≤ i) : bt x i = false := BitVec.getLsbD_of_ge _ _ h
theorem b_255 (i : Nat) : bt 255 i = decide (i < 8) := by
  rcases Nat.lt_or_ge i 32 with h | h
  · exact (by decide +kernel : ∀ i, i < 32 → bt 255 i = decide (i < 8)) i h
  · rw [b_big h, decide_eq_false (by omega)]
theorem b_65535 (i : Nat) : bt 65535 i = decide (i < 16) := by
  rcases Nat.lt_or_ge i 32 with h | h
  · exact (by decide +kernel : ∀ i, i < 32 → bt 65535 i = decide (i < 16)) i h
  · rw [b_big h, decide_eq_false (by omega)]
theorem b_m1 : ∀ i, i < 32 → bt (-1) i = true := by decide +kernel
theorem b_0 (i : Nat) : bt 0 i = false := BitVec.getLsbD_zero
theorem s_l : ∀ n, n < 32 → ((nI n &&& 31).toBitVec.smod 32).toNat = n := by decide +kernel
theorem s_u : ∀ n, n < 32 → (((nI n).toUInt32 &&& Int32.toUInt32 31).toBitVec % 32).toNat = n := by decide +kernel
theorem b_shl (n : Nat) (hn : n < 32) (x : Int32) {i : Nat} (hi : i < 32) : bt (x <<< (nI n &&& 31)) i = (decide (n ≤ i) && bt x (i - n)) := by
  unfold bt
  rw [Int32.toBitVec_shiftLeft]
  show (x.toBitVec <<< ((nI n &&& 31).toBitVec.smod 32).toNat).getLsbD i = _
  rw [s_l n hn, BitVec.getLsbD_shiftLeft]
  rcases Nat.lt_or_ge i n with h | h
  · simp [h, Nat.not_le.mpr h]
  · simp [hi, h, Nat.not_lt.mpr h]
theorem b_ushr (n : Nat) (hn : n < 32) (x : Int32) (i : Nat) : bt ((x.toUInt32 >>> ((nI n).toUInt32 &&& Int32.toUInt32 31)).toInt32) i = bt x (n + i) := by
  show (x.toUInt32 >>> ((nI n).toUInt32 &&& Int32.toUInt32 31)).toBitVec.getLsbD i = x.toUInt32.toBitVec.getLsbD (n + i)
  rw [UInt32.toBitVec_shiftRight]
  show (x.toUInt32.toBitVec >>> (((nI n).toUInt32 &&& Int32.toUInt32 31).toBitVec % 32).toNat).getLsbD i = _
  rw [s_u n hn, BitVec.getLsbD_ushiftRight]
theorem b_sshr (n : Nat) (hn : n < 32) (x : Int32) {i : Nat} (hi : i < 32) : bt (x >>> (nI n &&& 31)) i = if n + i < 32 then bt x (n + i) else bt x 31 := by
  unfold bt
  rw [Int32.toBitVec_shiftRight]
  show (x.toBitVec.sshiftRight ((nI n &&& 31).toBitVec.smod 32).toNat).getLsbD i = _
  rw [s_l n hn, BitVec.getLsbD_sshiftRight, BitVec.msb_eq_getLsbD_last]
  simp [hi]
theorem nx_and (a b : Nat) : nI a &&& nI b = nI (a &&& b) := by
  apply Int32.toBitVec_inj.1
  show BitVec.ofNat 32 a &&& BitVec.ofNat 32 b = BitVec.ofNat 32 (a &&& b)
  apply BitVec.eq_of_getLsbD_eq
  intro i hi
  simp [hi]
theorem wb_of32 (x : Int32) : ∃ n, n < 2 ^ 32 ∧ x = nI n := ⟨x.toBitVec.toNat, x.toBitVec.isLt, Int32.toBitVec_inj.mp (by show _ = BitVec.ofNat 32 _; simp)⟩
/-! ===== counting bits ===== -/
def sN (s : Int32) : Nat := s.toBitVec.toNat
theorem sN_eq (s : Int32) : s = nI (sN s) := by
  obtain ⟨n, hn, rfl⟩ := wb_of32 s
  exact congrArg nI (pk_tn hn).symm
theorem sN_nI {v : Nat} (h : v < 2 ^ 32) : sN (nI v) = v := pk_tn h
def popN : Nat → Nat → Nat
  | 0, _ => 0
  | n + 1, v => v % 2 + popN n (v / 2)
theorem popN_16 (n a b : Nat) (hb : b < 16) : popN (n + 4) (16 * a + b) = (b % 2 + b / 2 % 2 + b / 4 % 2 + b / 8 % 2) + popN n a := by
  show (16 * a + b) % 2 + ((16 * a + b) / 2 % 2 + ((16 * a + b) / 2 / 2 % 2 + ((16 * a + b) / 2 / 2 / 2 % 2 + popN n ((16 * a + b) / 2 / 2 / 2 / 2)))) = _
  have e1 : (16 * a + b) / 2 = 8 * a + b / 2 := by omega
  have e2 : (8 * a + b / 2) / 2 = 4 * a + b / 4 := by omega
  have e3 : (4 * a + b / 4) / 2 = 2 * a + b / 8 := by omega
  have e4 : (2 * a + b / 8) / 2 = a := by omega
  have m0 : (16 * a + b) % 2 = b % 2 := by omega
  have m1 : (8 * a + b / 2) % 2 = b / 2 % 2 := by omega
  have m2 : (4 * a + b / 4) % 2 = b / 4 % 2 := by omega
  have m3 : (2 * a + b / 8) % 2 = b / 8 % 2 := by omega
  rw [e1, e2, e3, e4, m0, m1, m2, m3]
  simp only [Nat.add_assoc]
theorem and_16 (a b m1 m0 : Nat) (hb : b < 16) (hm : m0 < 16) : (16 * a + b) &&& (16 * m1 + m0) = 16 * (a &&& m1) + (b &&& m0) := by
  apply Nat.eq_of_testBit_eq
  intro i
  have h2 : (16 : Nat) = 2 ^ 4 := rfl
  have hbm : b &&& m0 < 16 := Nat.lt_of_le_of_lt Nat.and_le_left hb
  rw [Nat.testBit_and]
  rw [h2] at hb hm hbm ⊢
  rw [Nat.testBit_two_pow_mul_add _ hb, Nat.testBit_two_pow_mul_add _ hm, Nat.testBit_two_pow_mul_add _ hbm]
  by_cases hi : i < 4
  · simp only [hi, if_true, Nat.testBit_and]
  · simp only [hi, if_false, Nat.testBit_and]
def bs1 (v : Nat) : Nat := v - ((v / 2 ^ 1) &&& 1431655765)
def bs2 (v : Nat) : Nat := (v &&& 858993459) + ((v / 2 ^ 2) &&& 858993459)
def bs3 (v : Nat) : Nat := (v + v / 2 ^ 4) &&& 252645135
def bs4 (v : Nat) : Nat := v + v / 2 ^ 8
def bs5 (v : Nat) : Nat := v + v / 2 ^ 16
def d1F (b : Nat) : Nat := b - ((b / 2) &&& 5)
def d2F (b : Nat) : Nat := (b &&& 3) + ((b / 4) &&& 3)
theorem d1_k : ∀ b, b < 16 → ((b / 2) &&& 5) ≤ b ∧ ((8 + b / 2) &&& 5) = ((b / 2) &&& 5) ∧ d1F b < 16 := by decide +kernel
theorem d2_k : ∀ b, b < 16 → ∀ y, y < 4 → ((4 * y + b / 4) &&& 3) = ((b / 4) &&& 3) ∧ d2F b < 16 := by decide +kernel
theorem d12_k : ∀ b, b < 16 → d2F (d1F b) = b % 2 + b / 2 % 2 + b / 4 % 2 + b / 8 % 2 := by decide +kernel
theorem bs1_go (m : Nat) (a b : Nat) (hb : b < 16) : ((16 * a + b) / 2) &&& (16 * m + 5) = 16 * ((a / 2) &&& m) + ((b / 2) &&& 5) := by
  have e : (16 * a + b) / 2 = 16 * (a / 2) + (8 * (a % 2) + b / 2) := by omega
  rw [e, and_16 _ _ _ _ (by omega) (by decide)]
  obtain ⟨-, h2, -⟩ := d1_k b hb
  rcases Nat.mod_two_eq_zero_or_one a with h | h
  · rw [h, Nat.mul_zero, Nat.zero_add]
  · rw [h, Nat.mul_one, h2]
theorem bs2_go (m : Nat) (a b : Nat) (hb : b < 16) : ((16 * a + b) &&& (16 * m + 3)) = 16 * (a &&& m) + (b &&& 3) ∧ (((16 * a + b) / 4) &&& (16 * m + 3)) = 16 * ((a / 4) &&& m) + ((b / 4) &&& 3) := by
  refine ⟨and_16 _ _ _ _ hb (by decide), ?_⟩
  have e : (16 * a + b) / 4 = 16 * (a / 4) + (4 * (a % 4) + b / 4) := by omega
  rw [e, and_16 _ _ _ _ (by omega) (by decide), (d2_k b hb (a % 4) (Nat.mod_lt _ (by decide))).1]
theorem bs_digits (d3 d2 d1 d0 : Nat) (h3 : d3 < 16) (h2 : d2 < 16) (h1 : d1 < 16) (h0 : d0 < 16) :
    bs1 (4096 * d3 + 256 * d2 + 16 * d1 + d0) = 4096 * d1F d3 + 256 * d1F d2 + 16 * d1F d1 + d1F d0 := by
  unfold bs1
  have e : 4096 * d3 + 256 * d2 + 16 * d1 + d0 = 16 * (16 * (16 * (16 * 0 + d3) + d2) + d1) + d0 := by omega
  have k : ((4096 * d3 + 256 * d2 + 16 * d1 + d0) / 2 ^ 1) &&& 1431655765 = 16 * (16 * (16 * (16 * 0 + ((d3 / 2) &&& 5)) + ((d2 / 2) &&& 5)) + ((d1 / 2) &&& 5)) + ((d0 / 2) &&& 5) := by
    rw [e, show (2 : Nat) ^ 1 = 2 from rfl, show (1431655765 : Nat) = 16 * (16 * (16 * (16 * 21845 + 5) + 5) + 5) + 5 from rfl, bs1_go _ _ _ h0, bs1_go _ _ _ h1, bs1_go _ _ _ h2, bs1_go _ _ _ h3]
    rfl
  rw [k]
  have a3 := (d1_k d3 h3).1
  have a2 := (d1_k d2 h2).1
  have a1 := (d1_k d1 h1).1
  have a0 := (d1_k d0 h0).1
  unfold d1F
  omega
theorem bs2_digits (d3 d2 d1 d0 : Nat) (h3 : d3 < 16) (h2 : d2 < 16) (h1 : d1 < 16) (h0 : d0 < 16) :
    bs2 (4096 * d3 + 256 * d2 + 16 * d1 + d0) = 4096 * d2F d3 + 256 * d2F d2 + 16 * d2F d1 + d2F d0 := by
  unfold bs2
  have e : 4096 * d3 + 256 * d2 + 16 * d1 + d0 = 16 * (16 * (16 * (16 * 0 + d3) + d2) + d1) + d0 := by omega
  have m : (858993459 : Nat) = 16 * (16 * (16 * (16 * 13107 + 3) + 3) + 3) + 3 := rfl
  rw [e, m, show (2 : Nat) ^ 2 = 4 from rfl, (bs2_go _ _ _ h0).1, (bs2_go _ _ _ h0).2, (bs2_go _ _ _ h1).1, (bs2_go _ _ _ h1).2, (bs2_go _ _ _ h2).1, (bs2_go _ _ _ h2).2, (bs2_go _ _ _ h3).1, (bs2_go _ _ _ h3).2]
  rw [show (0 : Nat) / 4 = 0 from rfl, Nat.zero_and]
  unfold d2F
  omega
theorem bs3_digits (p3 p2 p1 p0 : Nat) (h3 : p3 ≤ 4) (h2 : p2 ≤ 4) (h1 : p1 ≤ 4) (h0 : p0 ≤ 4) :
    bs3 (4096 * p3 + 256 * p2 + 16 * p1 + p0) = 256 * (p3 + p2) + (p1 + p0) := by
  unfold bs3
  have e : 4096 * p3 + 256 * p2 + 16 * p1 + p0 + (4096 * p3 + 256 * p2 + 16 * p1 + p0) / 2 ^ 4 = 16 * (16 * (16 * (16 * 0 + p3) + (p3 + p2)) + (p2 + p1)) + (p1 + p0) := by
    rw [show (2 : Nat) ^ 4 = 16 from rfl]
    omega
  rw [e, show (252645135 : Nat) = 16 * (16 * (16 * (16 * 3855 + 0) + 15) + 0) + 15 from rfl, and_16 _ _ _ _ (by omega) (by decide), and_16 _ _ _ _ (by omega) (by decide), and_16 _ _ _ _ (by omega) (by decide), and_16 _ _ _ _ (by omega) (by decide), Nat.zero_and, Nat.and_zero, Nat.and_zero]
  have f : ∀ x, x < 16 → x &&& 15 = x := by decide +kernel
  rw [f _ (by omega), f _ (by omega)]
  omega
theorem pl4 (d : Nat) : d % 2 + d / 2 % 2 + d / 4 % 2 + d / 8 % 2 ≤ 4 := by omega
theorem dig4 {v : Nat} (hv : v < 65536) : ∃ d3 d2 d1 d0, d3 < 16 ∧ d2 < 16 ∧ d1 < 16 ∧ d0 < 16 ∧ v = 4096 * d3 + 256 * d2 + 16 * d1 + d0 := ⟨v / 4096, v / 256 % 16, v / 16 % 16, v % 16, by omega, by omega, by omega, by omega, by omega⟩
theorem pop_fin : ∀ q3 q2 q1 q0 : Nat, q3 ≤ 4 → q2 ≤ 4 → q1 ≤ 4 → q0 ≤ 4 → bs5 (bs4 (256 * (q3 + q2) + (q1 + q0))) &&& 63 = q3 + q2 + q1 + q0 := by
  intro q3 q2 q1 q0 a3 a2 a1 a0
  have e4 : bs4 (256 * (q3 + q2) + (q1 + q0)) = 256 * (q3 + q2) + (q3 + q2 + (q1 + q0)) := by
    unfold bs4
    rw [show (2 : Nat) ^ 8 = 256 from rfl]
    omega
  have e5 : bs5 (256 * (q3 + q2) + (q3 + q2 + (q1 + q0))) = 256 * (q3 + q2) + (q3 + q2 + (q1 + q0)) := by
    unfold bs5
    rw [show (2 : Nat) ^ 16 = 65536 from rfl]
    omega
  rw [e4, e5, show (63 : Nat) = 2 ^ 6 - 1 from rfl, Nat.and_two_pow_sub_one_eq_mod]
  rw [show (2 : Nat) ^ 6 = 64 from rfl]
  omega
theorem pop_dig {d3 d2 d1 d0 : Nat} (h3 : d3 < 16) (h2 : d2 < 16) (h1 : d1 < 16) (h0 : d0 < 16) : popN 16 (4096 * d3 + 256 * d2 + 16 * d1 + d0) = (d3 % 2 + d3 / 2 % 2 + d3 / 4 % 2 + d3 / 8 % 2) + (d2 % 2 + d2 / 2 % 2 + d2 / 4 % 2 + d2 / 8 % 2) + (d1 % 2 + d1 / 2 % 2 + d1 / 4 % 2 + d1 / 8 % 2) + (d0 % 2 + d0 / 2 % 2 + d0 / 4 % 2 + d0 / 8 % 2) := by
  have e2 : 4096 * d3 + 256 * d2 + 16 * d1 + d0 = 16 * (16 * (16 * (16 * 0 + d3) + d2) + d1) + d0 := by omega
  rw [e2]
  refine (popN_16 12 _ _ h0).trans ?_
  rw [show popN 12 (16 * (16 * (16 * 0 + d3) + d2) + d1) = _ from popN_16 8 _ _ h1, show popN 8 (16 * (16 * 0 + d3) + d2) = _ from popN_16 4 _ _ h2, show popN 4 (16 * 0 + d3) = _ from popN_16 0 _ _ h3]
  show _ + (_ + (_ + (_ + 0))) = _
  generalize d3 % 2 + d3 / 2 % 2 + d3 / 4 % 2 + d3 / 8 % 2 = q3
  generalize d2 % 2 + d2 / 2 % 2 + d2 / 4 % 2 + d2 / 8 % 2 = q2
  generalize d1 % 2 + d1 / 2 % 2 + d1 / 4 % 2 + d1 / 8 % 2 = q1
  generalize d0 % 2 + d0 / 2 % 2 + d0 / 4 % 2 + d0 / 8 % 2 = q0
  omega
theorem pop_go {v : Nat} (hv : v < 65536) : bs5 (bs4 (bs3 (bs2 (bs1 v)))) &&& 63 = popN 16 v := by
  obtain ⟨d3, d2, d1, d0, h3, h2, h1, h0, e⟩ := dig4 hv
  rw [e, bs_digits d3 d2 d1 d0 h3 h2 h1 h0, bs2_digits _ _ _ _ (d1_k d3 h3).2.2 (d1_k d2 h2).2.2 (d1_k d1 h1).2.2 (d1_k d0 h0).2.2, d12_k d3 h3, d12_k d2 h2, d12_k d1 h1, d12_k d0 h0]
  rw [bs3_digits _ _ _ _ (pl4 _) (pl4 _) (pl4 _) (pl4 _)]
  rw [pop_dig h3 h2 h1 h0]
  exact pop_fin _ _ _ _ (pl4 _) (pl4 _) (pl4 _) (pl4 _)
theorem bs1_sub (v : Nat) : (v / 2 ^ 1 &&& 1431655765) ≤ v := Nat.le_trans Nat.and_le_left (Nat.div_le_self _ _)
theorem bs1_le {v : Nat} (h : v < 65536) : bs1 v < 65536 := by unfold bs1; omega
theorem bs2_le (v : Nat) : bs2 v < 2 ^ 31 := by
  unfold bs2
  have h1 : v &&& 858993459 ≤ 858993459 := Nat.and_le_right
  have h2 : v / 2 ^ 2 &&& 858993459 ≤ 858993459 := Nat.and_le_right
  omega
theorem bs3_le (v : Nat) : bs3 v ≤ 252645135 := Nat.and_le_right
theorem bs4_le {v : Nat} (h : v ≤ 252645135) : bs4 v < 2 ^ 29 := by unfold bs4; omega
theorem bs5_le {v : Nat} (h : v < 2 ^ 29) : bs5 v < 2 ^ 30 := by unfold bs5; omega
