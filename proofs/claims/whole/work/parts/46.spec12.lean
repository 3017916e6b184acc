/-! ===== the model: bits, neighbours, the text's codes ===== -/
theorem bt_lt {L k : Nat} (h : L < 2 ^ (16 - k)) (h0 : 0 < L) : k < 16 := by
  rcases Nat.lt_or_ge k 16 with a | a
  · exact a
  · rw [show 16 - k = 0 by omega, Nat.pow_zero] at h
    omega
theorem bt_s {N L k t : Nat} (hk : k < 16) (h : N + popN (16 - k) L = t) : N + L % 2 + popN (16 - (k + 1)) (L / 2) = t := by
  rw [show 16 - k = (16 - (k + 1)) + 1 by omega] at h
  rw [← h, Nat.add_assoc]
  rfl
theorem bt_h {L k : Nat} (hk : k < 16) (h : L < 2 ^ (16 - k)) : L / 2 < 2 ^ (16 - (k + 1)) := by
  rw [show 16 - k = (16 - (k + 1)) + 1 by omega, Nat.pow_succ] at h
  omega
theorem popN_0 : ∀ n, popN n 0 = 0
  | 0 => rfl
  | n + 1 => by
    show 0 % 2 + popN n (0 / 2) = 0
    rw [show (0 : Nat) / 2 = 0 from rfl, popN_0 n]
theorem nI_m1 {n : Nat} (h : 0 < n) : nI n + (-1) = nI (n - 1) := by
  rw [show (-1 : Int32) = Int32.ofInt (-1) from rfl]
  exact iinc_m1 h
theorem nI_nez {n : Nat} (h0 : 0 < n) (h : n < 2 ^ 31) : ¬ nI n = 0 := fun z => absurd ((nI_eq (a := n) (b := 0) h (by decide)).mp z) (by omega)
theorem nb_a0 {j w : Nat} (h : 0 < j / w) : (j / w - 1) * w + (j % w + 0) = j - w := by
  have e := Nat.div_add_mod' j w
  have l := Nat.mul_le_mul_right w h
  rw [Nat.sub_one_mul]
  omega
theorem nb_a1 (j w : Nat) : (j / w + 0) * w + (j % w + 1) = j + 1 := by
  have e := Nat.div_add_mod' j w
  rw [Nat.add_zero]
  omega
theorem nb_a2 (j w : Nat) : (j / w + 1) * w + (j % w + 0) = j + w := by
  have e := Nat.div_add_mod' j w
  rw [Nat.add_one_mul]
  omega
theorem nb_a3 {j w : Nat} (h : 0 < j % w) : (j / w + 0) * w + (j % w - 1) = j - 1 := by
  have e := Nat.div_add_mod' j w
  rw [Nat.add_zero]
  omega
/-- the code at a place of a text of m codes -/
def cdF (tx : Nat → Int32) (ii m p : Nat) : Int32 := if p < m then tx (ii + p) else -9
abbrev fgP (tx : Nat → Int32) (ii m p : Nat) (lo hi : Int32) : Prop := lo.toInt ≤ (cdF tx ii m p - 48).toInt ∧ (cdF tx ii m p - 48).toInt ≤ hi.toInt
def fgR (tx : Nat → Int32) (ii m p : Nat) (lo hi : Int32) : Int32 := if fgP tx ii m p lo hi then cdF tx ii m p - 48 else -9
def fgN (tx : Nat → Int32) (ii m p : Nat) (lo hi : Int32) : Nat := if fgP tx ii m p lo hi then p + 1 else p
/-- a cell's place in the text, as the model reads it: whether the row's sign is wanting, where the letter stands -/
def rpB (tx : Nat → Int32) (ii m p w c : Nat) : Nat := if c % w = 0 then (if cdF tx ii m p = 59 then p + 1 else p) else p
abbrev rpG (tx : Nat → Int32) (ii m p w c : Nat) : Prop := c % w = 0 → cdF tx ii m p = 59
abbrev rpP (tx : Nat → Int32) (ii m p w c : Nat) : Prop := rpG tx ii m p w c ∧ ¬ kindF (cdF tx ii m (rpB tx ii m p w c)) = -9
def rpN (tx : Nat → Int32) (ii m p w c : Nat) : Nat := if rpP tx ii m p w c then rpB tx ii m p w c + 1 else rpB tx ii m p w c
def rpK (tx : Nat → Int32) (ii m p w c : Nat) (f : Nat → Int32) : Nat → Int32 := if rpP tx ii m p w c then upd f c (kindF (cdF tx ii m (rpB tx ii m p w c))) else f
theorem kf_103 : kindF 103 = 0 := rfl
theorem kf_115 : kindF 115 = 1 := rfl
theorem kf_111 : kindF 111 = 2 := rfl
theorem kf_35 : kindF 35 = 3 := rfl
theorem kf_no {x : Int32} (h1 : ¬ x = 103) (h2 : ¬ x = 115) (h3 : ¬ x = 111) (h4 : ¬ x = 35) : kindF x = -9 := by rw [kindF, if_neg h4, if_neg h1, if_neg h3, if_neg h2]
theorem bs_cases {t : Nat} (a b : Nat) (h : t < 4) : (t = 0 ∧ 0 < a) ∨ (t = 0 ∧ a = 0) ∨ t = 1 ∨ t = 2 ∨ (t = 3 ∧ 0 < b) ∨ (t = 3 ∧ b = 0) := by omega
