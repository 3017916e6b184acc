/-! ===== odds: whole shares of 12 to the 15th ===== -/
def chN (h w j : Nat) (lf : Int32) : Nat → Nat
  | 0 => 0
  | t + 1 => chN h w j lf t + (if inS lf (nbF h w j t) then 1 else 0)
def smN (rec : Nat → Int32 → Nat → Nat) (h w j : Nat) (lf : Int32) (q : Nat) : Nat → Nat
  | 0 => 0
  | t + 1 => smN rec h w j lf q t + (if inS lf (nbF h w j t) then rec (nbF h w j t).toNatClampNeg (wo lf (nbF h w j t)) q else 0)
def odF (h w : Nat) : Nat → Nat → Int32 → Nat → Nat
  | 0, _, lf, sh => if lf = 0 then sh else 0
  | d + 1, j, lf, sh => if lf = 0 then sh else smN (odF h w d) h w j lf (sh / chN h w j lf 4) 4
theorem chN_le (h w j : Nat) (lf : Int32) : ∀ t, chN h w j lf t ≤ t
  | 0 => Nat.le_refl 0
  | t + 1 => by
    have ih := chN_le h w j lf t
    rw [chN]
    by_cases a : inS lf (nbF h w j t)
    · rw [if_pos a]; omega
    · rw [if_neg a]; omega
theorem chN_t {h w j t : Nat} {lf : Int32} (a : inS lf (nbF h w j t)) : nI (chN h w j lf t + 1) = nI (chN h w j lf (t + 1)) := by rw [chN, if_pos a]
theorem chN_f {h w j t : Nat} {lf : Int32} (a : ¬ inS lf (nbF h w j t)) : nI (chN h w j lf t + 0) = nI (chN h w j lf (t + 1)) := by rw [chN, if_neg a]
theorem smN_le {rec : Nat → Int32 → Nat → Nat} {h w j : Nat} {lf : Int32} {q : Nat} (hr : ∀ i l, rec i l q ≤ q) : ∀ t, smN rec h w j lf q t ≤ chN h w j lf t * q
  | 0 => by rw [smN, chN, Nat.zero_mul]; exact Nat.le_refl 0
  | t + 1 => by
    have ih := smN_le (rec := rec) (h := h) (w := w) (j := j) (lf := lf) (q := q) hr t
    rw [smN, chN]
    by_cases a : inS lf (nbF h w j t)
    · rw [if_pos a, if_pos a, Nat.add_mul, Nat.one_mul]
      exact Nat.add_le_add ih (hr _ _)
    · rw [if_neg a, if_neg a, Nat.add_zero, Nat.add_zero]; exact ih
theorem odF_le (h w : Nat) : ∀ (d j : Nat) (lf : Int32) (sh : Nat), odF h w d j lf sh ≤ sh
  | 0, _, lf, sh => by
    rw [odF]
    by_cases a : lf = 0
    · rw [if_pos a]; exact Nat.le_refl _
    · rw [if_neg a]; exact Nat.zero_le _
  | d + 1, j, lf, sh => by
    rw [odF]
    by_cases a : lf = 0
    · rw [if_pos a]; exact Nat.le_refl _
    · rw [if_neg a]
      refine Nat.le_trans (smN_le (fun i l => odF_le h w d i l _) 4) ?_
      exact Nat.mul_div_le _ _
theorem smN_0 {rec : Nat → Int32 → Nat → Nat} {h w j : Nat} {lf : Int32} {q : Nat} : ∀ {t}, chN h w j lf t = 0 → smN rec h w j lf q t = 0
  | 0, _ => rfl
  | t + 1, e => by
    rw [chN] at e
    rw [smN, smN_0 (by omega)]
    by_cases a : inS lf (nbF h w j t)
    · rw [if_pos a] at e; omega
    · rw [if_neg a]
theorem smN_t {rec : Nat → Int32 → Nat → Nat} {h w j t : Nat} {lf : Int32} {q : Nat} (a : inS lf (nbF h w j t)) : lN (smN rec h w j lf q t) + lN (rec (nbF h w j t).toNatClampNeg (wo lf (nbF h w j t)) q) = lN (smN rec h w j lf q (t + 1)) := by rw [lN_add, smN, if_pos a]
theorem smN_f {rec : Nat → Int32 → Nat → Nat} {h w j t : Nat} {lf : Int32} {q : Nat} (a : ¬ inS lf (nbF h w j t)) : lN (smN rec h w j lf q t) = lN (smN rec h w j lf q (t + 1)) := by rw [smN, if_neg a, Nat.add_zero]
theorem lN_ne {n : Nat} (h0 : 0 < n) (h : n < 2 ^ 63) : ¬ lN n = 0 := fun e => by
  have z := (pk_lEQ (a := n) (b := 0) h (by decide)).mp e
  omega
theorem lN_0 {n : Nat} (h : n < 2 ^ 63) (e : lN n = 0) : n = 0 := (pk_lEQ (a := n) (b := 0) h (by decide)).mp e
abbrev allO : Nat := 15407021574586368
theorem gcd_half {x y k : Nat} (h0 : 0 < y) (h : y ≤ x) (hk : x * y < 2 ^ (k + 1)) : y * (x % y) < 2 ^ k := by
  have e := Nat.div_add_mod x y
  have ml := Nat.mod_lt x h0
  have d1 : 1 ≤ x / y := (Nat.le_div_iff_mul_le h0).mpr (by omega)
  have m1 := Nat.mul_le_mul_left y d1
  rw [Nat.mul_one] at m1
  have l2 : 2 * (x % y) ≤ x := by omega
  have l3 := Nat.mul_le_mul_left y l2
  rw [Nat.pow_succ] at hk
  have c1 : y * x = x * y := Nat.mul_comm y x
  have c2 : y * (2 * (x % y)) = 2 * (y * (x % y)) := by rw [← Nat.mul_assoc, Nat.mul_comm y 2, Nat.mul_assoc]
  omega
def oddR (n : Nat) (pc br : Int32) (kd et : Nat → Int32) (h w : Nat) (ws c v : Int32) : Int64 := if inN c n ∧ inN ws 10 ∧ btw v 0 1 ∧ ripP pc br (kd c.toNatClampNeg) (et c.toNatClampNeg) ws then lN ((if v = 0 then odF h w 15 c.toNatClampNeg (wo (ripS pc br kd et ws n) c) allO else allO) / Nat.gcd allO (odF h w 15 c.toNatClampNeg (wo (ripS pc br kd et ws n) c) allO)) else (-9223372036854775808)
theorem gk_lt {x y k : Nat} (hp : x * y < 2 ^ (200 - k)) (h0 : 0 < y) (hle : y ≤ x) : k + 1 ≤ 200 := by
  rcases Nat.lt_or_ge k 200 with a | a
  · exact a
  · rw [show 200 - k = 0 by omega] at hp
    have := Nat.mul_le_mul (show 1 ≤ x by omega) (show 1 ≤ y by omega)
    omega
