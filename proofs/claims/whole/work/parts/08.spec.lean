/-! ===== what the system computes, over the ints of its cells ===== -/
def wk (k p : Int32) : Int32 := if k = 0 then p else if k = 1 then p + 1 else if k = 2 then 2 * (p + 1) else 0
theorem wk_out {k : Int32} (p : Int32) (h : k.toInt < 0 ∨ 2 < k.toInt) : wk k p = 0 := by
  have h0 : ¬ k = 0 := fun q => by rw [q] at h; exact absurd h (by decide)
  have h1 : ¬ k = 1 := fun q => by rw [q] at h; exact absurd h (by decide)
  have h2 : ¬ k = 2 := fun q => by rw [q] at h; exact absurd h (by decide)
  rw [wk, if_neg h0, if_neg h1, if_neg h2]
def cl9 (r : Int32) : Int32 := if r < 0 then 0 else if 9 < r then 9 else r
def cv (k p e ws : Int32) : Int32 := cl9 (ws * wk k p - e)
theorem cl9_mm (r : Int32) : (if 0 < (if r < 9 then r else 9) then (if r < 9 then r else 9) else 0) = cl9 r := by
  unfold cl9
  have e : ∀ x y : Int32, x.toInt = y.toInt → x = y := fun x y h => Int32.toInt_inj.mp h
  by_cases a : r < 9
  · rw [if_pos a]
    by_cases b : r < 0
    · rw [if_pos b]
      rw [Int32.lt_iff_toInt_lt] at b
      rw [if_neg (by rw [Int32.lt_iff_toInt_lt]; rw [ti_0] at *; omega)]
    · rw [if_neg b]
      rw [Int32.lt_iff_toInt_lt] at a b
      rw [ti_9] at a
      rw [ti_0] at b
      rw [if_neg (show ¬ 9 < r by rw [Int32.lt_iff_toInt_lt, ti_9]; omega)]
      by_cases d : 0 < r
      · rw [if_pos d]
      · rw [if_neg d]
        rw [Int32.lt_iff_toInt_lt, ti_0] at d
        exact e _ _ (by rw [ti_0]; omega)
  · rw [if_neg a, if_pos (by decide)]
    rw [Int32.lt_iff_toInt_lt, ti_9] at a
    rw [if_neg (show ¬ r < 0 by rw [Int32.lt_iff_toInt_lt, ti_0]; omega)]
    by_cases b : 9 < r
    · rw [if_pos b]
    · rw [if_neg b]
      rw [Int32.lt_iff_toInt_lt, ti_9] at b
      exact e _ _ (by rw [ti_9]; omega)
abbrev ripP (p br k e ws : Int32) : Prop := ¬ k = 3 ∧ br ≤ cv k p e ws
def bi (k : Int32) : Int32 := 1 <<< (k &&& 31)
def ripS (p br : Int32) (kd et : Nat → Int32) (ws : Int32) : Nat → Int32
  | 0 => 0
  | n + 1 => ripS p br kd et ws n ||| (if ripP p br (kd n) (et n) ws then bi (nI n) else 0)
def sofS (kd : Nat → Int32) : Nat → Int32
  | 0 => 0
  | n + 1 => sofS kd n ||| (if kd n = 3 then 0 else bi (nI n))
abbrev inS (s k : Int32) : Prop := 0 ≤ k.toInt ∧ ¬ s &&& bi k = 0
def wo (s k : Int32) : Int32 := s &&& (bi k ^^^ (-1))
def csum (s p : Int32) (kd et : Nat → Int32) (ws : Int32) : Nat → Int32
  | 0 => 0
  | n + 1 => csum s p kd et ws n + (if inS s (nI n) then cv (kd n) p (et n) ws else 0)
theorem ix4 {c t : Int32} {j u : Nat} (hc : vp_in c 16) (hj : c.toNatClampNeg = j) (ht : vp_in t 4) (hu : t.toNatClampNeg = u) : vp_in (4 * c + t) 64 ∧ (4 * c + t).toNatClampNeg = 4 * j + u := by
  have e1 : c = nI j := by rw [← hj]; exact (inN_vp.mpr hc).eq
  have e2 : t = nI u := by rw [← hu]; exact (inN_vp.mpr ht).eq
  have l1 : j < 16 := by rw [← hj]; exact (inN_vp.mpr hc).lt
  have l2 : u < 4 := by rw [← hu]; exact (inN_vp.mpr ht).lt
  have e : 4 * c + t = nI (4 * j + u) := by
    rw [e1, e2, ← nI_add, ← pk_mul]
    rfl
  rw [e]
  exact ⟨vp_in_nI (by omega) (by decide), nI_clamp (by omega)⟩
