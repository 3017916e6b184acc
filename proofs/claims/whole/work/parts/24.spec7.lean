/-! ===== odds: whole shares of 12 to the 15th ===== -/
def chN (h w j : Nat) (lf : Int32) : Nat → Nat
  | 0 => 0
  | t + 1 => chN h w j lf t + (if inS lf (nbF h w j t) then 1 else 0)
def smN (rec : Nat → Int32 → Nat → Nat) (h w j : Nat) (lf : Int32) (q : Nat) : Nat → Nat
  | 0 => 0
  | t + 1 => smN rec h w j lf q t + (if inS lf (nbF h w j t) then rec (nbF h w j t).toNatClampNeg (wo lf (nbF h w j t)) q else 0)
def odF (h w : Nat) : Nat → Nat → Int32 → Nat → Nat
  | 0, _, lf, sh => if lf = 0 then sh else 0
  | d + 1, j, lf, sh => if lf = 0 then sh else smN (odF h w d) h w j lf (sh / chN h w j lf 4) 4
theorem chN_le (h w j : Nat) (lf : Int32) : ∀ t, chN h w j lf t ≤ t
  | 0 => Nat.le_refl 0
  | t + 1 => by
    have ih := chN_le h w j lf t
    rw [chN]
    by_cases a : inS lf (nbF h w j t)
    · rw [if_pos a]; omega
    · rw [if_neg a]; omega
theorem chN_t {h w j t : Nat} {lf : Int32} (a : inS lf (nbF h w j t)) : nI (chN h w j lf t + 1) = nI (chN h w j lf (t + 1)) := by rw [chN, if_pos a]
theorem chN_f {h w j t : Nat} {lf : Int32} (a : ¬ inS lf (nbF h w j t)) : nI (chN h w j lf t + 0) = nI (chN h w j lf (t + 1)) := by rw [chN, if_neg a]
theorem smN_le {rec : Nat → Int32 → Nat → Nat} {h w j : Nat} {lf : Int32} {q : Nat} (hr : ∀ i l, rec i l q ≤ q) : ∀ t, smN rec h w j lf q t ≤ chN h w j lf t * q
  | 0 => by rw [smN, chN, Nat.zero_mul]; exact Nat.le_refl 0
  | t + 1 => by
    have ih := smN_le (rec := rec) (h := h) (w := w) (j := j) (lf := lf) (q := q) hr t
    rw [smN, chN]
    by_cases a : inS lf (nbF h w j t)
    · rw [if_pos a, if_pos a, Nat.add_mul, Nat.one_mul]
      exact Nat.add_le_add ih (hr _ _)
    · rw [if_neg a, if_neg a, Nat.add_zero, Nat.add_zero]; exact ih
theorem odF_le (h w : Nat) : ∀ (d j : Nat) (lf : Int32) (sh : Nat), odF h w d j lf sh ≤ sh
  | 0, _, lf, sh => by
    rw [odF]
    by_cases a : lf = 0
    · rw [if_pos a]; exact Nat.le_refl _
    · rw [if_neg a]; exact Nat.zero_le _
  | d + 1, j, lf, sh => by
    rw [odF]
    by_cases a : lf = 0
    · rw [if_pos a]; exact Nat.le_refl _
    · rw [if_neg a]
      refine Nat.le_trans (smN_le (fun i l => odF_le h w d i l _) 4) ?_
      exact Nat.mul_div_le _ _
theorem smN_0 {rec : Nat → Int32 → Nat → Nat} {h w j : Nat} {lf : Int32} {q : Nat} : ∀ {t}, chN h w j lf t = 0 → smN rec h w j lf q t = 0
  | 0, _ => rfl
  | t + 1, e => by
    rw [chN] at e
    rw [smN, smN_0 (by omega)]
    by_cases a : inS lf (nbF h w j t)
    · rw [if_pos a] at e; omega
    · rw [if_neg a]
theorem smN_t {rec : Nat → Int32 → Nat → Nat} {h w j t : Nat} {lf : Int32} {q : Nat} (a : inS lf (nbF h w j t)) : lN (smN rec h w j lf q t) + lN (rec (nbF h w j t).toNatClampNeg (wo lf (nbF h w j t)) q) = lN (smN rec h w j lf q (t + 1)) := by rw [lN_add, smN, if_pos a]
theorem smN_f {rec : Nat → Int32 → Nat → Nat} {h w j t : Nat} {lf : Int32} {q : Nat} (a : ¬ inS lf (nbF h w j t)) : lN (smN rec h w j lf q t) = lN (smN rec h w j lf q (t + 1)) := by rw [smN, if_neg a, Nat.add_zero]
theorem lN_ne {n : Nat} (h0 : 0 < n) (h : n < 2 ^ 63) : ¬ lN n = 0 := fun e => by
  have z := (pk_lEQ (a := n) (b := 0) h (by decide)).mp e
  omega
theorem lN_0 {n : Nat} (h : n < 2 ^ 63) (e : lN n = 0) : n = 0 := (pk_lEQ (a := n) (b := 0) h (by decide)).mp e
abbrev allO : Nat := 15407021574586368
theorem gcd_half {x y k : Nat} (h0 : 0 < y) (h : y ≤ x) (hk : x * y < 2 ^ (k + 1)) : y * (x % y) < 2 ^ k := by
  have e := Nat.div_add_mod x y
  have ml := Nat.mod_lt x h0
  have d1 : 1 ≤ x / y := (Nat.le_div_iff_mul_le h0).mpr (by omega)
  have m1 := Nat.mul_le_mul_left y d1
  rw [Nat.mul_one] at m1
  have l2 : 2 * (x % y) ≤ x := by omega
  have l3 := Nat.mul_le_mul_left y l2
  rw [Nat.pow_succ] at hk
  have c1 : y * x = x * y := Nat.mul_comm y x
  have c2 : y * (2 * (x % y)) = 2 * (y * (x % y)) := by rw [← Nat.mul_assoc, Nat.mul_comm y 2, Nat.mul_assoc]
  omega
def oddR (n : Nat) (pc br : Int32) (kd et : Nat → Int32) (h w : Nat) (ws c v : Int32) : Int64 := if inN c n ∧ inN ws 10 ∧ btw v 0 1 ∧ ripP pc br (kd c.toNatClampNeg) (et c.toNatClampNeg) ws then lN ((if v = 0 then odF h w 15 c.toNatClampNeg (wo (ripS pc br kd et ws n) c) allO else allO) / Nat.gcd allO (odF h w 15 c.toNatClampNeg (wo (ripS pc br kd et ws n) c) allO)) else (-9223372036854775808)
theorem gk_lt {x y k : Nat} (hp : x * y < 2 ^ (200 - k)) (h0 : 0 < y) (hle : y ≤ x) : k + 1 ≤ 200 := by
  rcases Nat.lt_or_ge k 200 with a | a
  · exact a
  · rw [show 200 - k = 0 by omega] at hp
    have := Nat.mul_le_mul (show 1 ≤ x by omega) (show 1 ≤ y by omega)
    omega
theorem gcd_pos (u : Nat) : 1 ≤ Nat.gcd allO u := Nat.gcd_pos_of_pos_left _ (by decide)
theorem gcd_le (u : Nat) : Nat.gcd allO u ≤ allO := Nat.le_of_dvd (by decide) (Nat.gcd_dvd_left _ _)
theorem max1 {n : Nat} (h1 : 1 ≤ n) (h : n < 2 ^ 63) : (if lN n < 1 then (1 : Int64) else lN n) = lN n := by
  rw [if_neg]
  intro z
  have := (pk_lLT (a := n) (b := 1) h (by decide)).mp z
  omega
theorem prod_lt {x y : Nat} (h : y ≤ allO) (hx : x = allO) : x * y < 2 ^ 200 := by
  subst hx
  exact Nat.lt_of_le_of_lt (Nat.mul_le_mul_left _ h) (by decide)
-- texts told
def hiX (f0 i n : Int32) (le : Nat) : Int32 := if f0 = 0 then (if n < 0 then 4 else if spP i n le then 0 else 3) else f0
def hiE (hs ln : Nat → Int32) (le : Nat → Nat) (k lane i n : Int32) (kj : Nat) : Int32 := if inN k 4 then (if inN lane 3 then hiX (fltF (hs kj) (ln kj) lane) i n (le kj) else 0) else 0
def scnt (kd : Nat → Int32) : Nat → Nat
  | 0 => 0
  | n + 1 => scnt kd n + (if kd n = 3 then 0 else 1)
abbrev hiP (hs ln : Nat → Int32) (le : Nat → Nat) (rr : Nat → Nat → Int32) (k lane i n : Int32) (kj : Nat) : Prop := (inN k 4 ∧ inN lane 3) ∧ hiX (fltF (hs kj) (ln kj) lane) i n (le kj) = 0 ∧ ffR (rr kj) i.toNatClampNeg n.toNatClampNeg = -9
def hiI (P : Prop) [Decidable P] {α : Type} (x y : α) : α := if P then x else y
def hiR (hs ln : Nat → Int32) (le : Nat → Nat) (rr : Nat → Nat → Int32) (k lane i n : Int32) (kj : Nat) (sc : Nat) : Int32 := if inN k 4 then (if inN lane 3 then (if hiX (fltF (hs kj) (ln kj) lane) i n (le kj) = 0 then (if ffR (rr kj) i.toNatClampNeg n.toNatClampNeg = -9 then nI sc else (-100) - ffR (rr kj) i.toNatClampNeg n.toNatClampNeg) else (-10) - hiX (fltF (hs kj) (ln kj) lane) i n (le kj)) else -2) else -1
-- paths told
abbrev paQ (n ws c k lane m what : Int32) (cells : Nat) : Prop := inN c cells ∧ inN k 4
def paX (f0 i n : Int32) (le : Nat) : Int32 := if f0 = 0 then (if spP i n le then 0 else 3) else f0
def paA (F : Int32 × Int32 × Int32) (st : Prop) [Decidable st] (rip pc : Int32) (kd et : Nat → Int32) (ws : Int32) (n : Nat) (v : Int32) : Int32 := if st then folR F.1 F.2.1 F.2.2 rip pc kd et ws n v else -2
def ptR (h w n : Nat) (pc br : Int32) (kd et hs ln : Nat → Int32) (le : Nat → Nat) (rr : Nat → Nat → Int32) (ws c k lane i m v : Int32) (kj : Nat) : Int32 :=
  if inN c n ∧ inN k 4 then (if inN ws 10 ∧ (inN lane 3 ∧ inN m 21) ∧ inN v 4 then (if ripP pc br (kd c.toNatClampNeg) (et c.toNatClampNeg) ws then (if paX (fltF (hs kj) (ln kj) lane) i m (le kj) = 0 then (if stP (rr kj) i.toNatClampNeg m.toNatClampNeg then folR (pthR h w (rr kj) i.toNatClampNeg m.toNatClampNeg 0 c (wo (ripS pc br kd et ws n) c)).1 (pthR h w (rr kj) i.toNatClampNeg m.toNatClampNeg 0 c (wo (ripS pc br kd et ws n) c)).2.1 (pthR h w (rr kj) i.toNatClampNeg m.toNatClampNeg 0 c (wo (ripS pc br kd et ws n) c)).2.2 (ripS pc br kd et ws n) pc kd et ws n v else -2) else (-10) - paX (fltF (hs kj) (ln kj) lane) i m (le kj)) else -3) else -2) else -1
def ptE (n : Nat) (pc br : Int32) (kd et hs ln : Nat → Int32) (le : Nat → Nat) (ws c k lane i m v : Int32) (kj : Nat) : Int32 :=
  if inN c n ∧ inN k 4 then (if inN ws 10 ∧ (inN lane 3 ∧ inN m 21) ∧ inN v 4 then (if ripP pc br (kd c.toNatClampNeg) (et c.toNatClampNeg) ws then paX (fltF (hs kj) (ln kj) lane) i m (le kj) else 0) else 0) else 0
def o1F (k : Nat) : Nat := if k = 0 then 1 else 0
def o2F (k : Nat) : Nat := if k ≤ 1 then 2 else 1
def o3F (k : Nat) : Nat := if k ≤ 2 then 3 else 2
theorem sp_nat {i n : Int32} (h : spP i n 60) : i = nI i.toNatClampNeg ∧ n = nI n.toNatClampNeg ∧ i.toNatClampNeg + n.toNatClampNeg ≤ 60 := by
  obtain ⟨h1, h2, h3⟩ := h
  refine ⟨inN.eq (n := 61) ⟨h1, by omega⟩, inN.eq (n := 61) ⟨h2, by omega⟩, ?_⟩
  show i.toInt.toNat + n.toInt.toNat ≤ 60
  omega
/-- what a whole text tells of its numbers -/
theorem text_ok {tx : Nat → Int32} {i n : Nat} (hn : n ≤ 60) (h : ffR tx i n = -9) : tx (i + 1) - 48 = nI (hN (tx (i + 1))) ∧ tx (i + 2) - 48 = nI (hN (tx (i + 2))) ∧ (1 ≤ hN (tx (i + 1)) ∧ hN (tx (i + 1)) < 5) ∧ (2 ≤ hN (tx (i + 2)) ∧ hN (tx (i + 2)) < 5) ∧ n = 5 + hN (tx (i + 1)) * (hN (tx (i + 2)) + 1) ∧ hN (tx (i + 1)) * hN (tx (i + 2)) ≤ 16 ∧ btw (tx (i + 4)) 49 57 := by
  obtain ⟨h1, h2, h3⟩ := (ffR_9 (by omega)).mp h
  have b1 : btw (tx (i + 1)) 49 52 := by
    rcases h1 1 (by omega) with ⟨-, q⟩ | ⟨q, -⟩
    · rcases q with ⟨q, -⟩ | ⟨-, q⟩ | ⟨q, -⟩ | ⟨q, -⟩ | ⟨q, -⟩
      · omega
      · exact q
      · omega
      · omega
      · omega
    · omega
  have b2 : btw (tx (i + 2)) 50 52 := by
    rcases h1 2 (by omega) with ⟨-, q⟩ | ⟨q, -⟩
    · rcases q with ⟨q, -⟩ | ⟨q, -⟩ | ⟨-, q⟩ | ⟨q, -⟩ | ⟨q, -⟩
      · omega
      · omega
      · exact q
      · omega
      · omega
    · omega
  have b4 : btw (tx (i + 4)) 49 57 := by
    rcases h1 4 (by omega) with ⟨-, q⟩ | ⟨q, -⟩
    · rcases q with ⟨q, -⟩ | ⟨q, -⟩ | ⟨q, -⟩ | ⟨q, -⟩ | ⟨-, q⟩
      · omega
      · omega
      · omega
      · omega
      · exact q
    · omega
  obtain ⟨d1, l1, u1⟩ := dig (b := 52) (by decide) b1
  obtain ⟨d2, l2, u2⟩ := dig (x := tx (i + 2)) (b := 52) (by decide) ⟨by have := b2.1; omega, b2.2⟩
  have l3 : 2 ≤ hN (tx (i + 2)) := by unfold hN; have := b2.1; omega
  refine ⟨d1, d2, ⟨l1, by omega⟩, ⟨l3, by omega⟩, h3, ?_, b4⟩
  exact Nat.mul_le_mul (show hN (tx (i + 1)) ≤ 4 by omega) (show hN (tx (i + 2)) ≤ 4 by omega)
def maR (h w : Nat) (pc br : Int32) (sc rc : Nat) (v : Int32) : Int32 := if v = 0 then nI (h * w) else if v = 1 then nI w else if v = 2 then pc else if v = 3 then br else if v = 4 then nI (h * w) - nI sc else if v = 5 then nI rc else -2
