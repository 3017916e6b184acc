/-! ===== what the system computes, over the ints of its cells ===== -/
def wk (k p : Int32) : Int32 := if k = 0 then p else if k = 1 then p + 1 else if k = 2 then 2 * (p + 1) else 0
theorem wk_out {k : Int32} (p : Int32) (h : k.toInt < 0 ∨ 2 < k.toInt) : wk k p = 0 := by
  have h0 : ¬ k = 0 := fun q => by rw [q] at h; exact absurd h (by decide)
  have h1 : ¬ k = 1 := fun q => by rw [q] at h; exact absurd h (by decide)
  have h2 : ¬ k = 2 := fun q => by rw [q] at h; exact absurd h (by decide)
  rw [wk, if_neg h0, if_neg h1, if_neg h2]
def cl9 (r : Int32) : Int32 := if r < 0 then 0 else if 9 < r then 9 else r
def cv (k p e ws : Int32) : Int32 := cl9 (ws * wk k p - e)
theorem cl9_mm (r : Int32) : (if 0 < (if r < 9 then r else 9) then (if r < 9 then r else 9) else 0) = cl9 r := by
  unfold cl9
  have e : ∀ x y : Int32, x.toInt = y.toInt → x = y := fun x y h => Int32.toInt_inj.mp h
  by_cases a : r < 9
  · rw [if_pos a]
    by_cases b : r < 0
    · rw [if_pos b]
      rw [Int32.lt_iff_toInt_lt] at b
      rw [if_neg (by rw [Int32.lt_iff_toInt_lt]; rw [ti_0] at *; omega)]
    · rw [if_neg b]
      rw [Int32.lt_iff_toInt_lt] at a b
      rw [ti_9] at a
      rw [ti_0] at b
      rw [if_neg (show ¬ 9 < r by rw [Int32.lt_iff_toInt_lt, ti_9]; omega)]
      by_cases d : 0 < r
      · rw [if_pos d]
      · rw [if_neg d]
        rw [Int32.lt_iff_toInt_lt, ti_0] at d
        exact e _ _ (by rw [ti_0]; omega)
  · rw [if_neg a, if_pos (by decide)]
    rw [Int32.lt_iff_toInt_lt, ti_9] at a
    rw [if_neg (show ¬ r < 0 by rw [Int32.lt_iff_toInt_lt, ti_0]; omega)]
    by_cases b : 9 < r
    · rw [if_pos b]
    · rw [if_neg b]
      rw [Int32.lt_iff_toInt_lt, ti_9] at b
      exact e _ _ (by rw [ti_9]; omega)
abbrev ripP (p br k e ws : Int32) : Prop := ¬ k = 3 ∧ br ≤ cv k p e ws
def bi (k : Int32) : Int32 := 1 <<< (k &&& 31)
def ripS (p br : Int32) (kd et : Nat → Int32) (ws : Int32) : Nat → Int32
  | 0 => 0
  | n + 1 => ripS p br kd et ws n ||| (if ripP p br (kd n) (et n) ws then bi (nI n) else 0)
def sofS (kd : Nat → Int32) : Nat → Int32
  | 0 => 0
  | n + 1 => sofS kd n ||| (if kd n = 3 then 0 else bi (nI n))
abbrev inS (s k : Int32) : Prop := 0 ≤ k.toInt ∧ ¬ s &&& bi k = 0
def wo (s k : Int32) : Int32 := s &&& (bi k ^^^ (-1))
def csum (s p : Int32) (kd et : Nat → Int32) (ws : Int32) : Nat → Int32
  | 0 => 0
  | n + 1 => csum s p kd et ws n + (if inS s (nI n) then cv (kd n) p (et n) ws else 0)
theorem ix4 {c t : Int32} {j u : Nat} (hc : vp_in c 16) (hj : c.toNatClampNeg = j) (ht : vp_in t 4) (hu : t.toNatClampNeg = u) : vp_in (4 * c + t) 64 ∧ (4 * c + t).toNatClampNeg = 4 * j + u := by
  have e1 : c = nI j := by rw [← hj]; exact (inN_vp.mpr hc).eq
  have e2 : t = nI u := by rw [← hu]; exact (inN_vp.mpr ht).eq
  have l1 : j < 16 := by rw [← hj]; exact (inN_vp.mpr hc).lt
  have l2 : u < 4 := by rw [← hu]; exact (inN_vp.mpr ht).lt
  have e : 4 * c + t = nI (4 * j + u) := by
    rw [e1, e2, ← nI_add, ← pk_mul]
    rfl
  rw [e]
  exact ⟨vp_in_nI (by omega) (by decide), nI_clamp (by omega)⟩
/-! ===== what the calls answer and change ===== -/
abbrev softP (n : Nat) (kd : Nat → Int32) (c : Int32) : Prop := inN c n ∧ ¬ kd c.toNatClampNeg = 3
/-- f up to n, g from there on -/
def fil {α : Type} (f g : Nat → α) (n : Nat) : Nat → α := fun k => if k < n then f k else g k
theorem fil_0 {α : Type} (f g : Nat → α) : fil f g 0 = g := by
  funext k
  rw [fil, if_neg (Nat.not_lt_zero k)]
theorem fil_in {α : Type} {f g : Nat → α} {n k : Nat} (h : k < n) : fil f g n k = f k := by rw [fil, if_pos h]
theorem fil_out {α : Type} {f g : Nat → α} {n k : Nat} (h : n ≤ k) : fil f g n k = g k := by rw [fil, if_neg (by omega)]
theorem fil_upd (f g : Nat → Int32) (n : Nat) {x : Int32} (h : f n = x) : upd (fil f g n) n x = fil f g (n + 1) := by
  funext k
  unfold upd fil
  by_cases a : k = n
  · subst a
    rw [if_pos rfl, if_pos (by omega), h]
  · rw [if_neg a]
    by_cases b : k < n
    · rw [if_pos b, if_pos (by omega)]
    · rw [if_neg b, if_neg (by omega)]
theorem cpy_fil {α : Type} (f g : Nat → α) (n : Nat) : va_cpy f g 0 0 n = fil f g n := by
  funext k
  unfold va_cpy fil
  by_cases a : k < n
  · rw [if_pos a, if_pos ⟨Nat.zero_le _, by omega⟩]
    congr 1
    omega
  · rw [if_neg a, if_neg (by omega)]
-- texts
def kindF (x : Int32) : Int32 := if x = 35 then 3 else if x = 103 then 0 else if x = 111 then 2 else if x = 115 then 1 else -9
/-- the neighbour of cell j by stroke t, or -9 -/
def nbF (h w j t : Nat) : Int32 := if t = 0 then (if 0 < j / w then nI (j - w) else -9) else if t = 1 then (if j % w < w - 1 then nI (j + 1) else -9) else if t = 2 then (if j / w < h - 1 then nI (j + w) else -9) else (if 0 < j % w then nI (j - 1) else -9)
-- the hill
def ofR (n : Nat) (pc : Int32) (kd et : Nat → Int32) (c what : Int32) : Int32 := if inN c n then (if what = 0 then kd c.toNatClampNeg else if what = 1 then wk (kd c.toNatClampNeg) pc else if what = 2 then et c.toNatClampNeg else -2) else -1
def goR (n : Nat) (kd et : Nat → Int32) (c v : Int32) : Int32 := if softP n kd c then (if inN v 10 then et c.toNatClampNeg else -2) else -1
def goE (n : Nat) (kd et : Nat → Int32) (c v : Int32) : Nat → Int32 := if softP n kd c ∧ inN v 10 then upd et c.toNatClampNeg v else et
abbrev btw (x : Int32) (a b : Int) : Prop := a ≤ x.toInt ∧ x.toInt ≤ b
def paR (h : Nat) (x v : Int32) (m : Int) : Int32 := if btw v 1 m then (if h = 0 then -3 else x) else -2
def paE (h : Nat) (x v : Int32) (m : Int) : Int32 := if btw v 1 m ∧ ¬ h = 0 then v else x
def coR (n : Nat) (pc : Int32) (kd et : Nat → Int32) (c ws : Int32) : Int32 := if inN c n then (if inN ws 10 then cv (kd c.toNatClampNeg) pc (et c.toNatClampNeg) ws else -2) else -1
def riR (h n : Nat) (pc br : Int32) (kd et : Nat → Int32) (ws : Int32) : Int32 := if h = 0 then -3 else if inN ws 10 then ripS pc br kd et ws n else -2
-- readings
abbrev soP (pc : Int32) (kd et : Nat → Int32) (ro rb rv : Nat → Int32) (n : Nat) : Prop := ∀ k, k < n → cv (kd (ro k).toNatClampNeg) pc (et (ro k).toNatClampNeg) (rb k) = rv k
def reR (n : Nat) (kd : Nat → Int32) (rc : Nat) (c ws v : Int32) : Int32 := if softP n kd c then (if inN ws 10 ∧ inN v 10 then (if rc < 8 then nI rc else -4) else -2) else -1
abbrev reP (n : Nat) (kd : Nat → Int32) (rc : Nat) (c ws v : Int32) : Prop := softP n kd c ∧ (inN ws 10 ∧ inN v 10) ∧ rc < 8
def reC (n : Nat) (kd : Nat → Int32) (rc : Nat) (c ws v : Int32) : Nat := if reP n kd rc c ws v then rc + 1 else rc
def reA (n : Nat) (kd : Nat → Int32) (rc : Nat) (c ws v : Int32) (f : Nat → Int32) (x : Int32) : Nat → Int32 := if reP n kd rc c ws v then upd f rc x else f
def baR (rc : Nat) (k : Int32) : Int32 := if inN k (rc + 1) then nI (rc - k.toNatClampNeg) else -2
def baC (rc : Nat) (k : Int32) : Nat := if inN k (rc + 1) then rc - k.toNatClampNeg else rc
/-- which of the values from a on, n of them, P allows, as bits -/
def setF (P : Nat → Prop) [DecidablePred P] (a : Nat) : Nat → Int32
  | 0 => 0
  | n + 1 => setF P a n ||| (if P (a + n) then bi (nI (a + n)) else 0)
def kiR (n : Nat) (pc : Int32) (kd et : Nat → Int32) (rc : Nat) (ro rb rv : Nat → Int32) (c : Int32) : Int32 := if softP n kd c then setF (fun s => soP pc (upd kd c.toNatClampNeg (nI s)) et ro rb rv rc) 0 3 else -1
def psR (h : Nat) (kd et : Nat → Int32) (rc : Nat) (ro rb rv : Nat → Int32) : Int32 := if h = 0 then -3 else setF (fun s => soP (nI s) kd et ro rb rv rc) 1 3
def eaR (n : Nat) (pc : Int32) (kd et : Nat → Int32) (rc : Nat) (ro rb rv : Nat → Int32) (c : Int32) : Int32 := if softP n kd c then setF (fun s => soP pc kd (upd et c.toNatClampNeg (nI s)) ro rb rv rc) 0 10 else -1
-- sheets
def cutF (ln v : Int32) : Int32 := if ln = 0 then v.toInt8.toInt32 else if ln = 1 then v.toInt16.toInt32 else v
def fltF (hs ln q : Int32) : Int32 := if hs = 0 then 1 else if ln = q then 0 else 2
abbrev spP (i n : Int32) (le : Nat) : Prop := 0 ≤ i.toInt ∧ 0 ≤ n.toInt ∧ i.toInt + n.toInt ≤ le
abbrev shP (k lane n : Int32) : Prop := inN k 4 ∧ inN lane 3 ∧ 0 ≤ n.toInt ∧ n.toInt ≤ 60
def shR (k lane n : Int32) : Int32 := if inN k 4 then (if inN lane 3 ∧ n.toInt ≤ 60 then (if n.toInt < 0 then -14 else 1) else -2) else -1
def shF (k lane n : Int32) : Int32 := if inN k 4 then (if inN lane 3 ∧ n.toInt ≤ 60 then (if n.toInt < 0 then 4 else 0) else 0) else 0
def shU {α : Type} (k lane n : Int32) (kj : Nat) (f : Nat → α) (x : α) : Nat → α := if inN k 4 then (if inN lane 3 ∧ n.toInt ≤ 60 then (if n.toInt < 0 then f else va_up f kj x) else f) else f
def loR (hs : Nat → Int32) (k : Int32) (kj : Nat) : Int32 := if inN k 4 then (if hs kj = 0 then 0 else 1) else -1
def loH (hs : Nat → Int32) (k : Int32) (kj : Nat) : Nat → Int32 := if inN k 4 then va_up hs kj 0 else hs
def puR (hs : Nat → Int32) (le : Nat → Nat) (k i : Int32) (kj : Nat) : Int32 := if inN k 4 then (if hs kj = 0 then -11 else if inN i (le kj) then 1 else -13) else -1
def puF (hs : Nat → Int32) (le : Nat → Nat) (k i : Int32) (kj : Nat) : Int32 := if inN k 4 then (if hs kj = 0 then 1 else if inN i (le kj) then 0 else 3) else 0
def puS (hs ln : Nat → Int32) (le : Nat → Nat) (rr : Nat → Nat → Int32) (k i v : Int32) (kj : Nat) : Nat → Nat → Int32 := if inN k 4 then (if hs kj = 0 then rr else if inN i (le kj) then va_up rr kj (upd (rr kj) i.toNatClampNeg (cutF (ln kj) v)) else rr) else rr
def ceF (hs ln : Nat → Int32) (le : Nat → Nat) (k i lane : Int32) (kj : Nat) : Int32 := if inN k 4 then (if inN lane 3 then (if fltF (hs kj) (ln kj) lane = 0 then (if inN i (le kj) then 0 else 3) else fltF (hs kj) (ln kj) lane) else 0) else 0
def ceR (hs ln : Nat → Int32) (le : Nat → Nat) (rr : Nat → Nat → Int32) (k i lane : Int32) (kj : Nat) : Int64 := if inN k 4 then (if inN lane 3 then (if fltF (hs kj) (ln kj) lane = 0 then (if inN i (le kj) then (rr kj i.toNatClampNeg).toInt64 else (-9223372036854775808)) else (-9223372036854775808)) else (-9223372036854775808)) else (-9223372036854775808)
abbrev cyQ (hs : Nat → Int32) (kj oj : Nat) : Prop := ¬ hs kj = 0 ∧ ¬ hs oj = 0
abbrev cySp (le : Nat → Nat) (i j n : Int32) (kj oj : Nat) : Prop := spP i n (le kj) ∧ spP j n (le oj)
def cyF (hs ln : Nat → Int32) (le : Nat → Nat) (k i o j n : Int32) (kj oj : Nat) : Int32 := if inN k 4 ∧ inN o 4 then (if cyQ hs kj oj then (if ln kj = ln oj then (if cySp le i j n kj oj then 0 else 3) else 2) else 1) else 0
def cyR (hs ln : Nat → Int32) (le : Nat → Nat) (k i o j n : Int32) (kj oj : Nat) : Int32 := if inN k 4 ∧ inN o 4 then (if cyQ hs kj oj then (if ln kj = ln oj then (if cySp le i j n kj oj then n else -13) else -12) else -11) else -1
def cyS (hs ln : Nat → Int32) (le : Nat → Nat) (rr : Nat → Nat → Int32) (k i o j n : Int32) (kj oj : Nat) : Nat → Nat → Int32 := if inN k 4 ∧ inN o 4 then (if cyQ hs kj oj then (if ln kj = ln oj then (if cySp le i j n kj oj then va_up rr oj (va_cpy (rr kj) (rr oj) i.toNatClampNeg j.toNatClampNeg n.toNatClampNeg) else rr) else rr) else rr) else rr
-- bodies
def beg (tr b : Int32) : Int32 := 31 * tr + b
def teR (n : Nat) (kd et : Nat → Int32) (c : Int32) : Int32 := if softP n kd c then (if kd c.toNatClampNeg = 1 then et c.toNatClampNeg + 100 else if kd c.toNatClampNeg = 2 then (et c.toNatClampNeg + 100) + et c.toNatClampNeg else et c.toNatClampNeg) else -1
def teT (n : Nat) (kd : Nat → Int32) (tr c : Int32) : Int32 := if softP n kd c then (if kd c.toNatClampNeg = 1 then beg (beg tr 2) 1 else if kd c.toNatClampNeg = 2 then beg (beg (beg (beg tr 3) 2) 1) 1 else beg tr 1) else tr
def trR (n : Nat) (kd : Nat → Int32) (c : Int32) : Int32 := if softP n kd c then (if kd c.toNatClampNeg = 2 then 40 else c) else -1
def trT (n : Nat) (kd : Nat → Int32) (tr c : Int32) : Int32 := if softP n kd c then (if kd c.toNatClampNeg = 2 then beg tr 5 else beg tr 4) else tr
def asR (n : Nat) (kd : Nat → Int32) (c q : Int32) : Int32 := if softP n kd c then (if btw q 0 2 then (if q ≤ kd c.toNatClampNeg then 1 else -12) else -2) else -1
def asF (n : Nat) (kd : Nat → Int32) (c q : Int32) : Int32 := if softP n kd c ∧ btw q 0 2 ∧ ¬ q ≤ kd c.toNatClampNeg then 2 else 0
theorem nI_pred_add (n : Nat) : nI n + nI 1 - 1 = nI n := by
  rw [nI_add]
  exact nI_pred n
theorem subT {n : Nat} {i : Int32} (h0 : 0 ≤ i.toInt) (h1 : i.toInt ≤ n) (hn : n < 2 ^ 30) : (nI n - i).toInt = (n : Int) - i.toInt := by
  have e : i = nI i.toInt.toNat := by
    refine Int32.toInt_inj.mp ?_
    rw [nI_toInt (by omega)]
    omega
  rw [e, pk_sub_toInt (by omega) (by omega), ← e]
  omega
theorem upd_upd (f : Nat → Int32) (k : Nat) (x y : Int32) : upd (upd f k x) k y = upd f k y := by
  funext j
  unfold upd
  by_cases h : j = k
  · rw [if_pos h, if_pos h]
  · rw [if_neg h, if_neg h, if_neg h]
theorem upd_self (f : Nat → Int32) (k : Nat) : upd f k (f k) = f := by
  funext j
  unfold upd
  by_cases h : j = k
  · rw [if_pos h, h]
  · rw [if_neg h]
theorem upd_at (f : Nat → Int32) (k : Nat) (x : Int32) : upd f k x k = x := by rw [upd, if_pos rfl]
theorem upd_ne (f : Nat → Int32) {k j : Nat} (x : Int32) (h : ¬ j = k) : upd f k x j = f j := by rw [upd, if_neg h]
theorem setF_t {P : Nat → Prop} [DecidablePred P] {a n : Nat} (h : P (a + n)) : setF P a n ||| bi (nI (a + n)) = setF P a (n + 1) := by rw [setF, if_pos h]
theorem setF_f {P : Nat → Prop} [DecidablePred P] {a n : Nat} (h : ¬ P (a + n)) : setF P a n = setF P a (n + 1) := by rw [setF, if_neg h, Int32.or_zero]
theorem setF_t0 {P : Nat → Prop} [DecidablePred P] {n : Nat} (h : P n) : setF P 0 n ||| bi (nI n) = setF P 0 (n + 1) := by rw [setF, Nat.zero_add, if_pos h]
theorem setF_f0 {P : Nat → Prop} [DecidablePred P] {n : Nat} (h : ¬ P n) : setF P 0 n = setF P 0 (n + 1) := by rw [setF, Nat.zero_add, if_neg h, Int32.or_zero]
