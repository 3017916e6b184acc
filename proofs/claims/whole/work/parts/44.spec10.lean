/-! ===== the model: counts of sets, sheets in one row ===== -/
theorem or_pw {v n : Nat} (h : v < 2 ^ n) : v ||| 2 ^ n = v + 2 ^ n := by
  have e := Nat.two_pow_add_eq_or_of_lt h 1
  rw [Nat.mul_one] at e
  rw [Nat.or_comm, ← e, Nat.add_comm]
theorem popN_pw : ∀ (n m v : Nat), v < 2 ^ n → n < m → popN m (v + 2 ^ n) = popN m v + 1
  | 0, m + 1, v, h, _ => by
    have hv : v = 0 := by rw [Nat.pow_zero] at h; omega
    subst hv
    show 1 + popN m 0 = (0 + popN m 0) + 1
    omega
  | n + 1, m + 1, v, h, hm => by
    have ih := popN_pw n m (v / 2) (by rw [Nat.pow_succ] at h; omega) (by omega)
    show (v + 2 ^ (n + 1)) % 2 + popN m ((v + 2 ^ (n + 1)) / 2) = v % 2 + popN m (v / 2) + 1
    rw [Nat.pow_succ, show (v + 2 ^ n * 2) / 2 = v / 2 + 2 ^ n by omega, ih]
    omega
theorem sN_or2 {a b : Int32} : sN (a ||| b) = sN a ||| sN b := by
  show (a.toBitVec ||| b.toBitVec).toNat = _
  exact BitVec.toNat_or _ _
/-- the two sets, as counts -/
theorem set_k (p br : Int32) (kd et : Nat → Int32) (ws : Int32) : ∀ n, n ≤ 16 → sN (sofS kd n) < 2 ^ n ∧ sN (ripS p br kd et ws n) < 2 ^ n ∧ thN kd n + popN 16 (sN (sofS kd n)) = n ∧ popN 16 (sN (ripS p br kd et ws n)) ≤ popN 16 (sN (sofS kd n)) ∧ (popN 16 (sN (ripS p br kd et ws n)) = popN 16 (sN (sofS kd n)) → sN (ripS p br kd et ws n) = sN (sofS kd n))
  | 0, _ => ⟨show sN 0 < 2 ^ 0 by decide, show sN 0 < 2 ^ 0 by decide, show 0 + popN 16 (sN 0) = 0 by decide, Nat.le_refl _, fun _ => rfl⟩
  | n + 1, h => by
    obtain ⟨h1, h2, h3, h4, h5⟩ := set_k p br kd et ws n (by omega)
    have hp : 2 ^ n < 2 ^ (n + 1) := by rw [Nat.pow_succ]; have := Nat.two_pow_pos n; omega
    have hp2 : 2 ^ (n + 1) = 2 ^ n + 2 ^ n := by rw [Nat.pow_succ]; omega
    by_cases a : kd n = 3
    · have r : ¬ ripP p br (kd n) (et n) ws := fun z => z.1 a
      have e1 : sofS kd (n + 1) = sofS kd n := by rw [sofS, if_pos a, Int32.or_zero]
      have e2 : ripS p br kd et ws (n + 1) = ripS p br kd et ws n := by rw [ripS, if_neg r, Int32.or_zero]
      rw [e1, e2, thN, if_pos a]
      exact ⟨by omega, by omega, by omega, h4, h5⟩
    · have e1 : sN (sofS kd (n + 1)) = sN (sofS kd n) + 2 ^ n := by rw [sofS, if_neg a, sN_or2, bi_k n (by omega), or_pw h1]
      have p1 : popN 16 (sN (sofS kd (n + 1))) = popN 16 (sN (sofS kd n)) + 1 := by rw [e1, popN_pw n 16 _ h1 (by omega)]
      rw [thN, if_neg a]
      by_cases r : ripP p br (kd n) (et n) ws
      · have e2 : sN (ripS p br kd et ws (n + 1)) = sN (ripS p br kd et ws n) + 2 ^ n := by rw [ripS, if_pos r, sN_or2, bi_k n (by omega), or_pw h2]
        have p2 : popN 16 (sN (ripS p br kd et ws (n + 1))) = popN 16 (sN (ripS p br kd et ws n)) + 1 := by rw [e2, popN_pw n 16 _ h2 (by omega)]
        rw [p1, p2]
        refine ⟨by omega, by omega, by omega, by omega, fun z => ?_⟩
        rw [e1, e2, h5 (by omega)]
      · have e2 : ripS p br kd et ws (n + 1) = ripS p br kd et ws n := by rw [ripS, if_neg r, Int32.or_zero]
        rw [p1, e2]
        exact ⟨by omega, by omega, by omega, by omega, fun z => absurd z (by omega)⟩
theorem th_pop (kd : Nat → Int32) {n : Nat} (h : n ≤ 16) : thN kd n + popN 16 (sN (sofS kd n)) = n := (set_k 0 0 kd kd 0 n h).2.2.1
theorem th_le (kd : Nat → Int32) {n : Nat} (h : n ≤ 16) : thN kd n ≤ n := by have := th_pop kd h; omega
theorem sN_inj {a b : Int32} (h : sN a = sN b) : a = b := by rw [sN_eq a, sN_eq b, h]
/-- all ripe, as the counts tell -/
theorem rip_sof {p br : Int32} {kd et : Nat → Int32} {ws : Int32} {n : Nat} (h : n ≤ 16) : ¬ popN 16 (sN (ripS p br kd et ws n)) < n - thN kd n ↔ ripS p br kd et ws n = sofS kd n := by
  obtain ⟨-, -, h3, h4, h5⟩ := set_k p br kd et ws n h
  constructor
  · intro z
    exact sN_inj (h5 (by omega))
  · intro z
    rw [z]
    omega
theorem many_4 (kd : Nat → Int32) {n : Nat} (h : n ≤ 16) : nI n - nI (popN 16 (sN (sofS kd n))) = nI (thN kd n) := by
  have e := th_pop kd h
  rw [pk_sub (a := n) (b := popN 16 (sN (sofS kd n))) (by omega)]
  congr 1
  omega
theorem many_t (kd : Nat → Int32) {n : Nat} (h : n ≤ 16) : nI n - nI (thN kd n) = nI (popN 16 (sN (sofS kd n))) := by
  have e := th_pop kd h
  rw [pk_sub (a := n) (b := thN kd n) (by omega)]
  congr 1
  omega
theorem two_100 (x : Int32) : 2 * x + 100 = (x + 100) + x := by
  have e : 2 * x = x + x := by
    rw [show (2 : Int32) = 1 + 1 from rfl, Int32.add_mul, Int32.one_mul]
  rw [e, Int32.add_assoc, Int32.add_assoc, Int32.add_comm x 100]
/-- a sheet's size, as the model keeps it -/
def zsF (hs : Nat → Int32) (le : Nat → Nat) : Nat → Int32 := fun k => if hs k = 0 then -1 else nI (le k)
/-- all rows in one -/
def rwF (rr : Nat → Nat → Int32) : Nat → Int32 := fun q => rr (q / 60) (q % 60)
theorem zs_0 {hs : Nat → Int32} {le : Nat → Nat} {j : Nat} (h : hs j = 0) : zsF hs le j = -1 := by rw [zsF, if_pos h]
theorem zs_1 {hs : Nat → Int32} {le : Nat → Nat} {j : Nat} (h : ¬ hs j = 0) : zsF hs le j = nI (le j) := by rw [zsF, if_neg h]
theorem zs_lt {hs : Nat → Int32} {le : Nat → Nat} {j : Nat} (hl : le j ≤ 60) : zsF hs le j < 0 ↔ hs j = 0 := by
  by_cases h : hs j = 0
  · rw [zs_0 h]
    exact ⟨fun _ => h, fun _ => by decide⟩
  · rw [zs_1 h, Int32.lt_iff_toInt_lt, nI_toInt (by omega), ti_0]
    exact ⟨fun z => absurd z (by omega), fun z => absurd z h⟩
theorem zs_lose (hs : Nat → Int32) (le : Nat → Nat) (j : Nat) : upd (zsF hs le) j (-1) = zsF (va_up hs j 0) le := by
  funext q
  show (if q = j then (-1 : Int32) else zsF hs le q) = if (if q = j then (0 : Int32) else hs q) = 0 then -1 else nI (le q)
  by_cases h : q = j
  · rw [if_pos h, if_pos h, if_pos rfl]
  · rw [if_neg h, if_neg h, zsF]
theorem zs_new (hs : Nat → Int32) (le : Nat → Nat) (j m : Nat) : upd (zsF hs le) j (nI m) = zsF (va_up hs j 1) (va_up le j m) := by
  funext q
  show (if q = j then nI m else zsF hs le q) = if (if q = j then (1 : Int32) else hs q) = 0 then -1 else nI (if q = j then m else le q)
  by_cases h : q = j
  · rw [if_pos h, if_pos h, if_pos h, if_neg (by decide)]
  · rw [if_neg h, if_neg h, if_neg h, zsF]
theorem rw_at (rr : Nat → Nat → Int32) {j i : Nat} (h : i < 60) : rwF rr (60 * j + i) = rr j i := by
  show rr ((60 * j + i) / 60) ((60 * j + i) % 60) = rr j i
  rw [show (60 * j + i) / 60 = j by omega, show (60 * j + i) % 60 = i by omega]
theorem rw_up (rr : Nat → Nat → Int32) {j i : Nat} (h : i < 60) (x : Int32) : upd (rwF rr) (60 * j + i) x = rwF (va_up rr j (upd (rr j) i x)) := by
  funext q
  show (if q = 60 * j + i then x else rr (q / 60) (q % 60)) = (if q / 60 = j then upd (rr j) i x else rr (q / 60)) (q % 60)
  by_cases a : q / 60 = j
  · rw [if_pos a]
    show _ = if q % 60 = i then x else rr j (q % 60)
    by_cases b : q % 60 = i
    · rw [if_pos b, if_pos (by omega)]
    · rw [if_neg b, if_neg (by omega), a]
  · rw [if_neg a, if_neg (by omega)]
theorem up_up {α : Type} (f : Nat → α) (j : Nat) (x y : α) : va_up (va_up f j x) j y = va_up f j y := by
  funext q
  show (if q = j then y else if q = j then x else f q) = if q = j then y else f q
  split <;> rfl
theorem up_at {α : Type} (f : Nat → α) (j : Nat) (x : α) : va_up f j x j = x := by
  show (if j = j then x else f j) = x
  rw [if_pos rfl]
theorem up_self {α : Type} (f : Nat → α) (j : Nat) : va_up f j (f j) = f := by
  funext q
  show (if q = j then f j else f q) = f q
  split
  · next h => rw [h]
  · rfl
theorem rw_step (rr : Nat → Nat → Int32) (g s : Nat → Int32) {j i k : Nat} (h : i < 60) (x : Int32) (e : upd (fil g s k) i x = fil g s (k + 1)) : upd (rwF (va_up rr j (fil g s k))) (60 * j + i) x = rwF (va_up rr j (fil g s (k + 1))) := by
  rw [rw_up _ h, up_up, up_at, e]
theorem i64_add (i n : Int32) : (i.toInt64 + n.toInt64).toInt = i.toInt + n.toInt := by
  rw [Int64.toInt_add, Int32.toInt_toInt64, Int32.toInt_toInt64]
  have a1 := i.toInt_lt
  have a2 := i.le_toInt
  have b1 := n.toInt_lt
  have b2 := n.le_toInt
  rw [Int.bmod_eq_of_le] <;> omega
theorem by_1 {i n : Int32} {l : Nat} (h : i < 0) : ¬ spP i n l := fun z => by
  rw [Int32.lt_iff_toInt_lt, ti_0] at h
  have := z.1
  omega
theorem by_2 {i n : Int32} {l : Nat} (h : lg_cmp n.toInt64 0 < 0) : ¬ spP i n l := fun z => by
  have h2 := (lg_cmp_lt _ _).mp h
  rw [Int64.lt_iff_toInt_lt, Int32.toInt_toInt64] at h2
  have h3 : n.toInt < 0 := h2
  have := z.2.1
  omega
theorem by_3 {i n : Int32} {l : Nat} (hl : l ≤ 60) (h : ¬ lg_cmp (i.toInt64 + n.toInt64) (nI l).toInt64 ≤ 0) : ¬ spP i n l := fun z => by
  refine h ((lg_cmp_le _ _).mpr ?_)
  rw [Int64.le_iff_toInt_le, i64_add, Int32.toInt_toInt64, nI_toInt (by omega)]
  exact z.2.2
theorem by_0 {i n : Int32} {l : Nat} (hl : l ≤ 60) (h1 : ¬ i < 0) (h2 : ¬ lg_cmp n.toInt64 0 < 0) (h3 : lg_cmp (i.toInt64 + n.toInt64) (nI l).toInt64 ≤ 0) : spP i n l := by
  have e1 := Int32.not_lt.mp h1
  have e2 : (0 : Int64) ≤ n.toInt64 := Int64.not_lt.mp (fun z => h2 ((lg_cmp_lt _ _).mpr z))
  have e3 := (lg_cmp_le _ _).mp h3
  rw [Int64.le_iff_toInt_le, i64_add, Int32.toInt_toInt64, nI_toInt (by omega)] at e3
  rw [Int32.le_iff_toInt_le, ti_0] at e1
  rw [Int64.le_iff_toInt_le, Int32.toInt_toInt64] at e2
  exact ⟨e1, e2, e3⟩
theorem in_m1 {v : Int32} {n : Nat} (hn : n < 2 ^ 31) : ((0 : Int64) ≤ v.toInt64 ∧ v.toInt64 ≤ (nI n).toInt64 - 1) ↔ inN v n := by
  have e : ((nI n).toInt64 - 1).toInt = (n : Int) - 1 := by
    rw [Int64.toInt_sub, Int32.toInt_toInt64, nI_toInt hn]
    have z : (1 : Int64).toInt = 1 := rfl
    rw [z, Int.bmod_eq_of_le] <;> omega
  rw [Int64.le_iff_toInt_le, Int64.le_iff_toInt_le, Int32.toInt_toInt64, e]
  show (0 ≤ v.toInt ∧ _) ↔ _
  unfold inN
  omega
/-- what bars a call from cells: its answer and its fault -/
def brR (x : Int32) : Int32 := if x = 0 then 0 else (-10) - x
def brF (x fa : Int32) : Int32 := if x = 0 then fa else x
def ncF (hs : Nat → Int32) (le : Nat → Nat) (i : Int32) (j : Nat) : Int32 := if hs j = 0 then 1 else if inN i (le j) then 0 else 3
theorem nc_c (hs : Nat → Int32) (le : Nat → Nat) (i : Int32) (j : Nat) : (hs j = 0 ∧ ncF hs le i j = 1) ∨ (¬ hs j = 0 ∧ inN i (le j) ∧ ncF hs le i j = 0) ∨ (¬ hs j = 0 ∧ ¬ inN i (le j) ∧ ncF hs le i j = 3) := by
  unfold ncF
  by_cases a : hs j = 0
  · exact Or.inl ⟨a, by rw [if_pos a]⟩
  · by_cases b : inN i (le j)
    · exact Or.inr (Or.inl ⟨a, b, by rw [if_neg a, if_pos b]⟩)
    · exact Or.inr (Or.inr ⟨a, b, by rw [if_neg a, if_neg b]⟩)
theorem cpy_0 (f g : Nat → Int32) (s d : Nat) : va_cpy f g s d 0 = g := by
  funext k
  unfold va_cpy
  rw [if_neg (by omega)]
theorem cpy_s (f g : Nat → Int32) (s d k : Nat) {x : Int32} (e : f (s + k) = x) : upd (va_cpy f g s d k) (d + k) x = va_cpy f g s d (k + 1) := by
  funext q
  unfold upd va_cpy
  by_cases a : q = d + k
  · rw [if_pos a, if_pos (by omega), show s + (q - d) = s + k by omega, e]
  · rw [if_neg a]
    by_cases b : d ≤ q ∧ q < d + k
    · rw [if_pos b, if_pos (by omega)]
    · rw [if_neg b, if_neg (by omega)]
theorem rw_cpy (rr : Nat → Nat → Int32) (f : Nat → Int32) {j s d k : Nat} (h : d + k < 60) {x : Int32} (e : f (s + k) = x) : upd (rwF (va_up rr j (va_cpy f (rr j) s d k))) (60 * j + d + k) x = rwF (va_up rr j (va_cpy f (rr j) s d (k + 1))) := by
  rw [Nat.add_assoc, rw_up _ h, up_up, up_at, cpy_s _ _ _ _ _ e]
