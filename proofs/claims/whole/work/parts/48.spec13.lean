/-! ===== the model: the text read ===== -/
theorem sub48 {x : Int32} {a b : Int} (ha : -1000 ≤ a) (hb : b ≤ 1000) (h : a ≤ (x - 48).toInt ∧ (x - 48).toInt ≤ b) : (x - 48).toInt = x.toInt - 48 := by
  have e := Int32.toInt_sub x 48
  rw [show (48 : Int32).toInt = 48 from rfl] at e
  have l1 := x.toInt_lt
  have l2 := x.le_toInt
  rw [Int.bmod_def] at e
  omega
theorem sub48' {x : Int32} (h : 0 ≤ x.toInt) : (x - 48).toInt = x.toInt - 48 := by
  rw [Int32.toInt_sub, show (48 : Int32).toInt = 48 from rfl]
  have l1 := x.toInt_lt
  rw [Int.bmod_eq_of_le] <;> omega
theorem fg_ok {tx : Nat → Int32} {ii m p : Nat} {lo hi : Int32} (h1 : 1 ≤ lo.toInt) (h9 : hi.toInt ≤ 9) (h : fgP tx ii m p lo hi) : p < m ∧ btw (tx (ii + p)) (lo.toInt + 48) (hi.toInt + 48) ∧ cdF tx ii m p - 48 = nI (hN (tx (ii + p))) ∧ lo.toInt ≤ (hN (tx (ii + p)) : Int) ∧ (hN (tx (ii + p)) : Int) ≤ hi.toInt := by
  have hp : p < m := by
    rcases Nat.lt_or_ge p m with a | a
    · exact a
    · have e : cdF tx ii m p = -9 := by rw [cdF, if_neg (by omega)]
      have h2 := h.1
      rw [e, show ((-9 : Int32) - 48).toInt = -57 from rfl] at h2
      omega
  have e : cdF tx ii m p = tx (ii + p) := by rw [cdF, if_pos hp]
  obtain ⟨l, u⟩ := h
  rw [e] at l u
  have s := sub48 (by omega) (by omega) ⟨l, u⟩
  rw [s] at l u
  have d := dig (x := tx (ii + p)) (b := hi.toInt + 48) (by omega) ⟨by omega, by omega⟩
  refine ⟨hp, ⟨by omega, by omega⟩, by rw [e]; exact d.1, ?_, by have := d.2.2; omega⟩
  unfold hN
  omega
theorem fg_no {tx : Nat → Int32} {ii m p : Nat} {lo hi : Int32} (h1 : 1 ≤ lo.toInt) (h : ¬ fgP tx ii m p lo hi) : p < m → ¬ btw (tx (ii + p)) (lo.toInt + 48) (hi.toInt + 48) := by
  intro hp z
  have e : cdF tx ii m p = tx (ii + p) := by rw [cdF, if_pos hp]
  refine h ?_
  unfold fgP
  rw [e, sub48' (by have := z.1; omega)]
  exact ⟨by have := z.1; omega, by have := z.2; omega⟩
theorem hd_no {tx : Nat → Int32} {i p : Nat} (h5 : p < 5) (h : ¬ hdP p (tx (i + p))) : ¬ okT tx i p := fun z => z.elim (fun y => h y.2) (fun y => absurd y.1 (by omega))
theorem hd_ok {tx : Nat → Int32} {i p : Nat} (h5 : p < 5) (h : hdP p (tx (i + p))) : okT tx i p := Or.inl ⟨h5, h⟩
theorem ok_s {tx : Nat → Int32} {i p : Nat} (h : ∀ q, q < p → okT tx i q) (hp : okT tx i p) : ∀ q, q < p + 1 → okT tx i q := by
  intro q hq
  rcases Nat.lt_or_ge q p with a | a
  · exact h q a
  · rw [show q = p by omega]; exact hp
theorem ff_at {tx : Nat → Int32} {i m p : Nat} (hm : m ≤ 60) (hp : p ≤ m) (hok : ∀ q, q < p → okT tx i q) (hno : p < m → ¬ okT tx i p) (hc : ¬ (p = m ∧ 5 ≤ m ∧ m = 5 + hN (tx (i + 1)) * (hN (tx (i + 2)) + 1))) : ffR tx i m = nI p ∧ ¬ ffR tx i m = -9 := by
  have e : ffN (okT tx i) m = p := by
    rcases Nat.lt_or_ge p m with a | a
    · exact ffN_at hok (hno a) a
    · rw [show p = m by omega] at hok ⊢
      exact ffN_all hok
  have e2 : ffR tx i m = nI p := by
    unfold ffR
    rw [e, if_neg (fun z => hc ⟨z.1, z.2⟩)]
  exact ⟨e2, by rw [e2]; exact n9 (by omega)⟩
theorem ff_full {tx : Nat → Int32} {i m : Nat} (hok : ∀ q, q < m → okT tx i q) (h5 : 5 ≤ m) (he : m = 5 + hN (tx (i + 1)) * (hN (tx (i + 2)) + 1)) : ffR tx i m = -9 := by
  unfold ffR
  rw [ffN_all hok, if_pos ⟨rfl, h5, he⟩]
def lcC (w c : Nat) : Nat := 5 + (c / w) * (w + 1) + 1 + c % w
def psC (w c : Nat) : Nat := 5 + (c / w) * (w + 1) + (if c % w = 0 then 0 else 1 + c % w)
theorem ps_0 (w : Nat) : psC w 0 = 5 := by
  unfold psC
  rw [Nat.zero_div, Nat.zero_mul, if_pos (Nat.zero_mod w)]
theorem ps_next {w c : Nat} (hw : 0 < w) : psC w (c + 1) = lcC w c + 1 := by
  have hb := Nat.mod_lt c hw
  have e := Nat.div_add_mod' c w
  unfold psC lcC
  generalize c / w = a at e ⊢
  generalize c % w = b at e hb ⊢
  subst e
  rcases Nat.lt_or_ge (b + 1) w with x | x
  · rw [show a * w + b + 1 = a * w + (b + 1) by omega, div_of x, mod_of x, if_neg (by omega)]
    omega
  · have e2 : b + 1 = w := by omega
    rw [show a * w + b + 1 = (a + 1) * w + 0 by rw [Nat.add_one_mul]; omega, div_of hw, mod_of hw, if_pos rfl, Nat.add_one_mul]
    omega
theorem lc_lt {w c h : Nat} (hw : 0 < w) (hc : c < h * w) : lcC w c < 5 + h * (w + 1) := by
  have hb := Nat.mod_lt c hw
  have ha : c / w < h := (Nat.div_lt_iff_lt_mul hw).mpr hc
  have l := Nat.mul_le_mul_right (w + 1) (show c / w + 1 ≤ h by omega)
  rw [Nat.add_one_mul] at l
  unfold lcC
  omega
theorem ps_lc0 {w c : Nat} (h : c % w = 0) : psC w c + 1 = lcC w c := by
  unfold psC lcC
  rw [if_pos h]
  omega
theorem ps_lc1 {w c : Nat} (h : ¬ c % w = 0) : psC w c = lcC w c := by
  unfold psC lcC
  rw [if_neg h]
  omega
theorem ps_end {w h : Nat} (hw : 0 < w) : psC w (h * w) = 5 + h * (w + 1) := by
  unfold psC
  rw [show h * w = h * w + 0 from rfl, div_of hw, mod_of hw, if_pos rfl, Nat.add_zero]
/-- the sign ahead of a row, and a letter, as the text's rules see them -/
theorem ok_sg {tx : Nat → Int32} {i w c h : Nat} (hw : 0 < w) (hW : hN (tx (i + 2)) = w) (hH : hN (tx (i + 1)) = h) (hc : c < h * w) (h0 : c % w = 0) : okT tx i (psC w c) ↔ tx (i + psC w c) = 59 := by
  have l := lc_lt hw hc
  have e := ps_lc0 h0
  have hp : psC w c - 5 = (c / w) * (w + 1) + 0 := by
    unfold psC
    rw [if_pos h0]
    omega
  have hm : (psC w c - 5) % (w + 1) = 0 := by rw [hp, mod_of (Nat.succ_pos w)]
  have h5 : 5 ≤ psC w c := by unfold psC; omega
  constructor
  · rintro (z | ⟨-, -, z⟩)
    · omega
    · rw [hW, hm] at z
      rcases z with z | z
      · exact z.2
      · exact absurd rfl z.1
  · intro z
    exact Or.inr ⟨h5, by rw [hW, hH]; omega, by rw [hW, hm]; exact Or.inl ⟨rfl, z⟩⟩
theorem ok_lc {tx : Nat → Int32} {i w c h : Nat} (hw : 0 < w) (hW : hN (tx (i + 2)) = w) (hH : hN (tx (i + 1)) = h) (hc : c < h * w) : okT tx i (lcC w c) ↔ ¬ kindF (tx (i + lcC w c)) = -9 := by
  have l := lc_lt hw hc
  have hb := Nat.mod_lt c hw
  have hp : lcC w c - 5 = (c / w) * (w + 1) + (1 + c % w) := by
    unfold lcC
    omega
  have hm : (lcC w c - 5) % (w + 1) = 1 + c % w := by rw [hp, mod_of (by omega)]
  have h5 : 5 ≤ lcC w c := by unfold lcC; omega
  constructor
  · rintro (z | ⟨-, -, z⟩)
    · omega
    · rw [hW, hm] at z
      rcases z with z | z
      · exact absurd z.1 (by omega)
      · exact z.2
  · intro z
    exact Or.inr ⟨h5, by rw [hW, hH]; omega, by rw [hW, hm]; exact Or.inr ⟨by omega, z⟩⟩
theorem lc_kd (tx : Nat → Int32) (i w c : Nat) : kindF (tx (i + lcC w c)) = kdT tx i w c := by
  unfold lcC kdT
  rw [show i + (5 + c / w * (w + 1) + 1 + c % w) = i + 5 + (c / w) * (w + 1) + 1 + c % w by omega]
theorem cd_lt {tx : Nat → Int32} {ii m p : Nat} (h : p < m) : cdF tx ii m p = tx (ii + p) := by rw [cdF, if_pos h]
theorem cd_ge {tx : Nat → Int32} {ii m p : Nat} (h : ¬ p < m) : cdF tx ii m p = -9 := by rw [cdF, if_neg h]
theorem cd_59 {tx : Nat → Int32} {ii m p : Nat} (h : cdF tx ii m p = 59) : p < m := by
  rcases Nat.lt_or_ge p m with a | a
  · exact a
  · rw [cd_ge (by omega)] at h
    exact absurd h (by decide)
theorem cd_kf {tx : Nat → Int32} {ii m p : Nat} (h : ¬ kindF (cdF tx ii m p) = -9) : p < m := by
  rcases Nat.lt_or_ge p m with a | a
  · exact a
  · rw [cd_ge (by omega)] at h
    exact absurd rfl h
/-- a place that reads -/
theorem rp_yes {tx : Nat → Int32} {i m w c h : Nat} (hw : 0 < w) (hW : hN (tx (i + 2)) = w) (hH : hN (tx (i + 1)) = h) (hc : c < h * w) (hok : ∀ q, q < psC w c → okT tx i q) (hr : rpP tx i m (psC w c) w c) : rpN tx i m (psC w c) w c = psC w (c + 1) ∧ (∀ q, q < psC w (c + 1) → okT tx i q) ∧ psC w (c + 1) ≤ m ∧ ∀ f, rpK tx i m (psC w c) w c f = upd f c (kdT tx i w c) := by
  have hB : rpB tx i m (psC w c) w c = lcC w c := by
    unfold rpB
    by_cases a : c % w = 0
    · rw [if_pos a, if_pos (hr.1 a), ps_lc0 a]
    · rw [if_neg a, ps_lc1 a]
  have hk := hr.2
  rw [hB] at hk
  have hlt := cd_kf hk
  have hk2 := hk
  rw [cd_lt hlt] at hk2
  have hlc : ∀ q, q < lcC w c → okT tx i q := by
    by_cases a : c % w = 0
    · rw [← ps_lc0 a]
      refine ok_s hok ((ok_sg hw hW hH hc a).mpr ?_)
      have z := hr.1 a
      rw [cd_lt (cd_59 z)] at z
      exact z
    · rw [← ps_lc1 a]
      exact hok
  refine ⟨?_, ?_, ?_, ?_⟩
  · rw [rpN, if_pos hr, hB, ps_next hw]
  · rw [ps_next hw]
    exact ok_s hlc ((ok_lc hw hW hH hc).mpr hk2)
  · rw [ps_next hw]
    omega
  · intro f
    rw [rpK, if_pos hr, hB, cd_lt hlt, lc_kd]
theorem rp_no {tx : Nat → Int32} {i m w c h : Nat} (hw : 0 < w) (hW : hN (tx (i + 2)) = w) (hH : hN (tx (i + 1)) = h) (hc : c < h * w) (hok : ∀ q, q < psC w c → okT tx i q) (hle : psC w c ≤ m) (hr : ¬ rpP tx i m (psC w c) w c) : ∃ p, rpN tx i m (psC w c) w c = p ∧ p ≤ m ∧ (∀ q, q < p → okT tx i q) ∧ (p < m → ¬ okT tx i p) ∧ p < 5 + h * (w + 1) ∧ ∀ f, rpK tx i m (psC w c) w c f = f := by
  have l := lc_lt hw hc
  have hK : ∀ f, rpK tx i m (psC w c) w c f = f := fun f => by rw [rpK, if_neg hr]
  have hN' : rpN tx i m (psC w c) w c = rpB tx i m (psC w c) w c := by rw [rpN, if_neg hr]
  by_cases a : c % w = 0
  · have e := ps_lc0 a
    by_cases b : cdF tx i m (psC w c) = 59
    · have hB : rpB tx i m (psC w c) w c = lcC w c := by rw [rpB, if_pos a, if_pos b, e]
      have hlt := cd_59 b
      have b2 := b
      rw [cd_lt hlt] at b2
      refine ⟨lcC w c, by rw [hN', hB], by omega, ?_, ?_, l, hK⟩
      · rw [← e]
        exact ok_s hok ((ok_sg hw hW hH hc a).mpr b2)
      · intro z y
        refine hr ⟨fun _ => b, ?_⟩
        rw [hB, cd_lt z]
        exact (ok_lc hw hW hH hc).mp y
    · have hB : rpB tx i m (psC w c) w c = psC w c := by rw [rpB, if_pos a, if_neg b]
      refine ⟨psC w c, by rw [hN', hB], hle, hok, ?_, by omega, hK⟩
      intro z y
      refine b ?_
      rw [cd_lt z]
      exact (ok_sg hw hW hH hc a).mp y
  · have e := ps_lc1 a
    have hB : rpB tx i m (psC w c) w c = psC w c := by rw [rpB, if_neg a]
    refine ⟨psC w c, by rw [hN', hB], hle, hok, ?_, by omega, hK⟩
    intro z y
    refine hr ⟨fun x => absurd x a, ?_⟩
    rw [hB, cd_lt z, e]
    rw [e] at y
    exact (ok_lc hw hW hH hc).mp y
/-- where the reading of cells stands -/
def rlI (tx : Nat → Int32) (i m w h c p o : Nat) (rk : Nat → Int32) : Prop := (o = 1 ∧ p = psC w c ∧ (∀ q, q < psC w c → okT tx i q) ∧ psC w c ≤ m ∧ ∀ q, q < c → rk q = kdT tx i w q) ∨ (o = 0 ∧ p ≤ m ∧ (∀ q, q < p → okT tx i q) ∧ (p < m → ¬ okT tx i p) ∧ p < 5 + h * (w + 1))
theorem up_kd {tx rk : Nat → Int32} {i w c : Nat} (h : ∀ q, q < c → rk q = kdT tx i w q) : ∀ q, q < c + 1 → upd rk c (kdT tx i w c) q = kdT tx i w q := by
  intro q hq
  unfold upd
  by_cases a : q = c
  · rw [if_pos a, a]
  · rw [if_neg a]
    exact h q (by omega)
theorem ok_end {tx : Nat → Int32} {i : Nat} (h : okT tx i (5 + hN (tx (i + 1)) * (hN (tx (i + 2)) + 1))) : False := by
  rcases h with z | ⟨-, z, -⟩
  · omega
  · omega
theorem ps_58 {w h c : Nat} (hc : c < h * w) (hh : h ≤ 4) (hw4 : w ≤ 4) (hw : 0 < w) : psC w c ≤ 58 := by
  have l := lc_lt hw hc
  have m := Nat.mul_le_mul hh (show w + 1 ≤ 5 by omega)
  by_cases a : c % w = 0
  · have := ps_lc0 a
    omega
  · have := ps_lc1 a
    omega
