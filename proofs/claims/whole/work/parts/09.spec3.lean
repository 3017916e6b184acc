/-! ===== texts ===== -/
theorem s1p (n : Nat) : 0 < n + 1 := Nat.succ_pos n
abbrev hdP (p : Nat) (x : Int32) : Prop := (p = 0 ∧ x = 104) ∨ (p = 1 ∧ btw x 49 52) ∨ (p = 2 ∧ btw x 50 52) ∨ (p = 3 ∧ btw x 49 51) ∨ (3 < p ∧ btw x 49 57)
abbrev rwP (q : Nat) (x : Int32) : Prop := (q = 0 ∧ x = 59) ∨ (¬ q = 0 ∧ ¬ kindF x = -9)
/-- a digit's number -/
def hN (x : Int32) : Nat := x.toInt.toNat - 48
abbrev okT (tx : Nat → Int32) (i p : Nat) : Prop := (p < 5 ∧ hdP p (tx (i + p))) ∨ (5 ≤ p ∧ p - 5 < hN (tx (i + 1)) * (hN (tx (i + 2)) + 1) ∧ rwP ((p - 5) % (hN (tx (i + 2)) + 1)) (tx (i + p)))
/-- the first below n that P does not hold of, or n -/
def ffN (P : Nat → Prop) [DecidablePred P] : Nat → Nat
  | 0 => 0
  | n + 1 => if ffN P n < n then ffN P n else if P n then n + 1 else n
theorem ffN_all {P : Nat → Prop} [DecidablePred P] : ∀ {n : Nat}, (∀ q, q < n → P q) → ffN P n = n
  | 0, _ => rfl
  | n + 1, h => by
    rw [ffN, ffN_all (fun q hq => h q (by omega)), if_neg (Nat.lt_irrefl n), if_pos (h n (by omega))]
theorem ffN_at {P : Nat → Prop} [DecidablePred P] {p : Nat} : ∀ {n : Nat}, (∀ q, q < p → P q) → ¬ P p → p < n → ffN P n = p
  | 0, _, _, h => absurd h (Nat.not_lt_zero p)
  | n + 1, h, hp, hn => by
    rcases Nat.lt_or_ge p n with a | a
    · rw [ffN, ffN_at h hp a, if_pos a]
    · have e : p = n := by omega
      subst e
      rw [ffN, ffN_all h, if_neg (Nat.lt_irrefl p), if_neg hp]
def ffR (tx : Nat → Int32) (i n : Nat) : Int32 := if ffN (okT tx i) n = n ∧ 5 ≤ n ∧ n = 5 + hN (tx (i + 1)) * (hN (tx (i + 2)) + 1) then -9 else nI (ffN (okT tx i) n)
/-- where the scan stands ahead of place p -/
def FI (tx : Nat → Int32) (i p rl wd cl : Nat) : Prop := (∀ q, q < p → okT tx i q) ∧ rl = (if p < 2 then 0 else hN (tx (i + 1)) - (p - 5) / (hN (tx (i + 2)) + 1)) ∧ wd = (if p < 3 then 0 else hN (tx (i + 2))) ∧ cl = (p - 5) % (hN (tx (i + 2)) + 1)
theorem FI_0 (tx : Nat → Int32) (i : Nat) : FI tx i 0 0 0 0 := ⟨fun q h => absurd h (Nat.not_lt_zero q), rfl, rfl, (Nat.zero_mod _).symm⟩
theorem div5 {p w : Nat} (h : p < 5) : (p + 1 - 5) / (w + 1) = (p - 5) / (w + 1) ∧ (p + 1 - 5) % (w + 1) = (p - 5) % (w + 1) := by
  rw [show p + 1 - 5 = 0 by omega, show p - 5 = 0 by omega]
  exact ⟨rfl, rfl⟩
theorem FI_ok {tx : Nat → Int32} {i p : Nat} (h : ∀ q, q < p → okT tx i q) (hp : okT tx i p) : ∀ q, q < p + 1 → okT tx i q := by
  intro q hq
  rcases Nat.lt_or_ge q p with a | a
  · exact h q a
  · rw [show q = p by omega]; exact hp
theorem FI_h1 {tx : Nat → Int32} {i p rl wd cl : Nat} (h : FI tx i p rl wd cl) (hp : p = 1) (ho : hdP p (tx (i + p))) : FI tx i (p + 1) (hN (tx (i + 1))) wd cl := by
  obtain ⟨h1, h2, h3, h4⟩ := h
  subst hp
  refine ⟨FI_ok h1 (Or.inl ⟨by decide, ho⟩), ?_, ?_, ?_⟩
  · rw [if_neg (by decide), Nat.zero_div]; rfl
  · rw [h3]; rfl
  · rw [h4]
theorem FI_h2 {tx : Nat → Int32} {i p rl wd cl : Nat} (h : FI tx i p rl wd cl) (hp : p = 2) (ho : hdP p (tx (i + p))) : FI tx i (p + 1) rl (hN (tx (i + 2))) cl := by
  obtain ⟨h1, h2, h3, h4⟩ := h
  subst hp
  refine ⟨FI_ok h1 (Or.inl ⟨by decide, ho⟩), ?_, ?_, ?_⟩
  · rw [h2]; rfl
  · rfl
  · rw [h4]
theorem FI_h {tx : Nat → Int32} {i p rl wd cl : Nat} (h : FI tx i p rl wd cl) (h5 : p < 5) (n1 : ¬ p = 1) (n2 : ¬ p = 2) (ho : hdP p (tx (i + p))) : FI tx i (p + 1) rl wd cl := by
  obtain ⟨h1, h2, h3, h4⟩ := h
  obtain ⟨d1, d2⟩ := div5 (w := hN (tx (i + 2))) h5
  refine ⟨FI_ok h1 (Or.inl ⟨h5, ho⟩), ?_, ?_, ?_⟩
  · rw [h2, d1]
    by_cases a : p < 2
    · rw [if_pos a, if_pos (by omega)]
    · rw [if_neg a, if_neg (by omega)]
  · rw [h3]
    by_cases a : p < 3
    · rw [if_pos a, if_pos (by omega)]
    · rw [if_neg a, if_neg (by omega)]
  · rw [h4, d2]
theorem FI_lt {tx : Nat → Int32} {i p rl wd cl : Nat} (h : FI tx i p rl wd cl) (h5 : 5 ≤ p) (hr : ¬ rl = 0) : p - 5 < hN (tx (i + 1)) * (hN (tx (i + 2)) + 1) := by
  obtain ⟨-, h2, -⟩ := h
  rw [if_neg (by omega)] at h2
  have : (p - 5) / (hN (tx (i + 2)) + 1) < hN (tx (i + 1)) := by omega
  exact (Nat.div_lt_iff_lt_mul (s1p _)).mp this
theorem FI_c {tx : Nat → Int32} {i p rl wd cl : Nat} (h : FI tx i p rl wd cl) (h5 : 5 ≤ p) (hr : ¬ rl = 0) (ho : rwP cl (tx (i + p))) (hc : cl < wd) : FI tx i (p + 1) rl wd (cl + 1) := by
  have hlt := FI_lt h h5 hr
  obtain ⟨h1, h2, h3, h4⟩ := h
  rw [if_neg (by omega)] at h2 h3
  rw [h4] at ho hc
  generalize hW : hN (tx (i + 2)) = W at *
  have e : p + 1 - 5 = (p - 5) + 1 := by omega
  have dm := Nat.div_add_mod (p - 5) (W + 1)
  have e1 : ((p - 5) + 1) / (W + 1) = (p - 5) / (W + 1) := by
    rw [Nat.div_eq_iff (s1p _)]
    have : (p - 5) / (W + 1) * (W + 1) = (W + 1) * ((p - 5) / (W + 1)) := Nat.mul_comm _ _
    omega
  have e2 : ((p - 5) + 1) % (W + 1) = (p - 5) % (W + 1) + 1 := by
    have dm2 := Nat.div_add_mod ((p - 5) + 1) (W + 1)
    rw [e1] at dm2
    omega
  refine ⟨FI_ok h1 (Or.inr ⟨h5, by rw [hW]; exact hlt, by rw [hW]; exact ho⟩), ?_, ?_, ?_⟩
  · rw [if_neg (by omega), hW, e, e1]; exact h2
  · rw [if_neg (by omega), hW]; exact h3
  · rw [hW, e, e2, h4]
theorem FI_e {tx : Nat → Int32} {i p rl wd cl : Nat} (h : FI tx i p rl wd cl) (h5 : 5 ≤ p) (hr : ¬ rl = 0) (ho : rwP cl (tx (i + p))) (hc : wd ≤ cl) : FI tx i (p + 1) (rl - 1) wd 0 := by
  have hlt := FI_lt h h5 hr
  obtain ⟨h1, h2, h3, h4⟩ := h
  rw [if_neg (by omega)] at h2 h3
  rw [h4] at ho hc
  generalize hW : hN (tx (i + 2)) = W at *
  have e : p + 1 - 5 = (p - 5) + 1 := by omega
  have ml := Nat.mod_lt (p - 5) (s1p W)
  have mW : (p - 5) % (W + 1) = W := by omega
  have dm := Nat.div_add_mod (p - 5) (W + 1)
  have e1 : ((p - 5) + 1) / (W + 1) = (p - 5) / (W + 1) + 1 := by
    rw [Nat.div_eq_iff (s1p _)]
    have h7 : ((p - 5) / (W + 1) + 1) * (W + 1) = (W + 1) * ((p - 5) / (W + 1)) + (W + 1) := by rw [Nat.add_mul, Nat.mul_comm, Nat.one_mul]
    omega
  have e2 : ((p - 5) + 1) % (W + 1) = 0 := by
    have dm2 := Nat.div_add_mod ((p - 5) + 1) (W + 1)
    rw [e1, Nat.mul_add] at dm2
    omega
  refine ⟨FI_ok h1 (Or.inr ⟨h5, by rw [hW]; exact hlt, by rw [hW]; exact ho⟩), ?_, ?_, ?_⟩
  · rw [if_neg (by omega), hW, e, e1]; omega
  · rw [if_neg (by omega), hW]; exact h3
  · rw [hW, e, e2]
theorem ffR_at {tx : Nat → Int32} {i p rl wd cl n : Nat} (h : FI tx i p rl wd cl) (hn : p < n) (hp : ¬ okT tx i p) : nI p = ffR tx i n := by
  rw [ffR, ffN_at h.1 hp hn, if_neg (by omega)]
theorem no_head {tx : Nat → Int32} {i p : Nat} (h5 : p < 5) (h : ¬ hdP p (tx (i + p))) : ¬ okT tx i p := by
  rintro (⟨-, q⟩ | ⟨q, -⟩)
  · exact h q
  · omega
theorem no_left {tx : Nat → Int32} {i p rl wd cl : Nat} (h : FI tx i p rl wd cl) (h5 : 5 ≤ p) (hr : rl = 0) : ¬ okT tx i p := by
  obtain ⟨-, h2, -⟩ := h
  rw [if_neg (by omega)] at h2
  rintro (⟨q, -⟩ | ⟨-, q, -⟩)
  · omega
  · rw [← Nat.div_lt_iff_lt_mul (s1p _)] at q
    omega
theorem no_row {tx : Nat → Int32} {i p rl wd cl : Nat} (h : FI tx i p rl wd cl) (h5 : 5 ≤ p) (ho : ¬ rwP cl (tx (i + p))) : ¬ okT tx i p := by
  rw [h.2.2.2] at ho
  rintro (⟨q, -⟩ | ⟨-, -, q⟩)
  · omega
  · exact ho q
theorem ffR_short {tx : Nat → Int32} {i rl wd cl n : Nat} (h : FI tx i n rl wd cl) (h5 : n < 5) : nI n = ffR tx i n := by
  rw [ffR, ffN_all h.1, if_neg (by omega)]
theorem ffR_more {tx : Nat → Int32} {i rl wd cl n : Nat} (h : FI tx i n rl wd cl) (h5 : 5 ≤ n) (hr : ¬ rl = 0) : nI n = ffR tx i n := by
  have := FI_lt h h5 hr
  rw [ffR, ffN_all h.1, if_neg (by omega)]
theorem ffR_full {tx : Nat → Int32} {i rl wd cl n : Nat} (h : FI tx i n rl wd cl) (h5 : 5 ≤ n) (hr : rl = 0) : -9 = ffR tx i n := by
  have h1 := h.1
  rw [ffR, ffN_all h.1, if_pos]
  refine ⟨rfl, h5, ?_⟩
  obtain ⟨-, h2, -⟩ := h
  rw [if_neg (by omega)] at h2
  have ge : hN (tx (i + 1)) * (hN (tx (i + 2)) + 1) ≤ n - 5 := (Nat.le_div_iff_mul_le (s1p _)).mp (by omega)
  rcases Nat.lt_or_ge 5 n with a | a
  · rcases h1 (n - 1) (by omega) with ⟨q, -⟩ | ⟨-, q, -⟩
    · omega
    · omega
  · omega
theorem ffR_9 {tx : Nat → Int32} {i n : Nat} (hn : n < 2 ^ 31) : ffR tx i n = -9 ↔ ((∀ q, q < n → okT tx i q) ∧ 5 ≤ n ∧ n = 5 + hN (tx (i + 1)) * (hN (tx (i + 2)) + 1)) := by
  have le : ∀ n, ffN (okT tx i) n ≤ n := by
    intro n
    induction n with
    | zero => exact Nat.le_refl 0
    | succ n ih =>
      rw [ffN]
      by_cases a : ffN (okT tx i) n < n
      · rw [if_pos a]; omega
      · rw [if_neg a]
        by_cases b : okT tx i n
        · rw [if_pos b]; omega
        · rw [if_neg b]; omega
  have all : ∀ n, ffN (okT tx i) n = n → ∀ q, q < n → okT tx i q := by
    intro n
    induction n with
    | zero => exact fun _ q h => absurd h (Nat.not_lt_zero q)
    | succ n ih =>
      intro h q hq
      rw [ffN] at h
      by_cases a : ffN (okT tx i) n < n
      · rw [if_pos a] at h; omega
      · rw [if_neg a] at h
        by_cases b : okT tx i n
        · have e : ffN (okT tx i) n = n := by have := le n; omega
          rcases Nat.lt_or_ge q n with c | c
          · exact ih e q c
          · rw [show q = n by omega]; exact b
        · rw [if_neg b] at h; omega
  constructor
  · intro h
    rw [ffR] at h
    by_cases a : ffN (okT tx i) n = n ∧ 5 ≤ n ∧ n = 5 + hN (tx (i + 1)) * (hN (tx (i + 2)) + 1)
    · exact ⟨all n a.1, a.2⟩
    · rw [if_neg a] at h
      have := le n
      have h3 : (nI (ffN (okT tx i) n)).toInt = -9 := by rw [h]; rfl
      rw [nI_toInt (by omega)] at h3
      omega
  · rintro ⟨h1, h2⟩
    rw [ffR, ffN_all h1, if_pos ⟨rfl, h2⟩]
/-- a digit less 48 -/
theorem dig {x : Int32} {b : Int} (hb : b ≤ 57) (h : btw x 49 b) : x - 48 = nI (hN x) ∧ 1 ≤ hN x ∧ (hN x : Int) ≤ b - 48 := by
  have e : x = nI (hN x + 48) := by
    refine Int32.toInt_inj.mp ?_
    have h1 := h.1
    have h2 := h.2
    unfold hN
    rw [nI_toInt (by omega)]
    omega
  have h1 := h.1
  have h2 := h.2
  refine ⟨?_, by unfold hN; omega, by unfold hN; omega⟩
  conv => lhs; rw [e]
  exact (pk_sub (a := hN x + 48) (b := 48) (by omega)).trans (by rw [Nat.add_sub_cancel])
theorem iinc_m1 {n : Nat} (h : 1 ≤ n) : nI n + Int32.ofInt (-1) = nI (n - 1) := by
  obtain ⟨k, rfl⟩ : ∃ k, n = k + 1 := ⟨n - 1, by omega⟩
  exact pk_m1 k
-- neighbours
theorem div_of {r w q : Nat} (h : q < w) : (r * w + q) / w = r := by
  rw [Nat.add_comm, Nat.add_mul_div_right q r (by omega), Nat.div_eq_of_lt h, Nat.zero_add]
theorem mod_of {r w q : Nat} (h : q < w) : (r * w + q) % w = q := by
  rw [Nat.add_comm, Nat.add_mul_mod_self_right, Nat.mod_eq_of_lt h]
theorem nb_0 {h w r q j : Nat} (hj : j = r * w + q) (hq : q < w) (hr : r < 5) (hw : w < 5) : (if nI r ≤ 0 then (-9) else nI j - nI w) = nbF h w j 0 := by
  have d : j / w = r := by rw [hj]; exact div_of hq
  rw [nbF, if_pos (show (0 : Nat) = 0 from rfl), d]
  by_cases a : 0 < r
  · rw [if_pos a, if_neg (nI_nle a (by omega)), pk_sub]
    rw [hj]
    have : w ≤ r * w := Nat.le_mul_of_pos_left w a
    omega
  · rw [if_neg a, if_pos]
    rw [show r = 0 by omega]
    decide
theorem nb_1 {h w r q j : Nat} (hj : j = r * w + q) (hq : q < w) (hw : w < 5) : (if nI w - 1 ≤ nI q then (-9) else nI (j + 1)) = nbF h w j 1 := by
  have m : j % w = q := by rw [hj]; exact mod_of hq
  rw [nbF, if_neg (show ¬ (1 : Nat) = 0 by decide), if_pos (show (1 : Nat) = 1 from rfl), m]
  have e : nI w - 1 = nI (w - 1) := pk_sub (b := 1) (by omega)
  rw [e]
  by_cases a : q < w - 1
  · rw [if_pos a, if_neg (nI_ge a (by omega))]
  · rw [if_neg a, if_pos (nI_le (by omega) (by omega))]
theorem nb_2 {h w r q j : Nat} (hj : j = r * w + q) (hq : q < w) (hr : r < h) (hh : h < 5) : (if nI h - 1 ≤ nI r then (-9) else nI (j + w)) = nbF h w j 2 := by
  have d : j / w = r := by rw [hj]; exact div_of hq
  rw [nbF, if_neg (show ¬ (2 : Nat) = 0 by decide), if_neg (show ¬ (2 : Nat) = 1 by decide), if_pos (show (2 : Nat) = 2 from rfl), d]
  have e : nI h - 1 = nI (h - 1) := pk_sub (b := 1) (by omega)
  rw [e]
  by_cases a : r < h - 1
  · rw [if_pos a, if_neg (nI_ge a (by omega))]
  · rw [if_neg a, if_pos (nI_le (by omega) (by omega))]
theorem nb_3 {h w r q j : Nat} (hj : j = r * w + q) (hq : q < w) (hw : w < 5) : (if nI q ≤ 0 then (-9) else nI j - 1) = nbF h w j 3 := by
  have m : j % w = q := by rw [hj]; exact mod_of hq
  rw [nbF, if_neg (show ¬ (3 : Nat) = 0 by decide), if_neg (show ¬ (3 : Nat) = 1 by decide), if_neg (show ¬ (3 : Nat) = 2 by decide), m]
  by_cases a : 0 < q
  · rw [if_pos a, if_neg (nI_nle a (by omega))]
    exact pk_sub (b := 1) (by omega)
  · rw [if_neg a, if_pos]
    rw [show q = 0 by omega]
    decide
/-- the four neighbours of cell j, laid into the table -/
def mtF (h w : Nat) (nb : Nat → Int32) (j : Nat) : Nat → Int32 := upd (upd (upd (upd nb (4 * j) (nbF h w j 0)) (4 * j + 1) (nbF h w j 1)) (4 * j + 2) (nbF h w j 2)) (4 * j + 3) (nbF h w j 3)
abbrev nbOk (h w : Nat) (nb : Nat → Int32) (n : Nat) : Prop := ∀ j, j < n → ∀ t, t < 4 → nb (4 * j + t) = nbF h w j t
theorem mtF_ok {h w j : Nat} {nb : Nat → Int32} (hn : nbOk h w nb j) : nbOk h w (mtF h w nb j) (j + 1) := by
  intro i hi t ht
  unfold mtF
  rcases Nat.lt_or_ge i j with a | a
  · rw [upd_ne _ _ (by omega), upd_ne _ _ (by omega), upd_ne _ _ (by omega), upd_ne _ _ (by omega)]
    exact hn i a t ht
  · have e : i = j := by omega
    subst e
    rcases (show t = 0 ∨ t = 1 ∨ t = 2 ∨ t = 3 by omega) with rfl | rfl | rfl | rfl
    · rw [upd_ne _ _ (by omega), upd_ne _ _ (by omega), upd_ne _ _ (by omega)]; exact upd_at _ _ _
    · rw [upd_ne _ _ (by omega), upd_ne _ _ (by omega)]; exact upd_at _ _ _
    · rw [upd_ne _ _ (by omega)]; exact upd_at _ _ _
    · exact upd_at _ _ _
/-- cell j's kind as its letter says -/
def kdT (tx : Nat → Int32) (i w j : Nat) : Int32 := kindF (tx (i + 5 + (j / w) * (w + 1) + 1 + j % w))
theorem kdT_at {tx : Nat → Int32} {i w r q : Nat} (h : q < w) : kdT tx i w (r * w + q) = kindF (tx (i + 5 + r * (w + 1) + 1 + q)) := by
  unfold kdT
  rw [div_of h, mod_of h]
theorem FI_T {tx : Nat → Int32} {i p rl wd cl : Nat} (h : FI tx i p rl wd cl) : (2 ≤ p → hN (tx (i + 1)) ≤ 4) ∧ (3 ≤ p → hN (tx (i + 2)) ≤ 4) := by
  refine ⟨fun h2 => ?_, fun h2 => ?_⟩
  · rcases h.1 1 (by omega) with ⟨-, q⟩ | ⟨q, -⟩
    · rcases q with ⟨q, -⟩ | ⟨-, q⟩ | ⟨q, -⟩ | ⟨q, -⟩ | ⟨q, -⟩
      · omega
      · have := (dig (b := 52) (by decide) q).2.2; omega
      · omega
      · omega
      · omega
    · omega
  · rcases h.1 2 (by omega) with ⟨-, q⟩ | ⟨q, -⟩
    · rcases q with ⟨q, -⟩ | ⟨q, -⟩ | ⟨-, q⟩ | ⟨q, -⟩ | ⟨q, -⟩
      · omega
      · omega
      · have := (dig (b := 52) (by decide) ⟨by have := q.1; omega, q.2⟩).2.2; omega
      · omega
      · omega
    · omega
theorem FI_rl {tx : Nat → Int32} {i p rl wd cl : Nat} (h : FI tx i p rl wd cl) : rl < 60 := by
  have t := (FI_T h).1
  have e := h.2.1
  by_cases a : p < 2
  · rw [if_pos a] at e; omega
  · rw [if_neg a] at e
    have := t (by omega)
    generalize (p - 5) / (hN (tx (i + 2)) + 1) = z at e
    omega
theorem FI_wd {tx : Nat → Int32} {i p rl wd cl : Nat} (h : FI tx i p rl wd cl) : wd < 60 := by
  have t := (FI_T h).2
  have e := h.2.2.1
  by_cases a : p < 3
  · rw [if_pos a] at e; omega
  · rw [if_neg a] at e
    have := t (by omega)
    omega
theorem FI_cl {tx : Nat → Int32} {i p rl wd cl : Nat} (h : FI tx i p rl wd cl) (hp : p < 60) : cl < 60 := by
  rw [h.2.2.2]
  exact Nat.lt_of_le_of_lt (Nat.mod_le _ _) (by omega)
theorem FI_d1 {tx : Nat → Int32} {i p rl wd cl : Nat} (_ : FI tx i p rl wd cl) (hp : p = 1) (ho : hdP p (tx (i + p))) : tx (i + p) - 48 = nI (hN (tx (i + 1))) := by
  subst hp
  rcases ho with ⟨q, -⟩ | ⟨-, q⟩ | ⟨q, -⟩ | ⟨q, -⟩ | ⟨q, -⟩
  · omega
  · exact (dig (b := 52) (by decide) q).1
  · omega
  · omega
  · omega
theorem FI_d2 {tx : Nat → Int32} {i p rl wd cl : Nat} (_ : FI tx i p rl wd cl) (hp : p = 2) (ho : hdP p (tx (i + p))) : tx (i + p) - 48 = nI (hN (tx (i + 2))) := by
  subst hp
  rcases ho with ⟨q, -⟩ | ⟨q, -⟩ | ⟨-, q⟩ | ⟨q, -⟩ | ⟨q, -⟩
  · omega
  · omega
  · exact (dig (b := 52) (by decide) ⟨by have := q.1; omega, q.2⟩).1
  · omega
  · omega
/-! ===== paths ===== -/
abbrev stP (tx : Nat → Int32) (i n : Nat) : Prop := ∀ k, k < n → inN (tx (i + k)) 4
def pthR (h w : Nat) (tx : Nat → Int32) (i : Nat) : Nat → Nat → Int32 → Int32 → Int32 × Int32 × Int32
  | 0, _, p, lf => (p, lf, -9)
  | m + 1, k, p, lf => if inS lf (nbF h w p.toNatClampNeg (tx (i + k)).toNatClampNeg) then pthR h w tx i m (k + 1) (nbF h w p.toNatClampNeg (tx (i + k)).toNatClampNeg) (wo lf (nbF h w p.toNatClampNeg (tx (i + k)).toNatClampNeg)) else (p, lf, nI k)
def folR (e lf wr rip pc : Int32) (kd et : Nat → Int32) (ws : Int32) (n : Nat) (v : Int32) : Int32 := if v = 1 then wr else if wr = -9 then (if v = 0 then e else if v = 2 then rip &&& (lf ^^^ (-1)) else csum (rip &&& (lf ^^^ (-1))) pc kd et ws n) else (-100) - wr
theorem n9 {k : Nat} (h : k < 2 ^ 31) : ¬ nI k = -9 := by
  intro e
  have h2 : (nI k).toInt = -9 := by rw [e]; rfl
  rw [nI_toInt h] at h2
  omega
theorem pth_t {h w i n k : Nat} {tx : Nat → Int32} {p lf wr : Int32} {F : Int32 × Int32 × Int32} (hk : k < n) (hw : wr = -9) (hF : (wr = -9 ∧ pthR h w tx i (n - k) k p lf = F) ∨ (¬ wr = -9 ∧ (p, lf, wr) = F)) (hi : inS lf (nbF h w p.toNatClampNeg (tx (i + k)).toNatClampNeg)) : (wr = -9 ∧ pthR h w tx i (n - (k + 1)) (k + 1) (nbF h w p.toNatClampNeg (tx (i + k)).toNatClampNeg) (wo lf (nbF h w p.toNatClampNeg (tx (i + k)).toNatClampNeg)) = F) ∨ (¬ wr = -9 ∧ (nbF h w p.toNatClampNeg (tx (i + k)).toNatClampNeg, wo lf (nbF h w p.toNatClampNeg (tx (i + k)).toNatClampNeg), wr) = F) := by
  rcases hF with ⟨-, a⟩ | ⟨a, -⟩
  · refine Or.inl ⟨hw, ?_⟩
    rw [show n - k = (n - (k + 1)) + 1 by omega, pthR, if_pos hi] at a
    exact a
  · exact absurd hw a
theorem pth_f {h w i n k : Nat} {tx : Nat → Int32} {p lf wr : Int32} {F : Int32 × Int32 × Int32} (hk : k < n) (hn : n ≤ 60) (hw : wr = -9) (hF : (wr = -9 ∧ pthR h w tx i (n - k) k p lf = F) ∨ (¬ wr = -9 ∧ (p, lf, wr) = F)) (hi : ¬ inS lf (nbF h w p.toNatClampNeg (tx (i + k)).toNatClampNeg)) : (nI k = -9 ∧ pthR h w tx i (n - (k + 1)) (k + 1) p lf = F) ∨ (¬ nI k = -9 ∧ (p, lf, nI k) = F) := by
  rcases hF with ⟨-, a⟩ | ⟨a, -⟩
  · refine Or.inr ⟨n9 (by omega), ?_⟩
    rw [show n - k = (n - (k + 1)) + 1 by omega, pthR, if_neg hi] at a
    exact a
  · exact absurd hw a
theorem pth_end {h w i n k : Nat} {tx : Nat → Int32} {p lf wr : Int32} {F : Int32 × Int32 × Int32} (hF : (wr = -9 ∧ pthR h w tx i (n - k) k p lf = F) ∨ (¬ wr = -9 ∧ (p, lf, wr) = F)) (hq : n ≤ k ∨ ¬ wr = -9) : (p, lf, wr) = F := by
  rcases hF with ⟨b, a⟩ | ⟨-, a⟩
  · rcases hq with c | c
    · rw [show n - k = 0 by omega, pthR] at a
      rw [b]; exact a
    · exact absurd b c
  · exact a
theorem nbF_rng {h w j : Nat} (t : Nat) (hj : j < h * w) (h16 : h * w ≤ 16) : nbF h w j t = -9 ∨ ∃ k, k < h * w ∧ nbF h w j t = nI k := by
  have hw : 0 < w := Nat.pos_of_ne_zero (fun z => by rw [z, Nat.mul_zero] at hj; omega)
  have dm := Nat.div_add_mod j w
  have ml := Nat.mod_lt j hw
  have dl : j / w < h := (Nat.div_lt_iff_lt_mul hw).mpr hj
  have hm := Nat.mul_le_mul_left w (show j / w + 1 ≤ h by omega)
  rw [Nat.mul_add, Nat.mul_one, Nat.mul_comm w h] at hm
  unfold nbF
  by_cases t0 : t = 0
  · rw [if_pos t0]
    by_cases a : 0 < j / w
    · rw [if_pos a]; exact Or.inr ⟨j - w, by omega, rfl⟩
    · rw [if_neg a]; exact Or.inl rfl
  · rw [if_neg t0]
    by_cases t1 : t = 1
    · rw [if_pos t1]
      by_cases a : j % w < w - 1
      · rw [if_pos a]; exact Or.inr ⟨j + 1, by omega, rfl⟩
      · rw [if_neg a]; exact Or.inl rfl
    · rw [if_neg t1]
      by_cases t2 : t = 2
      · rw [if_pos t2]
        by_cases a : j / w < h - 1
        · rw [if_pos a]
          have hm2 := Nat.mul_le_mul_left w (show j / w + 2 ≤ h by generalize j / w = z at a; omega)
          rw [Nat.mul_add, Nat.mul_comm w h] at hm2
          exact Or.inr ⟨j + w, by omega, rfl⟩
        · rw [if_neg a]; exact Or.inl rfl
      · rw [if_neg t2]
        by_cases a : 0 < j % w
        · rw [if_pos a]; exact Or.inr ⟨j - 1, by omega, rfl⟩
        · rw [if_neg a]; exact Or.inl rfl
theorem nbF_in {h w j t : Nat} {lf : Int32} (hj : j < h * w) (h16 : h * w ≤ 16) (hi : inS lf (nbF h w j t)) : inN (nbF h w j t) (h * w) := by
  rcases nbF_rng t hj h16 with a | ⟨k, a, b⟩
  · have := hi.1
    rw [a] at this
    exact absurd this (by decide)
  · rw [b]
    exact nI_inN a (by omega)
