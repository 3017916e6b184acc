/-! ===== the model's searches: a stack of (place, next stroke, share), the newest first ===== -/
abbrev Fm := Nat × Nat × Nat
def SSl : List Fm → Int32
  | [] => 0
  | (p, _, _) :: r => SSl r ||| bi (nI p)
def dpF : List Fm → Int32
  | [] => -1
  | _ :: r => nI r.length
def RPl (pl nx : Nat → Int32) : List Fm → Prop
  | [] => True
  | (p, t, _) :: r => pl r.length = nI p ∧ nx r.length = nI t ∧ RPl pl nx r
def VSl (n : Nat) (u : Int32) : List Fm → Prop
  | [] => True
  | (p, t, _) :: r => p < n ∧ t ≤ 4 ∧ inS u (nI p) ∧ ¬ inS (SSl r) (nI p) ∧ VSl n u r
def TDl (td : Nat → Int32) : List Fm → Prop
  | [] => True
  | (_, t, _) :: r => 1 ≤ t ∧ td r.length = nI (t - 1) ∧ TDl td r
def mrF : List Fm → Nat
  | [] => 0
  | (_, t, _) :: r => (4 - t) * 8 ^ (16 - r.length) + 1 + mrF r
theorem up_ne {f : Nat → Int32} {k j : Nat} (x : Int32) (h : ¬ j = k) : upd f k x j = f j := by unfold upd; rw [if_neg h]
theorem up_eq (f : Nat → Int32) (k : Nat) (x : Int32) : upd f k x k = x := by unfold upd; rw [if_pos rfl]
theorem RP_pl {pl nx : Nat → Int32} {k : Nat} (x : Int32) : ∀ {st : List Fm}, RPl pl nx st → st.length ≤ k → RPl (upd pl k x) nx st
  | [], _, _ => trivial
  | (_, _, _) :: r, h, hk => by
    have hk' : r.length + 1 ≤ k := hk
    exact ⟨by rw [up_ne x (by omega)]; exact h.1, h.2.1, RP_pl x h.2.2 (by omega)⟩
theorem RP_nx {pl nx : Nat → Int32} {k : Nat} (x : Int32) : ∀ {st : List Fm}, RPl pl nx st → st.length ≤ k → RPl pl (upd nx k x) st
  | [], _, _ => trivial
  | (_, _, _) :: r, h, hk => by
    have hk' : r.length + 1 ≤ k := hk
    exact ⟨h.1, by rw [up_ne x (by omega)]; exact h.2.1, RP_nx x h.2.2 (by omega)⟩
theorem TD_up {td : Nat → Int32} {k : Nat} (x : Int32) : ∀ {st : List Fm}, TDl td st → st.length ≤ k → TDl (upd td k x) st
  | [], _, _ => trivial
  | (_, _, _) :: r, h, hk => by
    have hk' : r.length + 1 ≤ k := hk
    exact ⟨h.1, by rw [up_ne x (by omega)]; exact h.2.1, TD_up x h.2.2 (by omega)⟩
theorem TD_nx {pl nx td : Nat → Int32} : ∀ {st : List Fm}, RPl pl nx st → TDl td st → ∀ z, z < st.length → nx z - 1 = td z
  | [], _, _, z, hz => absurd hz (Nat.not_lt_zero z)
  | (_, t, _) :: r, h, hd, z, hz => by
    have hz' : z < r.length + 1 := hz
    by_cases a : z = r.length
    · rw [a, h.2.1, hd.2.1]
      exact pk_sub (a := t) (b := 1) hd.1
    · exact TD_nx h.2.2 hd.2.2 z (by omega)
theorem fil_cong {f f' g : Nat → Int32} {n : Nat} (h : ∀ z, z < n → f z = f' z) : fil f g n = fil f' g n := by
  funext z
  unfold fil
  by_cases a : z < n
  · rw [if_pos a, if_pos a, h z a]
  · rw [if_neg a, if_neg a]
theorem ss_1 {j : Nat} {c : Int32} (e : c = nI j) : bi c = SSl [(j, 0, 0)] := by
  subst e
  exact (Int32.zero_or).symm
theorem ss_1' {j : Nat} {c : Int32} (s : Nat) (e : c = nI j) : bi c = SSl [(j, 0, s)] := by
  subst e
  exact (Int32.zero_or).symm
theorem ss_pop {p t s : Nat} {r : List Fm} (hp : p < 32) (h : ¬ inS (SSl r) (nI p)) : SSl ((p, t, s) :: r) &&& (bi (nI p) ^^^ (-1)) = SSl r := by
  refine b32_ext (fun i hi => ?_)
  have hb : (SSl r).toBitVec.getLsbD p = false := by
    cases e : (SSl r).toBitVec.getLsbD p
    · rfl
    · exact absurd ((inS_bit hp).mpr e) h
  rw [b32_and, b32_not _ hi, show SSl ((p, t, s) :: r) = SSl r ||| bi (nI p) from rfl, b32_or, bi_bit p hp i hi]
  by_cases a : i = p
  · rw [a, hb]; simp
  · rw [decide_eq_false a]; simp
theorem ss_push {p t s s' t' : Nat} {r : List Fm} {T : Int32} (hT : T = nI T.toNatClampNeg) : SSl ((p, t, s) :: r) ||| bi T = SSl ((T.toNatClampNeg, 0, s') :: (p, t', s) :: r) := by
  show _ = (SSl r ||| bi (nI p)) ||| bi (nI T.toNatClampNeg)
  rw [← hT]
  rfl
def cB (s : Int32) : Nat → Nat
  | 0 => 0
  | n + 1 => cB s n + (if s.toBitVec.getLsbD n = true then 1 else 0)
theorem cB_le (s : Int32) : ∀ n, cB s n ≤ n
  | 0 => Nat.le_refl 0
  | n + 1 => by
    have ih := cB_le s n
    rw [cB]
    split <;> omega
theorem cB_or {s : Int32} {j : Nat} (hj : j < 32) (h : ¬ s.toBitVec.getLsbD j = true) : ∀ n, n ≤ 32 → cB (s ||| bi (nI j)) n = cB s n + (if j < n then 1 else 0)
  | 0, _ => by rw [if_neg (Nat.not_lt_zero j)]; rfl
  | n + 1, hn => by
    have ih := cB_or hj h n (by omega)
    rw [cB, cB, ih, b32_or, bi_bit j hj n (by omega)]
    by_cases a : n = j
    · subst a
      rw [if_neg (Nat.lt_irrefl n), decide_eq_true rfl, Bool.or_true, if_pos rfl, if_neg h, if_pos (by omega)]
    · rw [decide_eq_false a, Bool.or_false]
      by_cases b : j < n
      · rw [if_pos b, if_pos (show j < n + 1 by omega)]
        omega
      · rw [if_neg b, if_neg (show ¬ j < n + 1 by omega), Nat.add_zero, Nat.add_zero]
theorem VS_cnt {n : Nat} {u : Int32} (hn : n ≤ 16) : ∀ {st : List Fm}, VSl n u st → cB (SSl st) 16 = st.length
  | [], _ => by decide +kernel
  | (p, t, s) :: r, h => by
    have ih := VS_cnt hn h.2.2.2.2
    have hp := h.1
    have hb : ¬ (SSl r).toBitVec.getLsbD p = true := fun z => h.2.2.2.1 ((inS_bit (by omega)).mpr z)
    show cB (SSl r ||| bi (nI p)) 16 = r.length + 1
    rw [cB_or (by omega) hb 16 (by decide), ih, if_pos (by omega)]
theorem VS_len {n : Nat} {u : Int32} (hn : n ≤ 16) {st : List Fm} (h : VSl n u st) : st.length ≤ 16 := by
  have := cB_le (SSl st) 16
  rw [VS_cnt hn h] at this
  exact this
theorem VS_sub {n : Nat} {u : Int32} (hn : n ≤ 16) : ∀ {st : List Fm}, VSl n u st → SSl st &&& u = SSl st
  | [], _ => by
    show (0 : Int32) &&& u = 0
    exact Int32.zero_and
  | (p, t, s) :: r, h => by
    have hp := h.1
    exact bs_or (VS_sub hn h.2.2.2.2) (bi_sub0 (nI_inN (by omega) (by decide)) h.2.2.1)
theorem VS_next {n p t s t' : Nat} {u : Int32} {r : List Fm} (h : VSl n u ((p, t, s) :: r)) (ht : t' ≤ 4) : VSl n u ((p, t', s) :: r) := ⟨h.1, ht, h.2.2⟩
/-- what a member of the rest tells -/
theorem lf_mem {u x T : Int32} {n : Nat} (hn : n ≤ 16) (hT : inN T n) (h : inS (u &&& (x ^^^ (-1))) T) : inS u (nI T.toNatClampNeg) ∧ ¬ inS x (nI T.toNatClampNeg) := by
  have e := hT.eq
  have l := hT.lt
  generalize T.toNatClampNeg = j at e l ⊢
  subst e
  have b := (inS_bit (by omega)).mp h
  rw [b32_and, b32_not _ (by omega)] at b
  rw [inS_bit (by omega), inS_bit (by omega)]
  revert b
  cases u.toBitVec.getLsbD j <;> cases x.toBitVec.getLsbD j <;> simp
theorem VS_push {n p t t' s s' : Nat} {u T : Int32} {r : List Fm} (hn : n ≤ 16) (h : VSl n u ((p, t, s) :: r)) (ht : t' ≤ 4) (hT : inN T n) (hi : inS (u &&& (SSl ((p, t, s) :: r) ^^^ (-1))) T) : VSl n u ((T.toNatClampNeg, 0, s') :: (p, t', s) :: r) :=
  ⟨hT.lt, Nat.zero_le 4, (lf_mem hn hT hi).1, (lf_mem hn hT hi).2, VS_next h ht⟩
theorem VS_14 {n p t t' s s' : Nat} {u T : Int32} {r : List Fm} (hn : n ≤ 16) (h : VSl n u ((p, t, s) :: r)) (ht : t' ≤ 4) (hT : inN T n) (hi : inS (u &&& (SSl ((p, t, s) :: r) ^^^ (-1))) T) : r.length ≤ 14 := by
  have z : r.length + 1 + 1 ≤ 16 := VS_len hn (VS_push (s' := s') hn h ht hT hi)
  omega
theorem mr_skip {p t s : Nat} {r : List Fm} (ht : t ≤ 3) : mrF ((p, t + 1, s) :: r) < mrF ((p, t, s) :: r) := by
  show (4 - (t + 1)) * 8 ^ (16 - r.length) + 1 + mrF r < (4 - t) * 8 ^ (16 - r.length) + 1 + mrF r
  have e : (4 - t) = (4 - (t + 1)) + 1 := by omega
  rw [e, Nat.add_one_mul]
  have := Nat.pow_pos (n := 16 - r.length) (show 0 < 8 by decide)
  omega
theorem mr_pop {p t s : Nat} {r : List Fm} : mrF r < mrF ((p, t, s) :: r) := by
  show mrF r < (4 - t) * 8 ^ (16 - r.length) + 1 + mrF r
  generalize (4 - t) * 8 ^ (16 - r.length) = z
  omega
theorem mr_push {p t s q s' : Nat} {r : List Fm} (ht : t ≤ 3) (hl : r.length ≤ 14) : mrF ((q, 0, s') :: (p, t + 1, s) :: r) < mrF ((p, t, s) :: r) := by
  show (4 - 0) * 8 ^ (16 - (r.length + 1)) + 1 + ((4 - (t + 1)) * 8 ^ (16 - r.length) + 1 + mrF r) < (4 - t) * 8 ^ (16 - r.length) + 1 + mrF r
  have e : (4 - t) = (4 - (t + 1)) + 1 := by omega
  have e2 : 16 - r.length = (16 - (r.length + 1)) + 1 := by omega
  rw [e, Nat.add_one_mul (4 - (t + 1)), e2, Nat.pow_succ]
  have := Nat.pow_pos (n := 16 - (r.length + 1)) (show 0 < 8 by decide)
  generalize 8 ^ (16 - (r.length + 1)) = K at this ⊢
  generalize (4 - (t + 1)) * (K * 8) = z
  omega
/-! fleeces -/
def lqF (rec : Nat → Int32 → Sg → Sg) (h w g s j : Nat) (lf : Int32) : Nat → Sg → Sg
  | 0, q => q
  | n + 1, q => lqF rec h w g s j lf n (stF rec h w g s j lf (3 - n) q)
def frF (h w g k t j : Nat) (lf : Int32) (q : Sg) : Sg := if k ≤ 14 then lqF (dfF h w g (14 - k) (k + 2)) h w g (k + 1) j lf (4 - t) q else q
def chF (h w g : Nat) (u : Int32) : List Fm → Sg → Sg
  | [], q => q
  | (p, t, s) :: r, q => chF h w g u r (frF h w g r.length t p (u &&& (SSl ((p, t, s) :: r) ^^^ (-1))) q)
theorem fr_done (h w g k j : Nat) (lf : Int32) (q : Sg) : frF h w g k 4 j lf q = q := by
  unfold frF
  by_cases a : k ≤ 14
  · rw [if_pos a]; rfl
  · rw [if_neg a]
theorem fr_one {h w g k t j : Nat} {lf : Int32} {q : Sg} (hk : k ≤ 14) (ht : t ≤ 3) : frF h w g k t j lf q = frF h w g k (t + 1) j lf (stF (dfF h w g (14 - k) (k + 2)) h w g (k + 1) j lf t q) := by
  unfold frF
  rw [if_pos hk, if_pos hk, show 4 - t = (4 - (t + 1)) + 1 by omega, lqF, show 3 - (4 - (t + 1)) = t by omega]
theorem fr_skip {h w g k t j : Nat} {lf : Int32} {q : Sg} (ht : t ≤ 3) (hi : ¬ inS lf (nbF h w j t)) : frF h w g k t j lf q = frF h w g k (t + 1) j lf q := by
  by_cases a : k ≤ 14
  · rw [fr_one a ht, stF, if_neg (fun z => hi z.2)]
  · unfold frF
    rw [if_neg a, if_neg a]
theorem lq_stop {rec : Nat → Int32 → Sg → Sg} {h w g s j : Nat} {lf : Int32} {q : Sg} (hq : ¬ q.1 < g) : ∀ n, lqF rec h w g s j lf n q = q
  | 0 => rfl
  | n + 1 => by rw [lqF, stF, if_neg (fun z => hq z.1), lq_stop hq n]
theorem ch_stop {h w g : Nat} {u : Int32} {q : Sg} (hq : ¬ q.1 < g) : ∀ st, chF h w g u st q = q
  | [] => rfl
  | (p, t, s) :: r => by
    have e : frF h w g r.length t p (u &&& (SSl ((p, t, s) :: r) ^^^ (-1))) q = q := by
      unfold frF
      by_cases a : r.length ≤ 14
      · rw [if_pos a, lq_stop hq]
      · rw [if_neg a]
    rw [chF, e, ch_stop hq r]
theorem df_fr {h w g k j : Nat} {lf : Int32} {q : Sg} (hk : k ≤ 14) : dfF h w g (14 - k) (k + 2) j lf q = frF h w g (k + 1) 0 j lf (kpF (k + 2) q) := by
  by_cases a : k = 14
  · subst a
    rfl
  · unfold frF
    rw [if_pos (by omega), show 14 - k = (14 - (k + 1)) + 1 by omega]
    rfl
theorem ch_pop {h w g p s : Nat} {u : Int32} {r : List Fm} {q : Sg} : chF h w g u ((p, 4, s) :: r) q = chF h w g u r q := by rw [chF, fr_done]
theorem ch_skip {h w g p t s : Nat} {u : Int32} {r : List Fm} {q : Sg} (ht : t ≤ 3) (hi : ¬ inS (u &&& (SSl ((p, t, s) :: r) ^^^ (-1))) (nbF h w p t)) : chF h w g u ((p, t + 1, s) :: r) q = chF h w g u ((p, t, s) :: r) q := by
  show chF h w g u r (frF h w g r.length (t + 1) p (u &&& (SSl ((p, t, s) :: r) ^^^ (-1))) q) = chF h w g u r (frF h w g r.length t p (u &&& (SSl ((p, t, s) :: r) ^^^ (-1))) q)
  rw [fr_skip ht hi]
theorem ch_push {h w g p t s s' : Nat} {u : Int32} {r : List Fm} {mo : Nat} {rb td : Nat → Int32} (hl : r.length ≤ 14) (ht : t ≤ 3) (hm : mo < g) (hT : nbF h w p t = nI (nbF h w p t).toNatClampNeg) (hi : inS (u &&& (SSl ((p, t, s) :: r) ^^^ (-1))) (nbF h w p t)) :
    chF h w g u (((nbF h w p t).toNatClampNeg, 0, s') :: (p, t + 1, s) :: r) (kpF (r.length + 2) (mo, rb, upd td r.length (nI t))) = chF h w g u ((p, t, s) :: r) (mo, rb, td) := by
  show chF h w g u r (frF h w g r.length (t + 1) p (u &&& (SSl ((p, t, s) :: r) ^^^ (-1))) (frF h w g (r.length + 1) 0 (nbF h w p t).toNatClampNeg (u &&& (SSl (((nbF h w p t).toNatClampNeg, 0, s') :: (p, t + 1, s) :: r) ^^^ (-1))) (kpF (r.length + 2) (mo, rb, upd td r.length (nI t))))) = chF h w g u r (frF h w g r.length t p (u &&& (SSl ((p, t, s) :: r) ^^^ (-1))) (mo, rb, td))
  rw [fr_one hl ht, stF, if_pos ⟨hm, hi⟩, df_fr hl, bs_wo]
  rw [← ss_push (p := p) (t := t) (s := s) (s' := s') (t' := t + 1) (r := r) hT]
  rfl
theorem kp_y {s mo : Nat} {rb td : Nat → Int32} (h : mo < s) : kpF s (mo, rb, td) = (s, fil td rb (s - 1), td) := if_pos h
theorem kp_n {s mo : Nat} {rb td : Nat → Int32} (h : ¬ mo < s) : kpF s (mo, rb, td) = (mo, rb, td) := if_neg h
theorem ch_0 {h w g j : Nat} {u : Int32} {rb td : Nat → Int32} : chF h w g u [(j, 0, 0)] (1, rb, td) = dfF h w g 15 1 j (wo u (nI j)) (0, rb, td) := by
  show frF h w g 0 0 j (u &&& ((0 ||| bi (nI j)) ^^^ (-1))) (1, rb, td) = lpF (dfF h w g 14 2) h w g 1 j (wo u (nI j)) 4 (kpF 1 (0, rb, td))
  rw [kp_y (by decide), Int32.zero_or]
  show _ = lpF (dfF h w g 14 2) h w g 1 j (wo u (nI j)) 4 (1, fil td rb 0, td)
  rw [fil_0]
  rfl
theorem dp_nil : ∀ {st : List Fm}, st.length ≤ 16 → dpF st < 0 → st = []
  | [], _, _ => rfl
  | (_, _, _) :: r, h, hz => by
    have h' : r.length + 1 ≤ 16 := h
    exact absurd hz (nI_nn (by omega))
theorem dp_pop : ∀ r : List Fm, nI r.length + Int32.ofInt (-1) = dpF r
  | [] => by decide
  | (_, _, _) :: r => iinc_m1 (n := r.length + 1) (by omega)
theorem TD_tail {td : Nat → Int32} : ∀ {st : List Fm}, TDl td st → TDl td st.tail
  | [], _ => trivial
  | (_, _, _) :: _, h => h.2.2
