/-! ===== fleeces: the search, depth by depth; (most, best row, tried row) ===== -/
abbrev Sg := Nat × (Nat → Int32) × (Nat → Int32)
def kpF (s : Nat) (q : Sg) : Sg := if q.1 < s then (s, fil q.2.2 q.2.1 (s - 1), q.2.2) else q
def stF (rec : Nat → Int32 → Sg → Sg) (h w g s j : Nat) (lf : Int32) (t : Nat) (q : Sg) : Sg := if q.1 < g ∧ inS lf (nbF h w j t) then rec (nbF h w j t).toNatClampNeg (wo lf (nbF h w j t)) (q.1, q.2.1, upd q.2.2 (s - 1) (nI t)) else q
def lpF (rec : Nat → Int32 → Sg → Sg) (h w g s j : Nat) (lf : Int32) : Nat → Sg → Sg
  | 0, q => q
  | t + 1, q => stF rec h w g s j lf t (lpF rec h w g s j lf t q)
def dfF (h w g : Nat) : Nat → Nat → Nat → Int32 → Sg → Sg
  | 0, s, _, _, q => kpF s q
  | d + 1, s, j, lf, q => lpF (dfF h w g d (s + 1)) h w g s j lf 4 (kpF s q)
theorem lp_stop {rec : Nat → Int32 → Sg → Sg} {h w g s j t : Nat} {lf : Int32} {q0 q : Sg} (e : lpF rec h w g s j lf t q0 = q) (hq : ¬ q.1 < g) : ∀ u, t ≤ u → lpF rec h w g s j lf u q0 = q := by
  intro u
  induction u with
  | zero => intro hu; rw [show t = 0 by omega] at e; exact e
  | succ u ih =>
    intro hu
    rcases Nat.lt_or_ge u t with a | a
    · rw [show u + 1 = t by omega]; exact e
    · rw [lpF, ih a, stF, if_neg (fun z => hq z.1)]
theorem kpF_le {s : Nat} {q : Sg} (hs : s ≤ 16) (h : q.1 ≤ 16) : (kpF s q).1 ≤ 16 := by
  unfold kpF
  by_cases a : q.1 < s
  · rw [if_pos a]; exact hs
  · rw [if_neg a]; exact h
theorem dfF_le {h w g : Nat} : ∀ (d s j : Nat) (lf : Int32) (q : Sg), s + d ≤ 16 → q.1 ≤ 16 → (dfF h w g d s j lf q).1 ≤ 16
  | 0, s, _, _, q, hs, hq => kpF_le (by omega) hq
  | d + 1, s, j, lf, q, hs, hq => by
    have key : ∀ t, (lpF (dfF h w g d (s + 1)) h w g s j lf t (kpF s q)).1 ≤ 16 := by
      intro t
      induction t with
      | zero => exact kpF_le (by omega) hq
      | succ t ih =>
        rw [lpF, stF]
        by_cases a : (lpF (dfF h w g d (s + 1)) h w g s j lf t (kpF s q)).1 < g ∧ inS lf (nbF h w j t)
        · rw [if_pos a]; exact dfF_le d (s + 1) _ _ _ (by omega) ih
        · rw [if_neg a]; exact ih
    exact key 4
def eqS (n : Nat) (q r : Sg) : Prop := q.1 = r.1 ∧ (∀ k, k + 1 < q.1 → q.2.1 k = r.2.1 k) ∧ ∀ k, k < n → q.2.2 k = r.2.2 k
theorem kpF_eq {s : Nat} {q r : Sg} (e : eqS (s - 1) q r) : eqS (s - 1) (kpF s q) (kpF s r) := by
  obtain ⟨e1, e2, e3⟩ := e
  unfold kpF
  rw [← e1]
  by_cases a : q.1 < s
  · rw [if_pos a, if_pos a]
    refine ⟨rfl, fun k hk => ?_, e3⟩
    have hk : k + 1 < s := hk
    show fil q.2.2 q.2.1 (s - 1) k = fil r.2.2 r.2.1 (s - 1) k
    rw [fil_in (by omega), fil_in (by omega)]
    exact e3 k (by omega)
  · rw [if_neg a, if_neg a]
    exact ⟨e1, e2, e3⟩
theorem dfF_eq {h w g : Nat} : ∀ (d s j : Nat) (lf : Int32) (q r : Sg), 1 ≤ s → eqS (s - 1) q r → eqS (s - 1) (dfF h w g d s j lf q) (dfF h w g d s j lf r)
  | 0, s, _, _, q, r, _, e => kpF_eq e
  | d + 1, s, j, lf, q, r, hs, e => by
    have key : ∀ t, eqS (s - 1) (lpF (dfF h w g d (s + 1)) h w g s j lf t (kpF s q)) (lpF (dfF h w g d (s + 1)) h w g s j lf t (kpF s r)) := by
      intro t
      induction t with
      | zero => exact kpF_eq e
      | succ t ih =>
        rw [lpF, lpF]
        generalize lpF (dfF h w g d (s + 1)) h w g s j lf t (kpF s q) = q' at ih ⊢
        generalize lpF (dfF h w g d (s + 1)) h w g s j lf t (kpF s r) = r' at ih ⊢
        obtain ⟨e1, e2, e3⟩ := ih
        unfold stF
        rw [← e1]
        by_cases a : q'.1 < g ∧ inS lf (nbF h w j t)
        · rw [if_pos a, if_pos a]
          have z := dfF_eq (h := h) (w := w) (g := g) d (s + 1) (nbF h w j t).toNatClampNeg (wo lf (nbF h w j t)) (q'.1, q'.2.1, upd q'.2.2 (s - 1) (nI t)) (q'.1, r'.2.1, upd r'.2.2 (s - 1) (nI t)) (by omega) ⟨rfl, e2, fun k hk => by
            show upd q'.2.2 (s - 1) (nI t) k = upd r'.2.2 (s - 1) (nI t) k
            by_cases b : k = s - 1
            · rw [b, upd_at, upd_at]
            · rw [upd_ne _ _ b, upd_ne _ _ b]
              exact e3 k (by omega)⟩
          exact ⟨z.1, z.2.1, fun k hk => z.2.2 k (by omega)⟩
        · rw [if_neg a, if_neg a]
          exact ⟨e1, e2, e3⟩
    exact key 4
/-- the fleece from cell j over a set: how many cells; its row -/
def flF (h w j : Nat) (rip : Int32) : Sg := dfF h w (popN 16 (sN rip)) 15 1 j (wo rip (nI j)) (0, fun _ => 0, fun _ => 0)
def msF (h w j : Nat) (rip : Int32) : Nat := (flF h w j rip).1
theorem flF_eq (h w j : Nat) (rip : Int32) (bs td : Nat → Int32) : eqS 0 (dfF h w (popN 16 (sN rip)) 15 1 j (wo rip (nI j)) (0, bs, td)) (flF h w j rip) :=
  dfF_eq 15 1 j _ _ _ (by decide) ⟨rfl, fun k hk => absurd hk (Nat.not_lt_zero _), fun k hk => absurd hk (Nat.not_lt_zero _)⟩
theorem msF_le (h w j : Nat) (rip : Int32) : msF h w j rip ≤ 16 := dfF_le 15 1 _ _ _ (by decide) (by decide)
theorem popN_le : ∀ n v, popN n v ≤ n
  | 0, _ => Nat.le_refl 0
  | n + 1, v => by
    have := popN_le n (v / 2)
    rw [popN]
    omega
-- the calls
def fleR (n : Nat) (pc br : Int32) (kd et : Nat → Int32) (h w : Nat) (ws c k : Int32) : Int32 := if inN c n then (if inN ws 10 ∧ btw k (-1) 14 then (if ripP pc br (kd c.toNatClampNeg) (et c.toNatClampNeg) ws then (if k = -1 then nI (msF h w c.toNatClampNeg (ripS pc br kd et ws n)) else if k.toInt + 1 < msF h w c.toNatClampNeg (ripS pc br kd et ws n) then (flF h w c.toNatClampNeg (ripS pc br kd et ws n)).2.1 k.toNatClampNeg else -9) else -3) else -2) else -1
def staF (h w : Nat) (rip : Int32) : Nat → Nat × Int32
  | 0 => (0, -9)
  | n + 1 => if (staF h w rip n).1 < (if inS rip (nI n) then msF h w n rip else 0) then (if inS rip (nI n) then msF h w n rip else 0, nI n) else staF h w rip n
def staR (h n : Nat) (pc br : Int32) (kd et : Nat → Int32) (w : Nat) (ws : Int32) : Int32 := if h = 0 then -3 else if inN ws 10 then (staF h w (ripS pc br kd et ws n) n).2 else -2
abbrev allS (h w n : Nat) (kd : Nat → Int32) (j : Nat) : Prop := msF h w j (sofS kd n) = popN 16 (sN (sofS kd n))
abbrev whP (h w n : Nat) (pc br : Int32) (kd et : Nat → Int32) (j k : Nat) : Prop := ripS pc br kd et (nI k) n = sofS kd n ∧ allS h w n kd j
def whoR (h w n : Nat) (pc br : Int32) (kd et : Nat → Int32) (c : Int32) : Int32 := if softP n kd c then (if ffN (fun k => ¬ whP h w n pc br kd et c.toNatClampNeg k) 10 < 10 then nI (ffN (fun k => ¬ whP h w n pc br kd et c.toNatClampNeg k) 10) else -9) else -1
abbrev cbP (h w n : Nat) (pc br : Int32) (kd et : Nat → Int32) (ws : Int32) : Prop := ripS pc br kd et ws n = sofS kd n ∧ ¬ ∀ c, c < n → ¬ (¬ kd c = 3 ∧ allS h w n kd c)
abbrev spR (h w n : Nat) (pc br : Int32) (kd et : Nat → Int32) (ws : Int32) (c : Nat) : Prop := kd c = 3 ∧ cbP h w n pc br (upd kd c 0) et ws
def stoR (h w n : Nat) (pc br : Int32) (kd et : Nat → Int32) (ws : Int32) : Int32 := if h = 0 then -3 else if inN ws 10 then (if cbP h w n pc br kd et ws then -9 else if ffN (fun c => ¬ spR h w n pc br kd et ws c) n < n then nI (ffN (fun c => ¬ spR h w n pc br kd et ws c) n) else -9) else -2
/-! small sets -/
abbrev sm (s : Int32) : Prop := sN s < 65536
theorem sN_or (a b : Nat) : nI a ||| nI b = nI (a ||| b) := by
  apply Int32.toBitVec_inj.1
  show BitVec.ofNat 32 a ||| BitVec.ofNat 32 b = BitVec.ofNat 32 (a ||| b)
  apply BitVec.eq_of_getLsbD_eq
  intro i hi
  simp [hi]
theorem sm_nI {v : Nat} (h : v < 65536) : sm (nI v) := by
  show sN (nI v) < 65536
  rw [sN_nI (by omega)]; exact h
theorem sm_or {s t : Int32} (hs : sm s) (ht : sm t) : sm (s ||| t) := by
  have hs : sN s < 65536 := hs
  have ht : sN t < 65536 := ht
  rw [sN_eq s, sN_eq t, sN_or]
  exact sm_nI (Nat.or_lt_two_pow (n := 16) hs ht)
theorem sm_and {s : Int32} (t : Int32) (hs : sm s) : sm (s &&& t) := by
  have hs : sN s < 65536 := hs
  rw [sN_eq s, sN_eq t, nx_and]
  exact sm_nI (Nat.lt_of_le_of_lt Nat.and_le_left hs)
theorem bi_k : ∀ k, k < 16 → sN (bi (nI k)) = 2 ^ k := by decide +kernel
theorem sm_bi {k : Nat} (h : k < 16) : sm (bi (nI k)) := by
  show sN (bi (nI k)) < 65536
  rw [bi_k k h]
  exact Nat.pow_lt_pow_right (a := 2) (by decide) h
theorem sm_0 : sm 0 := by decide +kernel
theorem sm_rip (p br : Int32) (kd et : Nat → Int32) (ws : Int32) : ∀ n, n ≤ 16 → sm (ripS p br kd et ws n)
  | 0, _ => sm_0
  | n + 1, h => by
    rw [ripS]
    refine sm_or (sm_rip p br kd et ws n (by omega)) ?_
    by_cases a : ripP p br (kd n) (et n) ws
    · rw [if_pos a]; exact sm_bi (by omega)
    · rw [if_neg a]; exact sm_0
theorem sm_sof (kd : Nat → Int32) : ∀ n, n ≤ 16 → sm (sofS kd n)
  | 0, _ => sm_0
  | n + 1, h => by
    rw [sofS]
    refine sm_or (sm_sof kd n (by omega)) ?_
    by_cases a : kd n = 3
    · rw [if_pos a]; exact sm_0
    · rw [if_neg a]; exact sm_bi (by omega)
theorem ffN_le (P : Nat → Prop) [DecidablePred P] : ∀ n, ffN P n ≤ n
  | 0 => Nat.le_refl 0
  | n + 1 => by
    have ih := ffN_le P n
    rw [ffN]
    by_cases a : ffN P n < n
    · rw [if_pos a]; omega
    · rw [if_neg a]
      by_cases b : P n
      · rw [if_pos b]; omega
      · rw [if_neg b]; omega
theorem msF_go (h w : Nat) {j : Nat} {c rip : Int32} (bs td : Nat → Int32) (e : c = nI j) : (dfF h w (popN 16 (sN rip)) 15 1 j (wo rip c) (0, bs, td)).1 = msF h w j rip := by
  subst e
  exact (flF_eq h w j rip bs td).1
theorem flF_go (h w : Nat) {j : Nat} {c rip : Int32} (bs td : Nat → Int32) (e : c = nI j) : ∀ k, k + 1 < msF h w j rip → (dfF h w (popN 16 (sN rip)) 15 1 j (wo rip c) (0, bs, td)).2.1 k = (flF h w j rip).2.1 k := by
  subst e
  intro k hk
  have z := flF_eq h w j rip bs td
  exact z.2.1 k (by rw [z.1]; exact hk)
theorem eqj {c : Int32} {j n : Nat} (hv : vp_in c n) (hj : c.toNatClampNeg = j) : c = nI j := by
  rw [← hj]; exact (inN_vp.mpr hv).eq
theorem cb_t {h w n : Nat} {kd : Nat → Int32} {c : Nat} (hc : c < n) (h1 : ¬ kd c = 3) (h2 : allS h w n kd c) : ¬ ∀ c, c < n → ¬ (¬ kd c = 3 ∧ allS h w n kd c) := fun z => z c hc ⟨h1, h2⟩
theorem dfF_mono {h w g : Nat} : ∀ (d s j : Nat) (lf : Int32) (q : Sg), q.1 ≤ (dfF h w g d s j lf q).1 ∧ s ≤ (dfF h w g d s j lf q).1
  | 0, s, _, _, q => by
    show q.1 ≤ (kpF s q).1 ∧ s ≤ (kpF s q).1
    unfold kpF
    by_cases a : q.1 < s
    · rw [if_pos a]; exact ⟨Nat.le_of_lt a, Nat.le_refl s⟩
    · rw [if_neg a]; exact ⟨Nat.le_refl _, by omega⟩
  | d + 1, s, j, lf, q => by
    have k0 : q.1 ≤ (kpF s q).1 ∧ s ≤ (kpF s q).1 := by
      unfold kpF
      by_cases a : q.1 < s
      · rw [if_pos a]; exact ⟨Nat.le_of_lt a, Nat.le_refl s⟩
      · rw [if_neg a]; exact ⟨Nat.le_refl _, by omega⟩
    have key : ∀ t, (kpF s q).1 ≤ (lpF (dfF h w g d (s + 1)) h w g s j lf t (kpF s q)).1 := by
      intro t
      induction t with
      | zero => exact Nat.le_refl _
      | succ t ih =>
        rw [lpF, stF]
        by_cases a : (lpF (dfF h w g d (s + 1)) h w g s j lf t (kpF s q)).1 < g ∧ inS lf (nbF h w j t)
        · rw [if_pos a]
          refine Nat.le_trans ih ?_
          generalize lpF (dfF h w g d (s + 1)) h w g s j lf t (kpF s q) = q'
          exact (dfF_mono d (s + 1) (nbF h w j t).toNatClampNeg (wo lf (nbF h w j t)) (q'.1, q'.2.1, upd q'.2.2 (s - 1) (nI t))).1
        · rw [if_neg a]; exact ih
    exact ⟨Nat.le_trans k0.1 (key 4), Nat.le_trans k0.2 (key 4)⟩
theorem msF_pos (h w j : Nat) (rip : Int32) : 1 ≤ msF h w j rip := (dfF_mono 15 1 _ _ _).2
theorem nc_s {P : Nat → Prop} {k : Nat} (h : ∀ c, c < k → ¬ P c) (hk : ¬ P k) : ∀ c, c < k + 1 → ¬ P c := by
  intro c hc
  rcases Nat.lt_or_ge c k with a | a
  · exact h c a
  · rw [show c = k by omega]; exact hk
