/-! ===== the model: fleeces' bounds, whole ===== -/
theorem cB_wo {s : Int32} {j : Nat} (hj : j < 32) (h : s.toBitVec.getLsbD j = true) : ∀ n, n ≤ 32 → cB (wo s (nI j)) n + (if j < n then 1 else 0) = cB s n
  | 0, _ => by rw [if_neg (Nat.not_lt_zero j)]; rfl
  | n + 1, hn => by
    have ih := cB_wo hj h n (by omega)
    have hb : (wo s (nI j)).toBitVec.getLsbD n = (s.toBitVec.getLsbD n && !decide (n = j)) := by
      unfold wo
      rw [b32_and, b32_not _ (by omega), bi_bit j hj n (by omega)]
    rw [cB, cB, ← ih, hb]
    by_cases a : n = j
    · subst a
      rw [h, decide_eq_true rfl, if_neg (by decide), if_neg (Nat.lt_irrefl n), if_pos (show n < n + 1 by omega), if_pos rfl]
    · rw [decide_eq_false a, Bool.not_false, Bool.and_true]
      by_cases b : j < n
      · rw [if_pos b, if_pos (show j < n + 1 by omega)]
        omega
      · rw [if_neg b, if_neg (show ¬ j < n + 1 by omega), Nat.add_zero, Nat.add_zero]
theorem popN_top : ∀ n v, popN (n + 1) v = popN n v + (v / 2 ^ n) % 2
  | 0, v => by
    show v % 2 + 0 = 0 + (v / 1) % 2
    rw [Nat.div_one]
    omega
  | n + 1, v => by
    have ih := popN_top n (v / 2)
    show v % 2 + popN (n + 1) (v / 2) = v % 2 + popN n (v / 2) + (v / 2 ^ (n + 1)) % 2
    rw [ih, Nat.div_div_eq_div_mul, Nat.pow_succ, Nat.mul_comm 2 (2 ^ n)]
    omega
theorem cB_pop (s : Int32) : ∀ n, cB s n = popN n (sN s)
  | 0 => rfl
  | n + 1 => by
    rw [cB, cB_pop s n, popN_top]
    congr 1
    have e : s.toBitVec.getLsbD n = (sN s).testBit n := rfl
    rw [e, Nat.testBit_eq_decide_div_mod_eq]
    by_cases a : sN s / 2 ^ n % 2 = 1
    · rw [decide_eq_true a, if_pos rfl, a]
    · rw [decide_eq_false a, if_neg (by decide)]
      omega
theorem in_bit {s T : Int32} {n : Nat} (hn : n ≤ 32) (hT : inN T n) (h : inS s T) : ∃ j, j < n ∧ T = nI j ∧ s.toBitVec.getLsbD j = true := by
  have e := hT.eq
  have l := hT.lt
  generalize T.toNatClampNeg = j at e l
  subst e
  exact ⟨j, l, rfl, (inS_bit (by omega)).mp h⟩
theorem df_le_g {h w g : Nat} (hn : h * w ≤ 16) : ∀ (d s j : Nat) (lf : Int32) (q : Sg), j < h * w → cB lf 16 + s ≤ g → q.1 ≤ g → (dfF h w g d s j lf q).1 ≤ g
  | 0, s, j, lf, q, hj, hc, hq => by
    show (kpF s q).1 ≤ g
    unfold kpF
    split
    · show s ≤ g
      omega
    · exact hq
  | d + 1, s, j, lf, q, hj, hc, hq => by
    have k0 : (kpF s q).1 ≤ g := by
      unfold kpF
      split
      · show s ≤ g
        omega
      · exact hq
    have key : ∀ t, (lpF (dfF h w g d (s + 1)) h w g s j lf t (kpF s q)).1 ≤ g := by
      intro t
      induction t with
      | zero => exact k0
      | succ t ih =>
        rw [lpF, stF]
        by_cases a : (lpF (dfF h w g d (s + 1)) h w g s j lf t (kpF s q)).1 < g ∧ inS lf (nbF h w j t)
        · rw [if_pos a]
          have hT := nbF_in hj hn a.2
          obtain ⟨z, hz, e, b⟩ := in_bit (by omega) hT a.2
          have hw := cB_wo (s := lf) (j := z) (by omega) b 16 (by decide)
          rw [if_pos (by omega), ← e] at hw
          exact df_le_g hn d (s + 1) _ _ _ hT.lt (by omega) ih
        · rw [if_neg a]; exact ih
    exact key 4
theorem msF_le_g {h w j : Nat} {u : Int32} (hn : h * w ≤ 16) (hj : j < h * w) (hi : inS u (nI j)) : msF h w j u ≤ popN 16 (sN u) := by
  have b := (inS_bit (by omega)).mp hi
  have hw := cB_wo (s := u) (j := j) (by omega) b 16 (by decide)
  rw [if_pos (by omega), cB_pop u] at hw
  exact df_le_g hn 15 1 j _ _ hj (by omega) (Nat.zero_le _)
theorem sof_bit (kd : Nat → Int32) {j : Nat} (hj : j < 32) : ∀ n, n ≤ 16 → ((sofS kd n).toBitVec.getLsbD j = true ↔ j < n ∧ ¬ kd j = 3)
  | 0, _ => by
    rw [show sofS kd 0 = 0 from rfl, show (0 : Int32).toBitVec.getLsbD j = false by simp]
    exact ⟨fun z => absurd z (by decide), fun z => absurd z.1 (Nat.not_lt_zero j)⟩
  | n + 1, hn => by
    have ih := sof_bit kd hj n (by omega)
    rw [sofS, b32_or]
    by_cases r : kd n = 3
    · rw [if_pos r, show (0 : Int32).toBitVec.getLsbD j = false by simp, Bool.or_false]
      by_cases a : j = n
      · subst a
        exact ⟨fun z => absurd (ih.mp z).1 (Nat.lt_irrefl _), fun z => absurd r z.2⟩
      · exact ⟨fun z => ⟨by have := (ih.mp z).1; omega, (ih.mp z).2⟩, fun z => ih.mpr ⟨by have := z.1; omega, z.2⟩⟩
    · rw [if_neg r, bi_bit n (by omega) j hj]
      by_cases a : j = n
      · subst a
        rw [decide_eq_true rfl, Bool.or_true]
        exact ⟨fun _ => ⟨by omega, r⟩, fun _ => rfl⟩
      · rw [decide_eq_false a, Bool.or_false]
        exact ⟨fun z => ⟨by have := (ih.mp z).1; omega, (ih.mp z).2⟩, fun z => ih.mpr ⟨by have := z.1; omega, z.2⟩⟩
theorem sof_in (kd : Nat → Int32) {j n : Nat} (hn : n ≤ 16) (hj : j < n) : inS (sofS kd n) (nI j) ↔ ¬ kd j = 3 := by
  rw [inS_bit (by omega), sof_bit kd (by omega) n hn]
  exact ⟨fun z => z.2, fun z => ⟨hj, z⟩⟩
/-- whole from a cell, as the model asks it -/
abbrev iwP (h w n : Nat) (pc br : Int32) (kd et : Nat → Int32) (ws : Int32) (j : Nat) : Prop := inS (ripS pc br kd et ws n) (nI j) ∧ ripS pc br kd et ws n = sofS kd n ∧ allS h w n kd j
theorem iw_wh {h w n : Nat} {pc br : Int32} {kd et : Nat → Int32} {ws : Int32} {j : Nat} (hn : n ≤ 16) (hj : j < n) (h3 : ¬ kd j = 3) : iwP h w n pc br kd et ws j ↔ (ripS pc br kd et ws n = sofS kd n ∧ allS h w n kd j) := by
  constructor
  · intro z
    exact z.2
  · intro z
    refine ⟨?_, z⟩
    rw [z.1]
    exact (sof_in kd hn hj).mpr h3
theorem iw_cb {h w n : Nat} {pc br : Int32} {kd et : Nat → Int32} {ws : Int32} {j : Nat} (hn : n ≤ 16) (hj : j < n) (z : iwP h w n pc br kd et ws j) : cbP h w n pc br kd et ws := by
  refine ⟨z.2.1, fun y => y j hj ⟨?_, z.2.2⟩⟩
  have a := z.1
  rw [z.2.1] at a
  exact (sof_in kd hn hj).mp a
theorem iw_no {h w n : Nat} {pc br : Int32} {kd et : Nat → Int32} {ws : Int32} (hn : n ≤ 16) (z : ∀ j, j < n → ¬ iwP h w n pc br kd et ws j) : ¬ cbP h w n pc br kd et ws := by
  intro y
  refine y.2 (fun c hc x => z c hc ?_)
  exact (iw_wh hn hc x.1).mpr ⟨y.1, x.2⟩
theorem st_skip {h w n : Nat} {u : Int32} {q : Nat × Int32} (hq : staF h w u n = q) (hs : ¬ q.1 < (if inS u (nI n) then msF h w n u else 0)) : staF h w u (n + 1) = q := by
  rw [staF, hq, if_neg hs]
theorem st_take {h w n : Nat} {u : Int32} {q : Nat × Int32} (hq : staF h w u n = q) (hi : inS u (nI n)) (hs : q.1 < msF h w n u) : staF h w u (n + 1) = (msF h w n u, nI n) := by
  rw [staF, hq, if_pos hi, if_pos hs]
theorem st_no {h w n : Nat} {u : Int32} {q : Nat × Int32} (hq : staF h w u n = q) (hi : ¬ inS u (nI n)) : staF h w u (n + 1) = q := st_skip hq (by rw [if_neg hi]; omega)
theorem st_le {h w n : Nat} {u : Int32} {q : Nat × Int32} (hq : staF h w u n = q) (hi : inS u (nI n)) (hs : ¬ q.1 < msF h w n u) : staF h w u (n + 1) = q := st_skip hq (by rw [if_pos hi]; exact hs)
theorem st_ge {h w n : Nat} {u : Int32} {q : Nat × Int32} (hn : h * w ≤ 16) (hj : n < h * w) (hq : staF h w u n = q) (hs : popN 16 (sN u) ≤ q.1) : staF h w u (n + 1) = q := by
  by_cases a : inS u (nI n)
  · have := msF_le_g hn hj a
    exact st_le hq a (by omega)
  · exact st_no hq a
