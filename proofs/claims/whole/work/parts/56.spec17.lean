/-! ===== the model: odds ===== -/
def smQ (rec : Nat → Int32 → Nat → Nat) (h w j : Nat) (lf : Int32) (q : Nat) : Nat → Nat
  | 0 => 0
  | n + 1 => (if inS lf (nbF h w j (3 - n)) then rec (nbF h w j (3 - n)).toNatClampNeg (wo lf (nbF h w j (3 - n))) q else 0) + smQ rec h w j lf q n
theorem sm_4 (rec : Nat → Int32 → Nat → Nat) (h w j : Nat) (lf : Int32) (q : Nat) : smN rec h w j lf q 4 = smQ rec h w j lf q 4 := by
  simp only [smN, smQ, Nat.zero_add, Nat.add_zero, Nat.add_assoc, Nat.sub_self]
def frO (h w k t j : Nat) (lf : Int32) (sh : Nat) : Nat := (if k ≤ 14 then smQ (odF h w (14 - k)) h w j lf (sh / chN h w j lf 4) (4 - t) else 0) + (if lf = 0 then sh else 0)
def chO (h w : Nat) (u : Int32) : List Fm → Nat
  | [] => 0
  | (p, t, s) :: r => frO h w r.length t p (u &&& (SSl ((p, t, s) :: r) ^^^ (-1))) s + chO h w u r
def RCl (ch : Nat → Int64) : List Fm → Prop
  | [] => True
  | (_, _, s) :: r => ch r.length = lN s ∧ RCl ch r
def SBl (a : Nat) : List Fm → Prop
  | [] => True
  | (_, _, s) :: r => s ≤ a ∧ SBl a r
theorem upL_ne {f : Nat → Int64} {k j : Nat} (x : Int64) (h : ¬ j = k) : vp_updL f k x j = f j := by unfold vp_updL; rw [if_neg h]
theorem upL_eq (f : Nat → Int64) (k : Nat) (x : Int64) : vp_updL f k x k = x := by unfold vp_updL; rw [if_pos rfl]
theorem RC_up {ch : Nat → Int64} {k : Nat} (x : Int64) : ∀ {st : List Fm}, RCl ch st → st.length ≤ k → RCl (vp_updL ch k x) st
  | [], _, _ => trivial
  | (_, _, _) :: r, h, hk => by
    have hk' : r.length + 1 ≤ k := hk
    exact ⟨by rw [upL_ne x (by omega)]; exact h.1, RC_up x h.2 (by omega)⟩
theorem lf_0 {u s : Int32} (h : s &&& u = s) : u &&& (s ^^^ (-1)) = 0 ↔ s = u := by
  constructor
  · intro z
    refine b32_ext (fun i hi => ?_)
    have e := congrArg (fun z : Int32 => z.toBitVec.getLsbD i) h
    have e2 := congrArg (fun z : Int32 => z.toBitVec.getLsbD i) z
    simp only [b32_and, b32_not _ hi, show (0 : Int32).toBitVec.getLsbD i = false by simp] at e e2
    revert e e2
    cases u.toBitVec.getLsbD i <;> cases s.toBitVec.getLsbD i <;> decide
  · intro z
    subst z
    refine b32_ext (fun i hi => ?_)
    rw [b32_and, b32_not _ hi, show (0 : Int32).toBitVec.getLsbD i = false by simp]
    cases s.toBitVec.getLsbD i <;> rfl
theorem inS_0 (T : Int32) : ¬ inS 0 T := fun z => z.2 Int32.zero_and
theorem fo_done (h w k j : Nat) (lf : Int32) (sh : Nat) : frO h w k 4 j lf sh = if lf = 0 then sh else 0 := by
  unfold frO
  by_cases a : k ≤ 14
  · rw [if_pos a]
    show 0 + _ = _
    rw [Nat.zero_add]
  · rw [if_neg a, Nat.zero_add]
theorem fo_one {h w k t j : Nat} {lf : Int32} {sh : Nat} (hk : k ≤ 14) (ht : t ≤ 3) : frO h w k t j lf sh = (if inS lf (nbF h w j t) then odF h w (14 - k) (nbF h w j t).toNatClampNeg (wo lf (nbF h w j t)) (sh / chN h w j lf 4) else 0) + frO h w k (t + 1) j lf sh := by
  unfold frO
  rw [if_pos hk, if_pos hk, show 4 - t = (4 - (t + 1)) + 1 by omega, smQ, show 3 - (4 - (t + 1)) = t by omega, Nat.add_assoc]
theorem fo_skip {h w k t j : Nat} {lf : Int32} {sh : Nat} (ht : t ≤ 3) (hi : ¬ inS lf (nbF h w j t)) : frO h w k (t + 1) j lf sh = frO h w k t j lf sh := by
  by_cases a : k ≤ 14
  · rw [fo_one a ht, if_neg hi, Nat.zero_add]
  · unfold frO
    rw [if_neg a, if_neg a]
theorem sq_0 (rec : Nat → Int32 → Nat → Nat) (h w j q : Nat) : ∀ n, smQ rec h w j 0 q n = 0
  | 0 => rfl
  | n + 1 => by rw [smQ, if_neg (inS_0 _), sq_0 rec h w j q n]
theorem od_fr {h w k j : Nat} {lf : Int32} {sh : Nat} (hk : k ≤ 15) : odF h w (15 - k) j lf sh = frO h w k 0 j lf sh := by
  unfold frO
  by_cases a : k ≤ 14
  · rw [if_pos a, show 15 - k = (14 - k) + 1 by omega, odF]
    by_cases b : lf = 0
    · subst b
      rw [if_pos rfl, if_pos rfl, sq_0, Nat.zero_add]
    · rw [if_neg b, if_neg b, sm_4, Nat.add_zero]
  · rw [if_neg a, show 15 - k = 0 by omega, Nat.zero_add]
    rfl
theorem co_pop {h w p s : Nat} {u : Int32} {r : List Fm} : chO h w u ((p, 4, s) :: r) = (if u &&& (SSl ((p, 4, s) :: r) ^^^ (-1)) = 0 then s else 0) + chO h w u r := by rw [chO, fo_done]
theorem co_y {h w p s m n : Nat} {u : Int32} {r : List Fm} (hu : SSl ((p, 4, s) :: r) &&& u = SSl ((p, 4, s) :: r)) (e : SSl ((p, 4, s) :: r) = u) (z : m + chO h w u ((p, 4, s) :: r) = n) : m + s + chO h w u r = n := by
  rw [co_pop, if_pos ((lf_0 hu).mpr e)] at z
  omega
theorem co_n {h w p s m n : Nat} {u : Int32} {r : List Fm} (hu : SSl ((p, 4, s) :: r) &&& u = SSl ((p, 4, s) :: r)) (e : ¬ SSl ((p, 4, s) :: r) = u) (z : m + chO h w u ((p, 4, s) :: r) = n) : m + chO h w u r = n := by
  rw [co_pop, if_neg (fun y => e ((lf_0 hu).mp y))] at z
  omega
theorem co_skip {h w p t s m n : Nat} {u : Int32} {r : List Fm} (ht : t ≤ 3) (hi : ¬ inS (u &&& (SSl ((p, t, s) :: r) ^^^ (-1))) (nbF h w p t)) (z : m + chO h w u ((p, t, s) :: r) = n) : m + chO h w u ((p, t + 1, s) :: r) = n := by
  rw [← z]
  show m + (frO h w r.length (t + 1) p (u &&& (SSl ((p, t, s) :: r) ^^^ (-1))) s + chO h w u r) = m + (frO h w r.length t p (u &&& (SSl ((p, t, s) :: r) ^^^ (-1))) s + chO h w u r)
  rw [fo_skip ht hi]
theorem co_push {h w p t s m n : Nat} {u : Int32} {r : List Fm} (hl : r.length ≤ 14) (ht : t ≤ 3) (hT : nbF h w p t = nI (nbF h w p t).toNatClampNeg) (hi : inS (u &&& (SSl ((p, t, s) :: r) ^^^ (-1))) (nbF h w p t)) (z : m + chO h w u ((p, t, s) :: r) = n) :
    m + chO h w u (((nbF h w p t).toNatClampNeg, 0, s / chN h w p (u &&& (SSl ((p, t, s) :: r) ^^^ (-1))) 4) :: (p, t + 1, s) :: r) = n := by
  rw [← z]
  show m + (frO h w (r.length + 1) 0 (nbF h w p t).toNatClampNeg (u &&& (SSl (((nbF h w p t).toNatClampNeg, 0, s / chN h w p (u &&& (SSl ((p, t, s) :: r) ^^^ (-1))) 4) :: (p, t + 1, s) :: r) ^^^ (-1))) (s / chN h w p (u &&& (SSl ((p, t, s) :: r) ^^^ (-1))) 4) + (frO h w r.length (t + 1) p (u &&& (SSl ((p, t, s) :: r) ^^^ (-1))) s + chO h w u r)) = m + (frO h w r.length t p (u &&& (SSl ((p, t, s) :: r) ^^^ (-1))) s + chO h w u r)
  rw [fo_one (sh := s) hl ht, if_pos hi, ← od_fr (k := r.length + 1) (by omega), show 15 - (r.length + 1) = 14 - r.length by omega, bs_wo]
  rw [← ss_push (p := p) (t := t) (s := s) (s' := s / chN h w p (u &&& (SSl ((p, t, s) :: r) ^^^ (-1))) 4) (t' := t + 1) (r := r) hT]
  omega
theorem co_0 {h w j a : Nat} {u : Int32} : 0 + chO h w u [(j, 0, a)] = odF h w 15 j (wo u (nI j)) a := by
  rw [Nat.zero_add, show odF h w 15 j (wo u (nI j)) a = frO h w 0 0 j (wo u (nI j)) a from od_fr (k := 0) (by decide)]
  show frO h w 0 0 j (u &&& ((0 ||| bi (nI j)) ^^^ (-1))) a + 0 = _
  rw [Int32.zero_or]
  rfl
theorem chN_pos {h w j : Nat} {lf : Int32} {t : Nat} (hi : inS lf (nbF h w j t)) : ∀ n, t < n → 0 < chN h w j lf n
  | n + 1, hn => by
    rw [chN]
    by_cases a : t = n
    · subst a
      rw [if_pos hi]
      omega
    · have := chN_pos hi n (by omega)
      omega
def pwN : Nat → Nat
  | 0 => 1
  | n + 1 => pwN n * 12
theorem pw_15 : pwN 15 = allO := by decide +kernel
