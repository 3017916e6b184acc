/-! ===== the model: hill, path ===== -/
theorem hiX_0 {hs ln x i n : Int32} {l : Nat} (h : hiX (fltF hs ln x) i n l = 0) : fltF hs ln x = 0 ∧ spP i n l := by
  unfold hiX at h
  by_cases a : fltF hs ln x = 0
  · rw [if_pos a] at h
    by_cases b : n < 0
    · rw [if_pos b] at h
      exact absurd h (by decide)
    · rw [if_neg b] at h
      by_cases c : spP i n l
      · exact ⟨a, c⟩
      · rw [if_neg c] at h
        exact absurd h (by decide)
  · rw [if_neg a] at h
    exact absurd h a
theorem hiX_c (hs ln x i n : Int32) (l : Nat) : hiX (fltF hs ln x) i n l = 0 ∨ hiX (fltF hs ln x) i n l = 1 ∨ hiX (fltF hs ln x) i n l = 2 ∨ hiX (fltF hs ln x) i n l = 3 ∨ hiX (fltF hs ln x) i n l = 4 := by
  have f : fltF hs ln x = 0 ∨ fltF hs ln x = 1 ∨ fltF hs ln x = 2 := by
    unfold fltF
    by_cases a : hs = 0
    · rw [if_pos a]; exact Or.inr (Or.inl rfl)
    · rw [if_neg a]
      by_cases b : ln = x
      · rw [if_pos b]; exact Or.inl rfl
      · rw [if_neg b]; exact Or.inr (Or.inr rfl)
  unfold hiX
  rcases f with f | f | f <;> rw [f]
  · rw [if_pos rfl]
    by_cases b : n < 0
    · rw [if_pos b]; exact Or.inr (Or.inr (Or.inr (Or.inr rfl)))
    · rw [if_neg b]
      by_cases c : spP i n l
      · rw [if_pos c]; exact Or.inl rfl
      · rw [if_neg c]; exact Or.inr (Or.inr (Or.inr (Or.inl rfl)))
  · rw [if_neg (by decide)]; exact Or.inr (Or.inl rfl)
  · rw [if_neg (by decide)]; exact Or.inr (Or.inr (Or.inl rfl))
theorem br_neg {hs ln x i n : Int32} {l : Nat} (h : ¬ hiX (fltF hs ln x) i n l = 0) : ¬ 0 ≤ (-10) - hiX (fltF hs ln x) i n l := by
  rcases hiX_c hs ln x i n l with e | e | e | e | e
  · exact absurd e h
  · rw [e]; decide
  · rw [e]; decide
  · rw [e]; decide
  · rw [e]; decide
theorem nb_0le {h w j t : Nat} (hj : j < h * w) (h16 : h * w ≤ 16) (hi : ¬ nbF h w j t < 0) : inN (nbF h w j t) (h * w) := by
  rcases nbF_rng t hj h16 with a | ⟨k, a, b⟩
  · rw [a] at hi
    exact absurd (show (-9 : Int32) < 0 by decide) hi
  · rw [b]
    exact nI_inN a (by omega)
theorem nb_lt {h w j t : Nat} {lf : Int32} (hz : nbF h w j t < 0) : ¬ inS lf (nbF h w j t) := fun z => by
  have z1 := z.1
  rw [Int32.lt_iff_toInt_lt, ti_0] at hz
  omega
theorem b32_ext {x y : Int32} (h : ∀ i, i < 32 → x.toBitVec.getLsbD i = y.toBitVec.getLsbD i) : x = y := Int32.toBitVec_inj.mp (BitVec.eq_of_getLsbD_eq h)
theorem b32_and (x y : Int32) (i : Nat) : (x &&& y).toBitVec.getLsbD i = (x.toBitVec.getLsbD i && y.toBitVec.getLsbD i) := by
  rw [Int32.toBitVec_and, BitVec.getLsbD_and]
theorem b32_or (x y : Int32) (i : Nat) : (x ||| y).toBitVec.getLsbD i = (x.toBitVec.getLsbD i || y.toBitVec.getLsbD i) := by
  rw [Int32.toBitVec_or, BitVec.getLsbD_or]
theorem b32_not (x : Int32) {i : Nat} (hi : i < 32) : (x ^^^ (-1)).toBitVec.getLsbD i = !x.toBitVec.getLsbD i := by
  rw [Int32.toBitVec_xor, BitVec.getLsbD_xor, show (-1 : Int32).toBitVec = BitVec.allOnes 32 from rfl, BitVec.getLsbD_allOnes, decide_eq_true hi, Bool.xor_true]
theorem bs_wo (u s t : Int32) : wo (u &&& (s ^^^ (-1))) t = u &&& ((s ||| bi t) ^^^ (-1)) := by
  refine b32_ext (fun i hi => ?_)
  unfold wo
  rw [b32_and, b32_and, b32_and, b32_not _ hi, b32_not _ hi, b32_not _ hi, b32_or]
  cases u.toBitVec.getLsbD i <;> cases s.toBitVec.getLsbD i <;> cases (bi t).toBitVec.getLsbD i <;> rfl
theorem bs_back {u s : Int32} (h : s &&& u = s) : u &&& ((u &&& (s ^^^ (-1))) ^^^ (-1)) = s := by
  refine b32_ext (fun i hi => ?_)
  have e := congrArg (fun z : Int32 => z.toBitVec.getLsbD i) h
  simp only [b32_and] at e
  rw [b32_and, b32_not _ hi, b32_and, b32_not _ hi]
  revert e
  cases u.toBitVec.getLsbD i <;> cases s.toBitVec.getLsbD i <;> decide
theorem bs_or {u s t : Int32} (h : s &&& u = s) (h2 : t &&& u = t) : (s ||| t) &&& u = s ||| t := by
  refine b32_ext (fun i hi => ?_)
  have e := congrArg (fun z : Int32 => z.toBitVec.getLsbD i) h
  have e2 := congrArg (fun z : Int32 => z.toBitVec.getLsbD i) h2
  simp only [b32_and] at e e2
  rw [b32_and, b32_or]
  revert e e2
  cases u.toBitVec.getLsbD i <;> cases s.toBitVec.getLsbD i <;> cases t.toBitVec.getLsbD i <;> decide
theorem bi_bit : ∀ j, j < 32 → ∀ i, i < 32 → (bi (nI j)).toBitVec.getLsbD i = decide (i = j) := by decide +kernel
/-- a set's member, as its bit -/
theorem inS_bit {s : Int32} {j : Nat} (hj : j < 32) : inS s (nI j) ↔ s.toBitVec.getLsbD j = true := by
  have hp : 0 ≤ (nI j).toInt := by rw [nI_toInt (by omega)]; omega
  constructor
  · intro h
    cases e : s.toBitVec.getLsbD j
    · refine absurd ?_ h.2
      refine b32_ext (fun i hi => ?_)
      rw [b32_and, bi_bit j hj i hi, show (0 : Int32).toBitVec.getLsbD i = false by simp]
      by_cases a : i = j
      · rw [a, e]; rfl
      · rw [decide_eq_false a, Bool.and_false]
    · rfl
  · intro h
    refine ⟨hp, fun z => ?_⟩
    have e := congrArg (fun z : Int32 => z.toBitVec.getLsbD j) z
    simp only [b32_and] at e
    rw [bi_bit j hj j hj, h, decide_eq_true rfl] at e
    exact absurd e (by simp)
theorem bi_sub {u x k : Int32} (hk : inN k 32) (h : inS (u &&& x) k) : bi k &&& u = bi k := by
  obtain ⟨j, hj, rfl⟩ : ∃ j, j < 32 ∧ k = nI j := ⟨k.toNatClampNeg, hk.lt, hk.eq⟩
  have b := (inS_bit hj).mp h
  rw [b32_and] at b
  have b1 : u.toBitVec.getLsbD j = true := by
    revert b
    cases u.toBitVec.getLsbD j <;> simp
  refine b32_ext (fun i hi => ?_)
  rw [b32_and, bi_bit j hj i hi]
  by_cases a : i = j
  · rw [a, b1]; simp
  · rw [decide_eq_false a, Bool.false_and]
theorem bi_sub0 {u k : Int32} (hk : inN k 32) (h : inS u k) : bi k &&& u = bi k := by
  refine bi_sub (x := -1) hk ?_
  have e : u &&& (-1) = u := by
    refine b32_ext (fun i hi => ?_)
    rw [b32_and, show (-1 : Int32).toBitVec = BitVec.allOnes 32 from rfl, BitVec.getLsbD_allOnes, decide_eq_true hi, Bool.and_true]
  rw [e]
  exact h
theorem nI_nn {k : Nat} (h : k < 2 ^ 31) : ¬ nI k < 0 := by
  rw [Int32.lt_iff_toInt_lt, nI_toInt h, ti_0]
  omega
theorem pth_ok {h w i q k : Nat} {tx : Nat → Int32} {p T u s y : Int32} {F : Int32 × Int32 × Int32} (z : (y = -9 ∧ pthR h w tx i q k T (wo (u &&& (s ^^^ (-1))) T) = F) ∨ (¬ y = -9 ∧ (T, wo (u &&& (s ^^^ (-1))) T, y) = F)) : (y = -9 ∧ pthR h w tx i q k T (u &&& ((s ||| bi T) ^^^ (-1))) = F) ∨ (¬ y = -9 ∧ (T, u &&& ((s ||| bi T) ^^^ (-1)), y) = F) := by
  rw [bs_wo] at z
  exact z
/-- a ripe cell is in the set of the ripe -/
theorem rip_bit (p br : Int32) (kd et : Nat → Int32) (ws : Int32) {j : Nat} (hj : j < 32) : ∀ n, n ≤ 16 → ((ripS p br kd et ws n).toBitVec.getLsbD j = true ↔ j < n ∧ ripP p br (kd j) (et j) ws)
  | 0, _ => by
    rw [show ripS p br kd et ws 0 = 0 from rfl, show (0 : Int32).toBitVec.getLsbD j = false by simp]
    exact ⟨fun z => absurd z (by decide), fun z => absurd z.1 (Nat.not_lt_zero j)⟩
  | n + 1, hn => by
    have ih := rip_bit p br kd et ws hj n (by omega)
    rw [ripS, b32_or]
    by_cases r : ripP p br (kd n) (et n) ws
    · rw [if_pos r, bi_bit n (by omega) j hj]
      by_cases a : j = n
      · subst a
        rw [decide_eq_true rfl, Bool.or_true]
        exact ⟨fun _ => ⟨by omega, r⟩, fun _ => rfl⟩
      · rw [decide_eq_false a, Bool.or_false]
        exact ⟨fun z => ⟨by have := (ih.mp z).1; omega, (ih.mp z).2⟩, fun z => ih.mpr ⟨by have := z.1; omega, z.2⟩⟩
    · rw [if_neg r, show (0 : Int32).toBitVec.getLsbD j = false by simp, Bool.or_false]
      by_cases a : j = n
      · subst a
        exact ⟨fun z => absurd (ih.mp z).1 (Nat.lt_irrefl _), fun z => absurd z.2 r⟩
      · exact ⟨fun z => ⟨by have := (ih.mp z).1; omega, (ih.mp z).2⟩, fun z => ih.mpr ⟨by have := z.1; omega, z.2⟩⟩
theorem rip_in {p br : Int32} {kd et : Nat → Int32} {ws c : Int32} {n : Nat} (hn : n ≤ 16) (hc : inN c n) : inS (ripS p br kd et ws n) c ↔ ripP p br (kd c.toNatClampNeg) (et c.toNatClampNeg) ws := by
  have e := hc.eq
  have l := hc.lt
  generalize c.toNatClampNeg = j at e l ⊢
  subst e
  rw [inS_bit (by omega), rip_bit p br kd et ws (by omega) n hn]
  exact ⟨fun z => z.2, fun z => ⟨l, z⟩⟩
theorem hi_pa {f0 i n : Int32} {l : Nat} (h : ¬ n < 0) : hiX f0 i n l = paX f0 i n l := by
  unfold hiX paX
  rw [if_neg h]
theorem inN21 {n : Int32} (h : inN n 21) : ¬ n < 0 := by
  rw [Int32.lt_iff_toInt_lt, ti_0]
  have := h.1
  omega
theorem inN_mono {x : Int32} {n N : Nat} (h : inN x n) (hn : n ≤ N) : inN x N := ⟨h.1, by have := h.2; omega⟩
