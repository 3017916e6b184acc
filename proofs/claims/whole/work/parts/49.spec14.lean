/-! ===== the model: hill, path ===== -/
theorem hiX_0 {hs ln x i n : Int32} {l : Nat} (h : hiX (fltF hs ln x) i n l = 0) : fltF hs ln x = 0 ∧ spP i n l := by
  unfold hiX at h
  by_cases a : fltF hs ln x = 0
  · rw [if_pos a] at h
    by_cases b : n < 0
    · rw [if_pos b] at h
      exact absurd h (by decide)
    · rw [if_neg b] at h
      by_cases c : spP i n l
      · exact ⟨a, c⟩
      · rw [if_neg c] at h
        exact absurd h (by decide)
  · rw [if_neg a] at h
    exact absurd h a
theorem hiX_c (hs ln x i n : Int32) (l : Nat) : hiX (fltF hs ln x) i n l = 0 ∨ hiX (fltF hs ln x) i n l = 1 ∨ hiX (fltF hs ln x) i n l = 2 ∨ hiX (fltF hs ln x) i n l = 3 ∨ hiX (fltF hs ln x) i n l = 4 := by
  have f : fltF hs ln x = 0 ∨ fltF hs ln x = 1 ∨ fltF hs ln x = 2 := by
    unfold fltF
    by_cases a : hs = 0
    · rw [if_pos a]; exact Or.inr (Or.inl rfl)
    · rw [if_neg a]
      by_cases b : ln = x
      · rw [if_pos b]; exact Or.inl rfl
      · rw [if_neg b]; exact Or.inr (Or.inr rfl)
  unfold hiX
  rcases f with f | f | f <;> rw [f]
  · rw [if_pos rfl]
    by_cases b : n < 0
    · rw [if_pos b]; exact Or.inr (Or.inr (Or.inr (Or.inr rfl)))
    · rw [if_neg b]
      by_cases c : spP i n l
      · rw [if_pos c]; exact Or.inl rfl
      · rw [if_neg c]; exact Or.inr (Or.inr (Or.inr (Or.inl rfl)))
  · rw [if_neg (by decide)]; exact Or.inr (Or.inl rfl)
  · rw [if_neg (by decide)]; exact Or.inr (Or.inr (Or.inl rfl))
theorem br_neg {hs ln x i n : Int32} {l : Nat} (h : ¬ hiX (fltF hs ln x) i n l = 0) : ¬ 0 ≤ (-10) - hiX (fltF hs ln x) i n l := by
  rcases hiX_c hs ln x i n l with e | e | e | e | e
  · exact absurd e h
  · rw [e]; decide
  · rw [e]; decide
  · rw [e]; decide
  · rw [e]; decide
