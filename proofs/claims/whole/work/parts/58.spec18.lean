theorem va_P.congI {D : va_G} {cl : List vw_C} {ws : va_W} {H : Heap} (h : va_P D cl ws H) {q0 a : Nat} {cA : ClassId} {n : Nat} {f g : Nat → Int32} (he : ws[q0]? = some (a, .inl (cA, n, .inl f))) (hg : ∀ j, j < n → f j = g j) :
    va_P D cl (ws.set q0 (a, .inl (cA, n, .inl g))) H := by
  intro k x hx
  by_cases hk : q0 = k
  · subst hk
    have hl : q0 < ws.length := by
      rcases Nat.lt_or_ge q0 ws.length with z | z
      · exact z
      · rw [List.getElem?_eq_none z] at he; cases he
    rw [List.getElem?_set_self hl] at hx
    cases hx
    have h0 := h q0 _ he
    show H[a]? = some (vp_cell _ _)
    have h1 : H[a]? = some (vp_cell cA (n, .inl f)) := h0
    rw [h1, vp_cell_i, vp_cell_i]
    congr 1
    unfold arrV
    congr 1
    apply Array.ext
    · simp
    · intro i h1 h2
      simp at h1
      simp [hg i h1]
  · rw [List.getElem?_set_ne hk] at hx
    exact h k x hx
