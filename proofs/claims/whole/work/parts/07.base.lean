/-! ===== rows with a plain index; numbers ===== -/
section KITC
variable {p : Program} {l : Launch} {e : Env} {R : Room} {s : State} {m : MethodId} {args : Array Value} {below : List Frame} {meth : Method} {c : Code} {H : Heap} {locs : List Loc} {cells slots : Nat} {Q : State → Prop}
variable {pc : Nat} {ls : Array Slot} {rest : List Value} {D : va_G} {tys : List (ClassId × FieldType)} {A : Nat → Prop} {H0 : Heap} {cc : ByteArray} {ws : va_W} {a : Nat}
theorem k_top {x y : Int32} (h : x = y) (k : W p l e R s m args below meth c H locs cells slots Q (F0 m pc ls (.int y :: rest))) : W p l e R s m args below meth c H locs cells slots Q (F0 m pc ls (.int x :: rest)) := by rw [h]; exact k
theorem k_topl {x y : Int64} (h : x = y) (k : W p l e R s m args below meth c H locs cells slots Q (F0 m pc ls (.long y :: rest))) : W p l e R s m args below meth c H locs cells slots Q (F0 m pc ls (.long x :: rest)) := by rw [h]; exact k
theorem k_iald (hx : p.tables.exec = Jvm.exec) (hb : c.code = cc) (hK : Kn D tys s) (hP : va_P D vwCl ws H) (q0 t0 : Nat) {cA : ClassId} {n : Nat} {f : Nat → Int32} (ha : ws[q0]? = some (a, .inl (cA, n, .inl f))) (ht : tys[t0]? = some (cA, .int)) {i : Int32} {j : Nat} (hin : vp_in i n) (hj : i.toNatClampNeg = j) (hdg : decode cc pc = .ok (.iaload, 1))
    (kk : W p l e R s m args below meth c H locs cells slots Q (F0 m (pc + 1) ls (.int (f j) :: rest))) : W p l e R s m args below meth c H locs cells slots Q (F0 m pc ls (.int i :: .ref a :: rest)) := by
  subst hj
  exact va_iald hx hb hK.1 hP q0 t0 ha ht hin hdg kk
theorem k_iast (hx : p.tables.exec = Jvm.exec) (hb : c.code = cc) (hK : Kn D tys s) (hP : va_P D vwCl ws H) (hD : va_D A ws) (hS : va_S A H0 H locs) (q0 t0 : Nat) {cA : ClassId} {n : Nat} {f : Nat → Int32} (ha : ws[q0]? = some (a, .inl (cA, n, .inl f))) (ht : tys[t0]? = some (cA, .int)) {i : Int32} {x : Int32} {j : Nat} (hin : vp_in i n) (hj : i.toNatClampNeg = j) (hdg : decode cc pc = .ok (.iastore, 1))
    (kk : ∀ (H1 : Heap) (locs1 : List Loc), va_P D vwCl (ws.set q0 (a, .inl (cA, n, .inl (upd f j x)))) H1 → va_D A (ws.set q0 (a, .inl (cA, n, .inl (upd f j x)))) → va_S A H0 H1 locs1 → W p l e R s m args below meth c H1 locs1 cells slots Q (F0 m (pc + 1) ls rest)) : W p l e R s m args below meth c H locs cells slots Q (F0 m pc ls (.int x :: .int i :: .ref a :: rest)) := by
  subst hj
  exact va_iast hx hb hK.1 hP hD hS q0 t0 ha ht hin hdg kk
theorem k_lald (hx : p.tables.exec = Jvm.exec) (hb : c.code = cc) (hK : Kn D tys s) (hP : va_P D vwCl ws H) (q0 t0 : Nat) {cA : ClassId} {n : Nat} {f : Nat → Int64} (ha : ws[q0]? = some (a, .inl (cA, n, .inr (.inl f)))) (ht : tys[t0]? = some (cA, .long)) {i : Int32} {j : Nat} (hin : vp_in i n) (hj : i.toNatClampNeg = j) (hdg : decode cc pc = .ok (.laload, 1))
    (kk : W p l e R s m args below meth c H locs cells slots Q (F0 m (pc + 1) ls (.long (f j) :: rest))) : W p l e R s m args below meth c H locs cells slots Q (F0 m pc ls (.int i :: .ref a :: rest)) := by
  subst hj
  exact va_lald hx hb hK.1 hP q0 t0 ha ht hin hdg kk
theorem k_last (hx : p.tables.exec = Jvm.exec) (hb : c.code = cc) (hK : Kn D tys s) (hP : va_P D vwCl ws H) (hD : va_D A ws) (hS : va_S A H0 H locs) (q0 t0 : Nat) {cA : ClassId} {n : Nat} {f : Nat → Int64} (ha : ws[q0]? = some (a, .inl (cA, n, .inr (.inl f)))) (ht : tys[t0]? = some (cA, .long)) {i : Int32} {x : Int64} {j : Nat} (hin : vp_in i n) (hj : i.toNatClampNeg = j) (hdg : decode cc pc = .ok (.lastore, 1))
    (kk : ∀ (H1 : Heap) (locs1 : List Loc), va_P D vwCl (ws.set q0 (a, .inl (cA, n, .inr (.inl (vp_updL f j x))))) H1 → va_D A (ws.set q0 (a, .inl (cA, n, .inr (.inl (vp_updL f j x))))) → va_S A H0 H1 locs1 → W p l e R s m args below meth c H1 locs1 cells slots Q (F0 m (pc + 1) ls rest)) : W p l e R s m args below meth c H locs cells slots Q (F0 m pc ls (.long x :: .int i :: .ref a :: rest)) := by
  subst hj
  exact va_last hx hb hK.1 hP hD hS q0 t0 ha ht hin hdg kk
theorem k_aldq (hx : p.tables.exec = Jvm.exec) (hb : c.code = cc) (hK : Kn D tys s) (hP : va_P D vwCl ws H) (q0 t0 : Nat) {cA : ClassId} {C : String} {n : Nat} {g : Nat → Nat} (ha : ws[q0]? = some (a, .inl (cA, n, .inr (.inr (.inr (.inr (fun i => some (g i)))))))) (ht : tys[t0]? = some (cA, .object C)) {i : Int32} {j b : Nat} (hin : vp_in i n) (hj : i.toNatClampNeg = j) (hg : g j = b) (hdg : decode cc pc = .ok (.aaload, 1))
    (kk : W p l e R s m args below meth c H locs cells slots Q (F0 m (pc + 1) ls (.ref b :: rest))) : W p l e R s m args below meth c H locs cells slots Q (F0 m pc ls (.int i :: .ref a :: rest)) := by
  subst hj
  subst hg
  exact va_aldq hx hb hK.1 hP q0 t0 ha ht hin hdg kk
end KITC
/-- a condition as an int -/
def b2 (P : Prop) [Decidable P] : Int32 := if P then 1 else 0
theorem b2_t {P : Prop} [Decidable P] (h : ¬ b2 P = 0) : P := by
  by_cases hP : P
  · exact hP
  · exact absurd (by simp [b2, hP]) h
theorem b2_f {P : Prop} [Decidable P] (h : b2 P = 0) : ¬ P := by
  intro hP
  rw [b2, if_pos hP] at h
  exact absurd h (by decide)
theorem b2_1 {P : Prop} [Decidable P] (h : P) : (1 : Int32) = b2 P := by rw [b2, if_pos h]
theorem b2_0 {P : Prop} [Decidable P] (h : ¬ P) : (0 : Int32) = b2 P := by rw [b2, if_neg h]
theorem b2_nar (P : Prop) [Decidable P] : narrow .boolean (.int (b2 P)) = .int (b2 P) := by
  unfold b2
  split <;> decide
theorem b2_cong {P P' : Prop} [Decidable P] [Decidable P'] (h : P ↔ P') : b2 P = b2 P' := by
  unfold b2
  by_cases hP : P
  · rw [if_pos hP, if_pos (h.mp hP)]
  · rw [if_neg hP, if_neg (fun q => hP (h.mpr q))]
/-- a place of n -/
abbrev inN (x : Int32) (n : Nat) : Prop := 0 ≤ x.toInt ∧ x.toInt < n
theorem inN_vp {x : Int32} {n : Nat} : inN x n ↔ vp_in x n := vp_in_iff.symm
theorem inN.vp {x : Int32} {n N : Nat} (h : inN x n) (hn : n ≤ N) : vp_in x N := vp_in_iff.mpr ⟨h.1, by have := h.2; omega⟩
theorem inN.lt {x : Int32} {n : Nat} (h : inN x n) : x.toNatClampNeg < n := by
  have h1 := h.1
  have h2 := h.2
  show x.toInt.toNat < n
  omega
theorem inN.eq {x : Int32} {n : Nat} (h : inN x n) : x = nI x.toNatClampNeg := by
  have h1 := h.1
  have h2 := x.toInt_lt
  have e : x.toInt = (x.toNatClampNeg : Int) := by show x.toInt = ((x.toInt.toNat : Nat) : Int); omega
  refine Int32.toInt_inj.mp ?_
  rw [nI_toInt (by omega), e]
theorem nI_inN {k n : Nat} (h : k < n) (hn : n < 2 ^ 31) : inN (nI k) n := by
  rw [inN, nI_toInt (by omega)]
  omega
theorem inN_nI {k n : Nat} (hk : k < 2 ^ 31) (h : inN (nI k) n) : k < n := by
  have h2 := h.2
  rw [nI_toInt hk] at h2
  omega
theorem sw3 (x : Int32) : x = 0 ∨ x = 1 ∨ x = 2 ∨ (x.toInt < 0 ∨ 2 < x.toInt) := by
  rw [← Int32.toInt_inj, ← Int32.toInt_inj, ← Int32.toInt_inj]
  have h0 : (0 : Int32).toInt = 0 := rfl
  have h1 : (1 : Int32).toInt = 1 := rfl
  have h2 : (2 : Int32).toInt = 2 := rfl
  omega
theorem sw4 (x : Int32) : x = 0 ∨ x = 1 ∨ x = 2 ∨ x = 3 ∨ (x.toInt < 0 ∨ 3 < x.toInt) := by
  have h3 : (3 : Int32).toInt = 3 := rfl
  rcases sw3 x with h | h | h | h
  · exact Or.inl h
  · exact Or.inr (Or.inl h)
  · exact Or.inr (Or.inr (Or.inl h))
  · by_cases q : x = 3
    · exact Or.inr (Or.inr (Or.inr (Or.inl q)))
    · rw [← Int32.toInt_inj] at q
      exact Or.inr (Or.inr (Or.inr (Or.inr (by omega))))
theorem sw6 (x : Int32) : x = 0 ∨ x = 1 ∨ x = 2 ∨ x = 3 ∨ x = 4 ∨ x = 5 ∨ (x.toInt < 0 ∨ 5 < x.toInt) := by
  have h4 : (4 : Int32).toInt = 4 := rfl
  have h5 : (5 : Int32).toInt = 5 := rfl
  rcases sw4 x with h | h | h | h | h
  · exact Or.inl h
  · exact Or.inr (Or.inl h)
  · exact Or.inr (Or.inr (Or.inl h))
  · exact Or.inr (Or.inr (Or.inr (Or.inl h)))
  · by_cases q : x = 4
    · exact Or.inr (Or.inr (Or.inr (Or.inr (Or.inl q))))
    · by_cases r : x = 5
      · exact Or.inr (Or.inr (Or.inr (Or.inr (Or.inr (Or.inl r)))))
      · rw [← Int32.toInt_inj] at q r
        exact Or.inr (Or.inr (Or.inr (Or.inr (Or.inr (Or.inr (by omega))))))
theorem ti_0 : (0 : Int32).toInt = 0 := rfl
theorem ti_1 : (1 : Int32).toInt = 1 := rfl
theorem ti_2 : (2 : Int32).toInt = 2 := rfl
theorem ti_3 : (3 : Int32).toInt = 3 := rfl
theorem ti_4 : (4 : Int32).toInt = 4 := rfl
theorem ti_5 : (5 : Int32).toInt = 5 := rfl
theorem ti_8 : (8 : Int32).toInt = 8 := rfl
theorem ti_9 : (9 : Int32).toInt = 9 := rfl
theorem ti_10 : (10 : Int32).toInt = 10 := rfl
theorem ti_14 : (14 : Int32).toInt = 14 := rfl
theorem ti_15 : (15 : Int32).toInt = 15 := rfl
theorem ti_16 : (16 : Int32).toInt = 16 := rfl
theorem ti_20 : (20 : Int32).toInt = 20 := rfl
theorem ti_60 : (60 : Int32).toInt = 60 := rfl
theorem ti_m1 : (-1 : Int32).toInt = -1 := rfl
theorem ti_49 : (49 : Int32).toInt = 49 := rfl
theorem ti_50 : (50 : Int32).toInt = 50 := rfl
theorem ti_51 : (51 : Int32).toInt = 51 := rfl
theorem ti_52 : (52 : Int32).toInt = 52 := rfl
theorem ti_57 : (57 : Int32).toInt = 57 := rfl
theorem ti_59 : (59 : Int32).toInt = 59 := rfl
theorem ti_103 : (103 : Int32).toInt = 103 := rfl
theorem ti_104 : (104 : Int32).toInt = 104 := rfl
theorem ti_111 : (111 : Int32).toInt = 111 := rfl
theorem ti_115 : (115 : Int32).toInt = 115 := rfl
theorem ti_35 : (35 : Int32).toInt = 35 := rfl
theorem ti_m9 : (-9 : Int32).toInt = -9 := rfl
theorem ti_7 : (7 : Int32).toInt = 7 := rfl
theorem ti_13 : (13 : Int32).toInt = 13 := rfl
theorem ti_12 : (12 : Int32).toInt = 12 := rfl
theorem ti_6 : (6 : Int32).toInt = 6 := rfl
theorem ti_48 : (48 : Int32).toInt = 48 := rfl
