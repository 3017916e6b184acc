/-! ===== the law's ground ===== -/
section LAWK
variable {p : Program} {l : Launch} {e : Env} {R : Room} {s : State} {m : MethodId} {args : Array Value} {below : List Frame} {meth : Method} {c : Code} {H : Heap} {locs : List Loc} {cells slots : Nat} {Q : State → Prop}
variable {pc : Nat} {ls : Array Slot} {rest st : List Value} {D : va_G} {tys : List (ClassId × FieldType)} {A : Nat → Prop} {H0 : Heap} {cc : ByteArray}
variable {nL maxL index n fr lo mc ms : Nat} {w Ts : List Cond} {own C host : String} {y : MethodName} {bytes : ByteArray} {ret : Option FieldType} {b : Addr} {As : List Value} {X wc : va_W}
theorem P1o.pre {As : List Value} {X wc : va_W} (hP : va_P D vwCl X H) (hK : Kn D tys s) (hO : va_AO "ShornHill$Sheet" s) (hD : va_D A X) (isC : List Nat) (hnd : va_nd isC = true) (hC : isC.map (fun i => X[i]?) = wc.map some) : PreS s H (P1o D tys As wc H.size) As := by
  obtain ⟨z1, z2⟩ := P1.pre (As := As) hP hK hD isC hnd hC
  exact ⟨fun a U g mk q => by obtain ⟨q0, q1, q2⟩ := q; obtain ⟨r0, r1⟩ := z1 a U g mk ⟨q0, q1⟩; exact ⟨r0, r1, va_AO.moved (u := U) (U := U.calling g mk a) (Vm.Alike.refl U.vm) q2⟩, fun U hU hW => by obtain ⟨r0, r1⟩ := z2 U hU hW; exact ⟨r0, r1, va_AO.moved hW.alike hO⟩⟩
theorem run_MIo {Qa : (Nat → Prop) → Array Value → State → Outcome → State → Prop} (S : CallFix p m c cc nL s args Ts own) (hM : MGo l y w fr lo mc ms D tys (.ref b :: As) wc Qa) (cw : CallB R s args own index y bytes maxL none w { frames := fr, cells := mc, slots := ms, locals := lo } mc ms n ∧ y.name = "<init>" ∧ (Cond.instanceMethod y).before args s = true) (hP : va_P D vwCl X H) (hK : Kn D tys s) (hO : va_AO "ShornHill$Sheet" s) (hD : va_D A X) (isC : List Nat) (hnd : va_nd isC = true) (hC : isC.map (fun i => X[i]?) = wc.map some) (hn : As.length = n) (hsz : ls.size = nL) (hst : st = As.reverse ++ .ref b :: rest) (hW : (rest.map fun v => v.category).sum ≤ 8) (hdg : decode cc pc = .ok (.invokespecial index, 3)) (hf : cells + mc ≤ R.cells ∧ slots + ms ≤ R.slots) :
    va_Run p l e R s m args below meth c H locs cells slots mc ms (F0 m pc ls st) rest (Qa (va_A wc H.size) (Value.ref b :: As).toArray) (va_A wc H.size) :=
  va_runI (As := As) (rest := rest) S (hM H.size) cw (P1o.pre (As := .ref b :: As) hP hK hO hD isC hnd hC) rfl hn hsz hst (lv_room hW) hdg hf
end LAWK
theorem kn_arr {args : Array Value} {s : State} {ty : FieldType} (h : (Cond.arrayClass ty).before args s = true) : ∃ cA, ArrOfT s cA ty ∧ s.vm.findClass ("[" ++ ty.toString) = some cA := by
  obtain ⟨cA, kA, comp, hfind, hk, hkind⟩ := Cond.arrayClass_spec h
  exact ⟨cA, fun n z => ⟨fun k h => (by cases h), kA, hk, comp, hkind⟩, hfind⟩
theorem kn_over {args : Array Value} {s : State} {n : String} (h : (Cond.arrayOver (.object n)).before args s = true) : ∃ cA, ArrOfT s cA (.object n) ∧ va_RA s cA (.object n) := by
  obtain ⟨comp, cA, kA, h1, h2, h3, h4, h5⟩ := Cond.arrayOver_spec h
  exact ⟨cA, fun N z => ⟨fun k h => (by cases h), kA, h3, comp, h4⟩, kA, comp, h3, h4, h1, h5⟩
/-! what each call keeps -/
theorem goE_ok {n : Nat} {kd et : Nat → Int32} {c v : Int32} (h : ∀ k, k < 16 → etOk (et k)) : ∀ k, k < 16 → etOk (goE n kd et c v k) := by
  intro k hk
  unfold goE
  by_cases a : softP n kd c ∧ inN v 10
  · rw [if_pos a]
    unfold upd
    by_cases e : k = c.toNatClampNeg
    · rw [if_pos e]
      exact ⟨a.2.1, by have := a.2.2; omega⟩
    · rw [if_neg e]
      exact h k hk
  · rw [if_neg a]
    exact h k hk
theorem paE_ok {h n : Nat} {br v : Int32} (hb : 0 < n → 1 ≤ br.toInt) : 0 < n → 1 ≤ (paE h br v 9).toInt := by
  intro z
  unfold paE
  by_cases a : btw v 1 9 ∧ ¬ h = 0
  · rw [if_pos a]
    exact a.1.1
  · rw [if_neg a]
    exact hb z
theorem reC_le {n rc : Nat} {kd : Nat → Int32} {c ws v : Int32} (h : rc ≤ 8) : reC n kd rc c ws v ≤ 8 := by
  unfold reC
  by_cases a : reP n kd rc c ws v
  · rw [if_pos a]
    have := a.2.2
    omega
  · rw [if_neg a]
    exact h
theorem reA_ok {n rc : Nat} {kd ro : Nat → Int32} {c ws v : Int32} (hn : n ≤ 16) (h : ∀ k, k < rc → vp_in (ro k) 16) : ∀ k, k < reC n kd rc c ws v → vp_in (reA n kd rc c ws v ro c k) 16 := by
  intro k hk
  unfold reC at hk
  unfold reA
  by_cases a : reP n kd rc c ws v
  · rw [if_pos a] at hk ⊢
    unfold upd
    by_cases e : k = rc
    · rw [if_pos e]
      exact inN.vp a.1.1 hn
    · rw [if_neg e]
      exact h k (by omega)
  · rw [if_neg a] at hk ⊢
    exact h k hk
theorem baC_lt {rc : Nat} (k : Int32) : baC rc k ≤ rc := by
  unfold baC
  by_cases a : inN k (rc + 1)
  · rw [if_pos a]
    exact Nat.sub_le _ _
  · rw [if_neg a]
    exact Nat.le_refl _
theorem baC_le {rc : Nat} {k : Int32} (h : rc ≤ 8) : baC rc k ≤ 8 := Nat.le_trans (baC_lt k) h
theorem baC_ok {rc : Nat} {k : Int32} {ro : Nat → Int32} (h : ∀ z, z < rc → vp_in (ro z) 16) : ∀ z, z < baC rc k → vp_in (ro z) 16 := fun z hz => h z (Nat.lt_of_lt_of_le hz (baC_lt k))
theorem shU_le {le : Nat → Nat} {k x n : Int32} {kj : Nat} (h : ∀ z, z < 4 → le z ≤ 60) : ∀ z, z < 4 → shU k x n kj le n.toNatClampNeg z ≤ 60 := by
  intro z hz
  unfold shU
  by_cases a : inN k 4
  · rw [if_pos a]
    by_cases b : inN x 3 ∧ n.toInt ≤ 60
    · rw [if_pos b]
      by_cases c : n.toInt < 0
      · rw [if_pos c]
        exact h z hz
      · rw [if_neg c]
        show (if z = kj then n.toNatClampNeg else le z) ≤ 60
        by_cases e : z = kj
        · rw [if_pos e]
          show n.toInt.toNat ≤ 60
          omega
        · rw [if_neg e]
          exact h z hz
    · rw [if_neg b]
      exact h z hz
  · rw [if_neg a]
    exact h z hz
theorem kf_ok {x : Int32} (h : ¬ kindF x = -9) : kdOk (kindF x) := by
  unfold kindF at h ⊢
  by_cases a : x = 35
  · rw [if_pos a]; exact Or.inr (Or.inr (Or.inr rfl))
  · rw [if_neg a] at h ⊢
    by_cases b : x = 103
    · rw [if_pos b]; exact Or.inl rfl
    · rw [if_neg b] at h ⊢
      by_cases c : x = 111
      · rw [if_pos c]; exact Or.inr (Or.inr (Or.inl rfl))
      · rw [if_neg c] at h ⊢
        by_cases d : x = 115
        · rw [if_pos d]; exact Or.inr (Or.inl rfl)
        · rw [if_neg d] at h
          exact absurd rfl h
theorem hill_ok {tx : Nat → Int32} {ii m : Nat} (hm : m ≤ 60) (h : ffR tx ii m = -9) : hN (tx (ii + 1)) * hN (tx (ii + 2)) ≤ 16 ∧ hN (tx (ii + 1)) ≤ 4 ∧ 1 ≤ (tx (ii + 4) - 48).toInt ∧ ∀ q, q < hN (tx (ii + 1)) * hN (tx (ii + 2)) → kdOk (kdT tx ii (hN (tx (ii + 2))) q) := by
  obtain ⟨-, -, ⟨l1, u1⟩, ⟨l2, u2⟩, e5, h16, b4⟩ := text_ok hm h
  obtain ⟨hall, -, -⟩ := (ffR_9 (by omega)).mp h
  refine ⟨h16, by omega, ?_, fun q hq => ?_⟩
  · rw [sub48' (by have := b4.1; omega)]
    have := b4.1
    omega
  · rw [← lc_kd]
    have hl := lc_lt (w := hN (tx (ii + 2))) (by omega) hq
    exact kf_ok ((ok_lc (by omega) rfl rfl hq).mp (hall _ (by rw [e5]; exact hl)))
theorem hill_inv {hs ln : Nat → Int32} {le : Nat → Nat} {rr : Nat → Nat → Int32} {k x i n br : Int32} {kj h w rc : Nat} {kd et ro : Nat → Int32} (hkj : k.toNatClampNeg = kj) (hle : ∀ z, z < 4 → le z ≤ 60) (hn : h * w ≤ 16) (hh : h ≤ 4) (hkd : ∀ k, k < 16 → kdOk (kd k)) (het : ∀ k, k < 16 → etOk (et k)) (hbr : 0 < h * w → 1 ≤ br.toInt) (hrc : rc ≤ 8) (hro : ∀ k, k < rc → vp_in (ro k) 16) :
    hiI (hiP hs ln le rr k x i n kj) (hN (rr kj (i.toNatClampNeg + 1))) h * hiI (hiP hs ln le rr k x i n kj) (hN (rr kj (i.toNatClampNeg + 2))) w ≤ 16 ∧ hiI (hiP hs ln le rr k x i n kj) (hN (rr kj (i.toNatClampNeg + 1))) h ≤ 4 ∧
    (∀ q, q < 16 → kdOk (hiI (hiP hs ln le rr k x i n kj) (fil (kdT (rr kj) i.toNatClampNeg (hN (rr kj (i.toNatClampNeg + 2)))) kd (hN (rr kj (i.toNatClampNeg + 1)) * hN (rr kj (i.toNatClampNeg + 2)))) kd q)) ∧
    (∀ q, q < 16 → etOk (hiI (hiP hs ln le rr k x i n kj) (fil (fun _ => 0) et (hN (rr kj (i.toNatClampNeg + 1)) * hN (rr kj (i.toNatClampNeg + 2)))) et q)) ∧
    (0 < hiI (hiP hs ln le rr k x i n kj) (hN (rr kj (i.toNatClampNeg + 1))) h * hiI (hiP hs ln le rr k x i n kj) (hN (rr kj (i.toNatClampNeg + 2))) w → 1 ≤ (hiI (hiP hs ln le rr k x i n kj) (rr kj (i.toNatClampNeg + 4) - 48) br).toInt) ∧
    hiI (hiP hs ln le rr k x i n kj) 0 rc ≤ 8 ∧ ∀ q, q < hiI (hiP hs ln le rr k x i n kj) 0 rc → vp_in (ro q) 16 := by
  by_cases hp : hiP hs ln le rr k x i n kj
  · simp only [hiI, if_pos hp]
    obtain ⟨⟨p1, p2⟩, p3, p4⟩ := hp
    have hsp := (hiX_0 p3).2
    have hl := hle kj (by rw [← hkj]; exact p1.lt)
    have hm : n.toNatClampNeg ≤ 60 := by
      show n.toInt.toNat ≤ 60
      have z1 := hsp.1
      have z2 := hsp.2.2
      omega
    obtain ⟨o1, o2, o3, o4⟩ := hill_ok hm p4
    refine ⟨o1, o2, fun q hq => ?_, fun q hq => ?_, fun _ => o3, Nat.zero_le _, fun q hq => absurd hq (Nat.not_lt_zero q)⟩
    · unfold fil
      by_cases a : q < hN (rr kj (i.toNatClampNeg + 1)) * hN (rr kj (i.toNatClampNeg + 2))
      · rw [if_pos a]; exact o4 q a
      · rw [if_neg a]; exact hkd q hq
    · unfold fil
      by_cases a : q < hN (rr kj (i.toNatClampNeg + 1)) * hN (rr kj (i.toNatClampNeg + 2))
      · rw [if_pos a]; exact ⟨show (0 : Int) ≤ (0 : Int32).toInt by decide, show (0 : Int32).toInt ≤ 9 by decide⟩
      · rw [if_neg a]; exact het q hq
  · simp only [hiI, if_neg hp]
    exact ⟨hn, hh, hkd, het, hbr, hrc, hro⟩
