set_option maxRecDepth 100000 in
set_option maxHeartbeats 4000000 in
/-- X5_in -/
theorem c_X5_in (l : Launch) (D : va_G) (cI cJ cO : ClassId) (v : Int64) (u : Int64) (t : Int64) : RG l yX5_in wsX5_in 0 0 D [(cI, .int), (cJ, .long), (cO, .object "ShornHill$Sheet")] [.long v, .long u, .long t] [] (vp_Si (fun (r : Int32) => r = (b2 (u ≤ v ∧ v ≤ t)))) := by
  refine RG.of (cc := cX5_in) (maxL := 6) (ret := (some .boolean)) (by decide) rfl (Nat.le_of_ble_eq_true rfl) ?_
  intro P_ E_ S_ M_ B_ T_ K_ hx hb hml hr hts hown hlk hP hK ls hl
  have hl : lv_has ls 6 [(0, .long v), (2, .long u), (4, .long t)] := hl
  refine lv_lload_n hx hb dX5_in_0 rfl (lv_at hl 0 rfl) ?_
  refine lv_lload_n hx hb dX5_in_1 rfl (lv_at hl 1 rfl) ?_
  refine W.lcmp hx hb dX5_in_2 ?_
  refine lv_if_lt (tgt := 17) hx hb dX5_in_3 (by decide) (fun c_1 => ?_) (fun c_1 => ?_)
  · refine lv_iconst (v := 0) hx hb dX5_in_17 (by decide) ?_
    refine rz_ret (v := 0) hx hb hr hlk dX5_in_18 (by decide) ?_
    exact b2_0 (fun z => absurd z.1 (Int64.not_le.mpr ((lg_cmp_lt _ _).mp c_1)))
  · refine lv_lload_n hx hb dX5_in_6 rfl (lv_at hl 0 rfl) ?_
    refine lv_lload hx hb dX5_in_7 (lv_at hl 2 rfl) ?_
    refine W.lcmp hx hb dX5_in_9 ?_
    refine lv_if_gt (tgt := 17) hx hb dX5_in_10 (by decide) (fun c_2 => ?_) (fun c_2 => ?_)
    · refine lv_iconst (v := 0) hx hb dX5_in_17 (by decide) ?_
      refine rz_ret (v := 0) hx hb hr hlk dX5_in_18 (by decide) ?_
      exact b2_0 (fun z => absurd z.2 (Int64.not_le.mpr ((lg_cmp_gt _ _).mp c_2)))
    · refine lv_iconst (v := 1) hx hb dX5_in_13 (by decide) ?_
      refine lv_goto (tgt := 18) hx hb dX5_in_14 (by decide) ?_
      refine rz_ret (v := 1) hx hb hr hlk dX5_in_18 (by decide) ?_
      exact b2_1 ⟨(lg_cmp_ge _ _).mp (Int32.not_lt.mp c_1), (lg_cmp_le _ _).mp (Int32.not_lt.mp c_2)⟩
set_option maxRecDepth 100000 in
set_option maxHeartbeats 4000000 in
/-- X5_lost -/
theorem c_X5_lost (l : Launch) (D : va_G) (cI cJ cO : ClassId) : RG l yX5_lost wsX5_lost 0 0 D [(cI, .int), (cJ, .long), (cO, .object "ShornHill$Sheet")] [] [] (vp_Sl (fun (r : Int64) => r = (-9223372036854775808))) := by
  refine RG.of (cc := cX5_lost) (maxL := 0) (ret := (some .long)) (by decide) rfl (Nat.le_of_ble_eq_true rfl) ?_
  intro P_ E_ S_ M_ B_ T_ K_ hx hb hml hr hts hown hlk hP hK ls hl
  have hl : lv_has ls 0 [] := hl
  refine lv_ldc2 (v := (-9223372036854775808)) hx hb hown (hts _ (List.mem_of_getElem? (i := 1) rfl)) dX5_lost_0 ?_
  refine rl_ret hx hb hr hlk dX5_lost_3 ?_
  rfl
set_option maxRecDepth 100000 in
set_option maxHeartbeats 4000000 in
/-- X5_isIn -/
theorem c_X5_isIn (l : Launch) (D : va_G) (cI cJ cO : ClassId) (u : Int32) (v : Int32) (hv : inN v 32) : RG l yX5_isIn wsX5_isIn 0 0 D [(cI, .int), (cJ, .long), (cO, .object "ShornHill$Sheet")] [.int u, .int v] [] (vp_Si (fun (r : Int32) => r = (b2 (inS u v)))) := by
  refine RG.of (cc := cX5_isIn) (maxL := 2) (ret := (some .boolean)) (by decide) rfl (Nat.le_of_ble_eq_true rfl) ?_
  intro P_ E_ S_ M_ B_ T_ K_ hx hb hml hr hts hown hlk hP hK ls hl
  have hl : lv_has ls 2 [(0, .int u), (1, .int v)] := hl
  refine lv_iload_n hx hb dX5_isIn_0 rfl (lv_at hl 0 rfl) ?_
  refine lv_iload_n hx hb dX5_isIn_1 rfl (lv_at hl 1 rfl) ?_
  refine lv_ishr hx hb dX5_isIn_2 ?_
  refine lv_iconst (v := 1) hx hb dX5_isIn_3 (by decide) ?_
  refine lv_iand hx hb dX5_isIn_4 ?_
  refine lv_iconst (v := 1) hx hb dX5_isIn_5 (by decide) ?_
  refine lv_icmp_ne (tgt := 13) hx hb dX5_isIn_6 (by decide) (fun c_1 => ?_) (fun c_1 => ?_)
  · refine lv_iconst (v := 0) hx hb dX5_isIn_13 (by decide) ?_
    refine rz_ret (v := 0) hx hb hr hlk dX5_isIn_14 (by decide) ?_
    exact b2_0 (fun z => c_1 ((isin_iff hv).mpr z))
  · refine lv_iconst (v := 1) hx hb dX5_isIn_9 (by decide) ?_
    refine lv_goto (tgt := 14) hx hb dX5_isIn_10 (by decide) ?_
    refine rz_ret (v := 1) hx hb hr hlk dX5_isIn_14 (by decide) ?_
    exact b2_1 ((isin_iff hv).mp c_1)
theorem iwX5_refused_X5 : ∀ x ∈ wsX50, x ∈ wsX5_refused := by decide +kernel
set_option maxRecDepth 100000 in
set_option maxHeartbeats 4000000 in
/-- X5_refused -/
theorem c_X5_refused (l : Launch) (D : va_G) (cI cJ cO : ClassId) (b : Nat → Nat) (fa : Int32) (h : Nat) (w : Nat) (pc : Int32) (br : Int32) (ra : Int32) (q1 : Int32) (q2 : Int32) (q3 : Int32) (q4 : Int32) (fw : Int32) (ea : Int32) (sn : Int32) (mo : Int32) (rc : Nat) (tr : Int32) (v : Int32) : MG l yX5_refused wsX5_refused 0 0 0 0 D [(cI, .int), (cJ, .long), (cO, .object "ShornHill$Sheet")] [.ref (b 0), .int v] [(b 0, .inr (5, [.int fa, .int (nI h), .int (nI w), .int pc, .int br, .ref (b 1), .ref (b 2), .int ra, .int q1, .int q2, .int q3, .int q4, .ref (b 3), .int fw, .int ea, .int sn, .ref (b 4), .ref (b 5), .ref (b 6), .int mo, .int (nI rc), .ref (b 7), .ref (b 8), .ref (b 9), .ref (b 10), .ref (b 11), .ref (b 12), .ref (b 13), .ref (b 14), .int tr]))] (QI D (fun (r : Int32) (w1 : va_W) => r = v ∧ w1 = [(b 0, .inr (5, [.int 0, .int (nI h), .int (nI w), .int pc, .int br, .ref (b 1), .ref (b 2), .int ra, .int q1, .int q2, .int q3, .int q4, .ref (b 3), .int fw, .int ea, .int sn, .ref (b 4), .ref (b 5), .ref (b 6), .int mo, .int (nI rc), .ref (b 7), .ref (b 8), .ref (b 9), .ref (b 10), .ref (b 11), .ref (b 12), .ref (b 13), .ref (b 14), .int tr]))])) := by
  refine MG.of (cc := cX5_refused) (maxL := 2) (ret := (some .int)) (by decide) rfl (Nat.le_of_ble_eq_true rfl) ?_
  intro P_ E_ S_ M_ B_ T_ K_ hx hb hml hr hts hown hlk hnm A hA hP hK hD hS ls hl
  have hl : lv_has ls 2 [(0, .ref (b 0)), (1, .int v)] := hl
  have hin5 : ∀ x ∈ u_ws RX5 TX5 30, x ∈ wsX5_refused := iwX5_refused_X5
  refine lv_aload_n hx hb dX5_refused_0 rfl (lv_at hl 0 rfl) ?_
  refine lv_iconst (v := 0) hx hb dX5_refused_1 (by decide) ?_
  refine va_put (D := D) (ci := 5) (v := .int 0) (ty := .int) (C := RX5) (T := TX5) (N := 30) hx hb hts hin5 tyX5 tyX5_ok nmX5 hown hK.1 hP hD hS 0 rfl rfl 0 (by decide) (hts _ (List.mem_of_getElem? (i := 1) rfl)) (fun _ h9 => h9) rfl (by decide +kernel) rfl rfl (Nat.le_of_ble_eq_true rfl) dX5_refused_2 (fun H locs hP hD hS => ?_)
  have hP : va_P D vwCl [(b 0, .inr (5, [.int 0, .int (nI h), .int (nI w), .int pc, .int br, .ref (b 1), .ref (b 2), .int ra, .int q1, .int q2, .int q3, .int q4, .ref (b 3), .int fw, .int ea, .int sn, .ref (b 4), .ref (b 5), .ref (b 6), .int mo, .int (nI rc), .ref (b 7), .ref (b 8), .ref (b 9), .ref (b 10), .ref (b 11), .ref (b 12), .ref (b 13), .ref (b 14), .int tr]))] H := hP
  have hD : va_D A [(b 0, .inr (5, [.int 0, .int (nI h), .int (nI w), .int pc, .int br, .ref (b 1), .ref (b 2), .int ra, .int q1, .int q2, .int q3, .int q4, .ref (b 3), .int fw, .int ea, .int sn, .ref (b 4), .ref (b 5), .ref (b 6), .int mo, .int (nI rc), .ref (b 7), .ref (b 8), .ref (b 9), .ref (b 10), .ref (b 11), .ref (b 12), .ref (b 13), .ref (b 14), .int tr]))] := hD
  refine lv_iload_n hx hb dX5_refused_5 rfl (lv_at hl 1 rfl) ?_
  refine mi_ret (v := v) hx hb hr hlk hP hD hS dX5_refused_6 ?_
  exact ⟨rfl, rfl⟩
theorem iwX5_failed_X5 : ∀ x ∈ wsX50, x ∈ wsX5_failed := by decide +kernel
set_option maxRecDepth 100000 in
set_option maxHeartbeats 4000000 in
/-- X5_failed -/
theorem c_X5_failed (l : Launch) (D : va_G) (cI cJ cO : ClassId) (b : Nat → Nat) (fa : Int32) (h : Nat) (w : Nat) (pc : Int32) (br : Int32) (ra : Int32) (q1 : Int32) (q2 : Int32) (q3 : Int32) (q4 : Int32) (fw : Int32) (ea : Int32) (sn : Int32) (mo : Int32) (rc : Nat) (tr : Int32) (v : Int32) : MG l yX5_failed wsX5_failed 0 0 0 0 D [(cI, .int), (cJ, .long), (cO, .object "ShornHill$Sheet")] [.ref (b 0), .int v] [(b 0, .inr (5, [.int fa, .int (nI h), .int (nI w), .int pc, .int br, .ref (b 1), .ref (b 2), .int ra, .int q1, .int q2, .int q3, .int q4, .ref (b 3), .int fw, .int ea, .int sn, .ref (b 4), .ref (b 5), .ref (b 6), .int mo, .int (nI rc), .ref (b 7), .ref (b 8), .ref (b 9), .ref (b 10), .ref (b 11), .ref (b 12), .ref (b 13), .ref (b 14), .int tr]))] (QI D (fun (r : Int32) (w1 : va_W) => r = (-10 - v) ∧ w1 = [(b 0, .inr (5, [.int v, .int (nI h), .int (nI w), .int pc, .int br, .ref (b 1), .ref (b 2), .int ra, .int q1, .int q2, .int q3, .int q4, .ref (b 3), .int fw, .int ea, .int sn, .ref (b 4), .ref (b 5), .ref (b 6), .int mo, .int (nI rc), .ref (b 7), .ref (b 8), .ref (b 9), .ref (b 10), .ref (b 11), .ref (b 12), .ref (b 13), .ref (b 14), .int tr]))])) := by
  refine MG.of (cc := cX5_failed) (maxL := 2) (ret := (some .int)) (by decide) rfl (Nat.le_of_ble_eq_true rfl) ?_
  intro P_ E_ S_ M_ B_ T_ K_ hx hb hml hr hts hown hlk hnm A hA hP hK hD hS ls hl
  have hl : lv_has ls 2 [(0, .ref (b 0)), (1, .int v)] := hl
  have hin5 : ∀ x ∈ u_ws RX5 TX5 30, x ∈ wsX5_failed := iwX5_failed_X5
  refine lv_aload_n hx hb dX5_failed_0 rfl (lv_at hl 0 rfl) ?_
  refine lv_iload_n hx hb dX5_failed_1 rfl (lv_at hl 1 rfl) ?_
  refine va_put (D := D) (ci := 5) (v := .int v) (ty := .int) (C := RX5) (T := TX5) (N := 30) hx hb hts hin5 tyX5 tyX5_ok nmX5 hown hK.1 hP hD hS 0 rfl rfl 0 (by decide) (hts _ (List.mem_of_getElem? (i := 1) rfl)) (fun _ h9 => h9) rfl (by decide +kernel) rfl rfl (Nat.le_of_ble_eq_true rfl) dX5_failed_2 (fun H locs hP hD hS => ?_)
  have hP : va_P D vwCl [(b 0, .inr (5, [.int v, .int (nI h), .int (nI w), .int pc, .int br, .ref (b 1), .ref (b 2), .int ra, .int q1, .int q2, .int q3, .int q4, .ref (b 3), .int fw, .int ea, .int sn, .ref (b 4), .ref (b 5), .ref (b 6), .int mo, .int (nI rc), .ref (b 7), .ref (b 8), .ref (b 9), .ref (b 10), .ref (b 11), .ref (b 12), .ref (b 13), .ref (b 14), .int tr]))] H := hP
  have hD : va_D A [(b 0, .inr (5, [.int v, .int (nI h), .int (nI w), .int pc, .int br, .ref (b 1), .ref (b 2), .int ra, .int q1, .int q2, .int q3, .int q4, .ref (b 3), .int fw, .int ea, .int sn, .ref (b 4), .ref (b 5), .ref (b 6), .int mo, .int (nI rc), .ref (b 7), .ref (b 8), .ref (b 9), .ref (b 10), .ref (b 11), .ref (b 12), .ref (b 13), .ref (b 14), .int tr]))] := hD
  refine lv_bipush (v := (-10)) hx hb dX5_failed_5 (by decide) ?_
  refine lv_iload_n hx hb dX5_failed_7 rfl (lv_at hl 1 rfl) ?_
  refine lv_isub hx hb dX5_failed_8 ?_
  refine mi_ret (v := ((-10) - v)) hx hb hr hlk hP hD hS dX5_failed_9 ?_
  exact ⟨rfl, rfl⟩
theorem iwX5_failedLong_X5 : ∀ x ∈ wsX50, x ∈ wsX5_failedLong := by decide +kernel
set_option maxRecDepth 100000 in
set_option maxHeartbeats 4000000 in
/-- X5_failedLong -/
theorem c_X5_failedLong (l : Launch) (D : va_G) (cI cJ cO : ClassId) (b : Nat → Nat) (fa : Int32) (h : Nat) (w : Nat) (pc : Int32) (br : Int32) (ra : Int32) (q1 : Int32) (q2 : Int32) (q3 : Int32) (q4 : Int32) (fw : Int32) (ea : Int32) (sn : Int32) (mo : Int32) (rc : Nat) (tr : Int32) (v : Int32) : MG l yX5_failedLong wsX5_failedLong 1 19 0 0 D [(cI, .int), (cJ, .long), (cO, .object "ShornHill$Sheet")] [.ref (b 0), .int v] [(b 0, .inr (5, [.int fa, .int (nI h), .int (nI w), .int pc, .int br, .ref (b 1), .ref (b 2), .int ra, .int q1, .int q2, .int q3, .int q4, .ref (b 3), .int fw, .int ea, .int sn, .ref (b 4), .ref (b 5), .ref (b 6), .int mo, .int (nI rc), .ref (b 7), .ref (b 8), .ref (b 9), .ref (b 10), .ref (b 11), .ref (b 12), .ref (b 13), .ref (b 14), .int tr]))] (QL D (fun (r : Int64) (w1 : va_W) => r = (-9223372036854775808) ∧ w1 = [(b 0, .inr (5, [.int v, .int (nI h), .int (nI w), .int pc, .int br, .ref (b 1), .ref (b 2), .int ra, .int q1, .int q2, .int q3, .int q4, .ref (b 3), .int fw, .int ea, .int sn, .ref (b 4), .ref (b 5), .ref (b 6), .int mo, .int (nI rc), .ref (b 7), .ref (b 8), .ref (b 9), .ref (b 10), .ref (b 11), .ref (b 12), .ref (b 13), .ref (b 14), .int tr]))])) := by
  refine MG.of (cc := cX5_failedLong) (maxL := 2) (ret := (some .long)) (by decide) rfl (Nat.le_of_ble_eq_true rfl) ?_
  intro P_ E_ S_ M_ B_ T_ K_ hx hb hml hr hts hown hlk hnm A hA hP hK hD hS ls hl
  have hl : lv_has ls 2 [(0, .ref (b 0)), (1, .int v)] := hl
  have hin5 : ∀ x ∈ u_ws RX5 TX5 30, x ∈ wsX5_failedLong := iwX5_failedLong_X5
  refine lv_aload_n hx hb dX5_failedLong_0 rfl (lv_at hl 0 rfl) ?_
  refine lv_iload_n hx hb dX5_failedLong_1 rfl (lv_at hl 1 rfl) ?_
  refine va_put (D := D) (ci := 5) (v := .int v) (ty := .int) (C := RX5) (T := TX5) (N := 30) hx hb hts hin5 tyX5 tyX5_ok nmX5 hown hK.1 hP hD hS 0 rfl rfl 0 (by decide) (hts _ (List.mem_of_getElem? (i := 1) rfl)) (fun _ h9 => h9) rfl (by decide +kernel) rfl rfl (Nat.le_of_ble_eq_true rfl) dX5_failedLong_2 (fun H locs hP hD hS => ?_)
  have hP : va_P D vwCl [(b 0, .inr (5, [.int v, .int (nI h), .int (nI w), .int pc, .int br, .ref (b 1), .ref (b 2), .int ra, .int q1, .int q2, .int q3, .int q4, .ref (b 3), .int fw, .int ea, .int sn, .ref (b 4), .ref (b 5), .ref (b 6), .int mo, .int (nI rc), .ref (b 7), .ref (b 8), .ref (b 9), .ref (b 10), .ref (b 11), .ref (b 12), .ref (b 13), .ref (b 14), .int tr]))] H := hP
  have hD : va_D A [(b 0, .inr (5, [.int v, .int (nI h), .int (nI w), .int pc, .int br, .ref (b 1), .ref (b 2), .int ra, .int q1, .int q2, .int q3, .int q4, .ref (b 3), .int fw, .int ea, .int sn, .ref (b 4), .ref (b 5), .ref (b 6), .int mo, .int (nI rc), .ref (b 7), .ref (b 8), .ref (b 9), .ref (b 10), .ref (b 11), .ref (b 12), .ref (b 13), .ref (b 14), .int tr]))] := hD
  refine k_rl (run_RS (As := []) (rest := []) ⟨hx, hb, hml, hown, hts⟩ (c_X5_lost l D cI cJ cO) (va_cwS 0 hts gX5_failedLong_X5_lost rfl rfl rfl (by decide +kernel) ⟨Nat.le_of_ble_eq_true rfl, Nat.le_of_ble_eq_true rfl⟩) hP hK [] rfl rfl hl.1 rfl (Nat.le_of_ble_eq_true rfl) dX5_failedLong_5 ⟨Nat.le_refl _, Nat.le_refl _⟩) (fun r_1 q_2 => ?_)
  obtain rfl := q_2
  refine ml_ret hx hb hr hlk hP hD hS dX5_failedLong_8 ?_
  exact ⟨rfl, rfl⟩
theorem iwX5_cells_X5 : ∀ x ∈ wsX50, x ∈ wsX5_cells := by decide +kernel
set_option maxRecDepth 100000 in
set_option maxHeartbeats 4000000 in
/-- X5_cells -/
theorem c_X5_cells (l : Launch) (D : va_G) (cI cJ cO : ClassId) (b : Nat → Nat) (fa : Int32) (h : Nat) (w : Nat) (pc : Int32) (br : Int32) (ra : Int32) (q1 : Int32) (q2 : Int32) (q3 : Int32) (q4 : Int32) (fw : Int32) (ea : Int32) (sn : Int32) (mo : Int32) (rc : Nat) (tr : Int32) : RG l yX5_cells wsX5_cells 0 0 D [(cI, .int), (cJ, .long), (cO, .object "ShornHill$Sheet")] [.ref (b 0)] [(b 0, .inr (5, [.int fa, .int (nI h), .int (nI w), .int pc, .int br, .ref (b 1), .ref (b 2), .int ra, .int q1, .int q2, .int q3, .int q4, .ref (b 3), .int fw, .int ea, .int sn, .ref (b 4), .ref (b 5), .ref (b 6), .int mo, .int (nI rc), .ref (b 7), .ref (b 8), .ref (b 9), .ref (b 10), .ref (b 11), .ref (b 12), .ref (b 13), .ref (b 14), .int tr]))] (vp_Si (fun (r : Int32) => r = (nI (h * w)))) := by
  refine RG.of (cc := cX5_cells) (maxL := 1) (ret := (some .int)) (by decide) rfl (Nat.le_of_ble_eq_true rfl) ?_
  intro P_ E_ S_ M_ B_ T_ K_ hx hb hml hr hts hown hlk hP hK ls hl
  have hl : lv_has ls 1 [(0, .ref (b 0))] := hl
  have hin5 : ∀ x ∈ u_ws RX5 TX5 30, x ∈ wsX5_cells := iwX5_cells_X5
  refine lv_aload_n hx hb dX5_cells_0 rfl (lv_at hl 0 rfl) ?_
  refine va_get (D := D) (ci := 5) (v := .int (nI h)) (C := RX5) (T := TX5) (N := 30) hx hb hts hin5 hown hK.1 hP 0 rfl rfl 1 (by decide) (hts _ (List.mem_of_getElem? (i := 1) rfl)) (fun _ h9 => h9) rfl dX5_cells_1 ?_
  refine lv_aload_n hx hb dX5_cells_4 rfl (lv_at hl 0 rfl) ?_
  refine va_get (D := D) (ci := 5) (v := .int (nI w)) (C := RX5) (T := TX5) (N := 30) hx hb hts hin5 hown hK.1 hP 0 rfl rfl 2 (by decide) (hts _ (List.mem_of_getElem? (i := 2) rfl)) (fun _ h9 => h9) rfl dX5_cells_5 ?_
  refine lv_imul hx hb dX5_cells_8 ?_
  refine k_top (y := (nI (h * w))) (pk_mul _ _) ?_
  refine ri_ret (v := (nI (h * w))) hx hb hr hlk dX5_cells_9 ?_
  rfl
set_option maxRecDepth 100000 in
set_option maxHeartbeats 4000000 in
/-- X5_noSheet -/
theorem c_X5_noSheet (l : Launch) (D : va_G) (cI cJ cO : ClassId) (v : Int32) : RG l yX5_noSheet wsX5_noSheet 1 25 D [(cI, .int), (cJ, .long), (cO, .object "ShornHill$Sheet")] [.int v] [] (vp_Si (fun (r : Int32) => r = (b2 (¬ inN v 4)))) := by
  refine RG.of (cc := cX5_noSheet) (maxL := 1) (ret := (some .boolean)) (by decide) rfl (Nat.le_of_ble_eq_true rfl) ?_
  intro P_ E_ S_ M_ B_ T_ K_ hx hb hml hr hts hown hlk hP hK ls hl
  have hl : lv_has ls 1 [(0, .int v)] := hl
  refine lv_iload_n hx hb dX5_noSheet_0 rfl (lv_at hl 0 rfl) ?_
  refine lv_i2l (v := v.toInt64) hx hb dX5_noSheet_1 rfl ?_
  refine lv_lconst (v := 0) hx hb dX5_noSheet_2 (by decide) ?_
  refine lv_ldc2 (v := 3) hx hb hown (hts _ (List.mem_of_getElem? (i := 1) rfl)) dX5_noSheet_3 ?_
  refine k_ri (run_RS (As := [.long v.toInt64, .long 0, .long 3]) (rest := []) ⟨hx, hb, hml, hown, hts⟩ (c_X5_in l D cI cJ cO v.toInt64 0 3) (va_cwS 3 hts gX5_noSheet_X5_in rfl rfl rfl (by decide +kernel) ⟨Nat.le_of_ble_eq_true rfl, Nat.le_of_ble_eq_true rfl⟩) hP hK [] rfl rfl hl.1 rfl (Nat.le_of_ble_eq_true rfl) dX5_noSheet_6 ⟨Nat.le_refl _, Nat.le_refl _⟩) (fun r_1 q_2 => ?_)
  obtain rfl := q_2
  refine k_top (y := (b2 (inN v 4))) (b2_cong (in_lit rfl rfl)) ?_
  refine lv_if_ne (tgt := 16) hx hb dX5_noSheet_9 (by decide) (fun c_3 => ?_) (fun c_3 => ?_)
  · have c_3 := b2_t c_3
    refine lv_iconst (v := 0) hx hb dX5_noSheet_16 (by decide) ?_
    refine rz_ret (v := 0) hx hb hr hlk dX5_noSheet_17 (by decide) ?_
    exact b2_0 (fun z => z c_3)
  · have c_3 := b2_f c_3
    refine lv_iconst (v := 1) hx hb dX5_noSheet_12 (by decide) ?_
    refine lv_goto (tgt := 17) hx hb dX5_noSheet_13 (by decide) ?_
    refine rz_ret (v := 1) hx hb hr hlk dX5_noSheet_17 (by decide) ?_
    exact b2_1 c_3
set_option maxRecDepth 100000 in
set_option maxHeartbeats 4000000 in
/-- X5_noWeeks -/
theorem c_X5_noWeeks (l : Launch) (D : va_G) (cI cJ cO : ClassId) (v : Int32) : RG l yX5_noWeeks wsX5_noWeeks 1 25 D [(cI, .int), (cJ, .long), (cO, .object "ShornHill$Sheet")] [.int v] [] (vp_Si (fun (r : Int32) => r = (b2 (¬ inN v 10)))) := by
  refine RG.of (cc := cX5_noWeeks) (maxL := 1) (ret := (some .boolean)) (by decide) rfl (Nat.le_of_ble_eq_true rfl) ?_
  intro P_ E_ S_ M_ B_ T_ K_ hx hb hml hr hts hown hlk hP hK ls hl
  have hl : lv_has ls 1 [(0, .int v)] := hl
  refine lv_iload_n hx hb dX5_noWeeks_0 rfl (lv_at hl 0 rfl) ?_
  refine lv_i2l (v := v.toInt64) hx hb dX5_noWeeks_1 rfl ?_
  refine lv_lconst (v := 0) hx hb dX5_noWeeks_2 (by decide) ?_
  refine lv_ldc2 (v := 9) hx hb hown (hts _ (List.mem_of_getElem? (i := 1) rfl)) dX5_noWeeks_3 ?_
  refine k_ri (run_RS (As := [.long v.toInt64, .long 0, .long 9]) (rest := []) ⟨hx, hb, hml, hown, hts⟩ (c_X5_in l D cI cJ cO v.toInt64 0 9) (va_cwS 3 hts gX5_noWeeks_X5_in rfl rfl rfl (by decide +kernel) ⟨Nat.le_of_ble_eq_true rfl, Nat.le_of_ble_eq_true rfl⟩) hP hK [] rfl rfl hl.1 rfl (Nat.le_of_ble_eq_true rfl) dX5_noWeeks_6 ⟨Nat.le_refl _, Nat.le_refl _⟩) (fun r_1 q_2 => ?_)
  obtain rfl := q_2
  refine k_top (y := (b2 (inN v 10))) (b2_cong (in_lit rfl rfl)) ?_
  refine lv_if_ne (tgt := 16) hx hb dX5_noWeeks_9 (by decide) (fun c_3 => ?_) (fun c_3 => ?_)
  · have c_3 := b2_t c_3
    refine lv_iconst (v := 0) hx hb dX5_noWeeks_16 (by decide) ?_
    refine rz_ret (v := 0) hx hb hr hlk dX5_noWeeks_17 (by decide) ?_
    exact b2_0 (fun z => z c_3)
  · have c_3 := b2_f c_3
    refine lv_iconst (v := 1) hx hb dX5_noWeeks_12 (by decide) ?_
    refine lv_goto (tgt := 17) hx hb dX5_noWeeks_13 (by decide) ?_
    refine rz_ret (v := 1) hx hb hr hlk dX5_noWeeks_17 (by decide) ?_
    exact b2_1 c_3
