set_option maxRecDepth 100000 in
set_option maxHeartbeats 4000000 in
/-- X4_isSheet -/
theorem c_X4_isSheet (l : Launch) (D : va_G) (cI cJ cO : ClassId) (v : Int32) : RG l yX4_isSheet wsX4_isSheet 0 0 D [(cI, .int), (cJ, .long), (cO, .object "ShornHill$Sheet")] [.int v] [] (vp_Si (fun (r : Int32) => r = (b2 (inN v 4)))) := by
  refine RG.of (cc := cX4_isSheet) (maxL := 1) (ret := (some .boolean)) (by decide) rfl (Nat.le_of_ble_eq_true rfl) ?_
  intro P_ E_ S_ M_ B_ T_ K_ hx hb hml hr hts hown hlk hP hK ls hl
  have hl : lv_has ls 1 [(0, .int v)] := hl
  refine lv_iload_n hx hb dX4_isSheet_0 rfl (lv_at hl 0 rfl) ?_
  refine lv_if_lt (tgt := 13) hx hb dX4_isSheet_1 (by decide) (fun c_1 => ?_) (fun c_1 => ?_)
  · refine lv_iconst (v := 0) hx hb dX4_isSheet_13 (by decide) ?_
    refine rz_ret (v := 0) hx hb hr hlk dX4_isSheet_14 (by decide) ?_
    refine b2_0 ?_
    try simp only [inN, softP, inS, ripP, Int32.lt_iff_toInt_lt, Int32.le_iff_toInt_le, ← Int32.toInt_inj, ti_0, ti_1, ti_2, ti_3, ti_4, ti_8, ti_9, ti_10, ti_14, ti_15, ti_20, ti_60, ti_m1] at c_1 ⊢
    omega
  · refine lv_iload_n hx hb dX4_isSheet_4 rfl (lv_at hl 0 rfl) ?_
    refine lv_iconst (v := 4) hx hb dX4_isSheet_5 (by decide) ?_
    refine lv_icmp_ge (tgt := 13) hx hb dX4_isSheet_6 (by decide) (fun c_2 => ?_) (fun c_2 => ?_)
    · refine lv_iconst (v := 0) hx hb dX4_isSheet_13 (by decide) ?_
      refine rz_ret (v := 0) hx hb hr hlk dX4_isSheet_14 (by decide) ?_
      refine b2_0 ?_
      try simp only [inN, softP, inS, ripP, Int32.lt_iff_toInt_lt, Int32.le_iff_toInt_le, ← Int32.toInt_inj, ti_0, ti_1, ti_2, ti_3, ti_4, ti_8, ti_9, ti_10, ti_14, ti_15, ti_20, ti_60, ti_m1] at c_1 c_2 ⊢
      omega
    · refine lv_iconst (v := 1) hx hb dX4_isSheet_9 (by decide) ?_
      refine lv_goto (tgt := 14) hx hb dX4_isSheet_10 (by decide) ?_
      refine rz_ret (v := 1) hx hb hr hlk dX4_isSheet_14 (by decide) ?_
      refine b2_1 ?_
      try simp only [inN, softP, inS, ripP, Int32.lt_iff_toInt_lt, Int32.le_iff_toInt_le, ← Int32.toInt_inj, ti_0, ti_1, ti_2, ti_3, ti_4, ti_8, ti_9, ti_10, ti_14, ti_15, ti_20, ti_60, ti_m1] at c_1 c_2 ⊢
      omega
set_option maxRecDepth 100000 in
set_option maxHeartbeats 4000000 in
/-- X4_isLane -/
theorem c_X4_isLane (l : Launch) (D : va_G) (cI cJ cO : ClassId) (v : Int32) : RG l yX4_isLane wsX4_isLane 0 0 D [(cI, .int), (cJ, .long), (cO, .object "ShornHill$Sheet")] [.int v] [] (vp_Si (fun (r : Int32) => r = (b2 (inN v 3)))) := by
  refine RG.of (cc := cX4_isLane) (maxL := 1) (ret := (some .boolean)) (by decide) rfl (Nat.le_of_ble_eq_true rfl) ?_
  intro P_ E_ S_ M_ B_ T_ K_ hx hb hml hr hts hown hlk hP hK ls hl
  have hl : lv_has ls 1 [(0, .int v)] := hl
  refine lv_iload_n hx hb dX4_isLane_0 rfl (lv_at hl 0 rfl) ?_
  refine lv_if_lt (tgt := 13) hx hb dX4_isLane_1 (by decide) (fun c_1 => ?_) (fun c_1 => ?_)
  · refine lv_iconst (v := 0) hx hb dX4_isLane_13 (by decide) ?_
    refine rz_ret (v := 0) hx hb hr hlk dX4_isLane_14 (by decide) ?_
    refine b2_0 ?_
    try simp only [inN, softP, inS, ripP, Int32.lt_iff_toInt_lt, Int32.le_iff_toInt_le, ← Int32.toInt_inj, ti_0, ti_1, ti_2, ti_3, ti_4, ti_8, ti_9, ti_10, ti_14, ti_15, ti_20, ti_60, ti_m1] at c_1 ⊢
    omega
  · refine lv_iload_n hx hb dX4_isLane_4 rfl (lv_at hl 0 rfl) ?_
    refine lv_iconst (v := 2) hx hb dX4_isLane_5 (by decide) ?_
    refine lv_icmp_gt (tgt := 13) hx hb dX4_isLane_6 (by decide) (fun c_2 => ?_) (fun c_2 => ?_)
    · refine lv_iconst (v := 0) hx hb dX4_isLane_13 (by decide) ?_
      refine rz_ret (v := 0) hx hb hr hlk dX4_isLane_14 (by decide) ?_
      refine b2_0 ?_
      try simp only [inN, softP, inS, ripP, Int32.lt_iff_toInt_lt, Int32.le_iff_toInt_le, ← Int32.toInt_inj, ti_0, ti_1, ti_2, ti_3, ti_4, ti_8, ti_9, ti_10, ti_14, ti_15, ti_20, ti_60, ti_m1] at c_1 c_2 ⊢
      omega
    · refine lv_iconst (v := 1) hx hb dX4_isLane_9 (by decide) ?_
      refine lv_goto (tgt := 14) hx hb dX4_isLane_10 (by decide) ?_
      refine rz_ret (v := 1) hx hb hr hlk dX4_isLane_14 (by decide) ?_
      refine b2_1 ?_
      try simp only [inN, softP, inS, ripP, Int32.lt_iff_toInt_lt, Int32.le_iff_toInt_le, ← Int32.toInt_inj, ti_0, ti_1, ti_2, ti_3, ti_4, ti_8, ti_9, ti_10, ti_14, ti_15, ti_20, ti_60, ti_m1] at c_1 c_2 ⊢
      omega
set_option maxRecDepth 100000 in
set_option maxHeartbeats 4000000 in
/-- X4_isWeeks -/
theorem c_X4_isWeeks (l : Launch) (D : va_G) (cI cJ cO : ClassId) (v : Int32) : RG l yX4_isWeeks wsX4_isWeeks 0 0 D [(cI, .int), (cJ, .long), (cO, .object "ShornHill$Sheet")] [.int v] [] (vp_Si (fun (r : Int32) => r = (b2 (inN v 10)))) := by
  refine RG.of (cc := cX4_isWeeks) (maxL := 1) (ret := (some .boolean)) (by decide) rfl (Nat.le_of_ble_eq_true rfl) ?_
  intro P_ E_ S_ M_ B_ T_ K_ hx hb hml hr hts hown hlk hP hK ls hl
  have hl : lv_has ls 1 [(0, .int v)] := hl
  refine lv_iload_n hx hb dX4_isWeeks_0 rfl (lv_at hl 0 rfl) ?_
  refine lv_if_lt (tgt := 14) hx hb dX4_isWeeks_1 (by decide) (fun c_1 => ?_) (fun c_1 => ?_)
  · refine lv_iconst (v := 0) hx hb dX4_isWeeks_14 (by decide) ?_
    refine rz_ret (v := 0) hx hb hr hlk dX4_isWeeks_15 (by decide) ?_
    refine b2_0 ?_
    try simp only [inN, softP, inS, ripP, Int32.lt_iff_toInt_lt, Int32.le_iff_toInt_le, ← Int32.toInt_inj, ti_0, ti_1, ti_2, ti_3, ti_4, ti_8, ti_9, ti_10, ti_14, ti_15, ti_20, ti_60, ti_m1] at c_1 ⊢
    omega
  · refine lv_iload_n hx hb dX4_isWeeks_4 rfl (lv_at hl 0 rfl) ?_
    refine lv_bipush (v := 9) hx hb dX4_isWeeks_5 (by decide) ?_
    refine lv_icmp_gt (tgt := 14) hx hb dX4_isWeeks_7 (by decide) (fun c_2 => ?_) (fun c_2 => ?_)
    · refine lv_iconst (v := 0) hx hb dX4_isWeeks_14 (by decide) ?_
      refine rz_ret (v := 0) hx hb hr hlk dX4_isWeeks_15 (by decide) ?_
      refine b2_0 ?_
      try simp only [inN, softP, inS, ripP, Int32.lt_iff_toInt_lt, Int32.le_iff_toInt_le, ← Int32.toInt_inj, ti_0, ti_1, ti_2, ti_3, ti_4, ti_8, ti_9, ti_10, ti_14, ti_15, ti_20, ti_60, ti_m1] at c_1 c_2 ⊢
      omega
    · refine lv_iconst (v := 1) hx hb dX4_isWeeks_10 (by decide) ?_
      refine lv_goto (tgt := 15) hx hb dX4_isWeeks_11 (by decide) ?_
      refine rz_ret (v := 1) hx hb hr hlk dX4_isWeeks_15 (by decide) ?_
      refine b2_1 ?_
      try simp only [inN, softP, inS, ripP, Int32.lt_iff_toInt_lt, Int32.le_iff_toInt_le, ← Int32.toInt_inj, ti_0, ti_1, ti_2, ti_3, ti_4, ti_8, ti_9, ti_10, ti_14, ti_15, ti_20, ti_60, ti_m1] at c_1 c_2 ⊢
      omega
set_option maxRecDepth 100000 in
set_option maxHeartbeats 4000000 in
/-- X4_isInches -/
theorem c_X4_isInches (l : Launch) (D : va_G) (cI cJ cO : ClassId) (v : Int32) : RG l yX4_isInches wsX4_isInches 0 0 D [(cI, .int), (cJ, .long), (cO, .object "ShornHill$Sheet")] [.int v] [] (vp_Si (fun (r : Int32) => r = (b2 (inN v 10)))) := by
  refine RG.of (cc := cX4_isInches) (maxL := 1) (ret := (some .boolean)) (by decide) rfl (Nat.le_of_ble_eq_true rfl) ?_
  intro P_ E_ S_ M_ B_ T_ K_ hx hb hml hr hts hown hlk hP hK ls hl
  have hl : lv_has ls 1 [(0, .int v)] := hl
  refine lv_iload_n hx hb dX4_isInches_0 rfl (lv_at hl 0 rfl) ?_
  refine lv_if_lt (tgt := 14) hx hb dX4_isInches_1 (by decide) (fun c_1 => ?_) (fun c_1 => ?_)
  · refine lv_iconst (v := 0) hx hb dX4_isInches_14 (by decide) ?_
    refine rz_ret (v := 0) hx hb hr hlk dX4_isInches_15 (by decide) ?_
    refine b2_0 ?_
    try simp only [inN, softP, inS, ripP, Int32.lt_iff_toInt_lt, Int32.le_iff_toInt_le, ← Int32.toInt_inj, ti_0, ti_1, ti_2, ti_3, ti_4, ti_8, ti_9, ti_10, ti_14, ti_15, ti_20, ti_60, ti_m1] at c_1 ⊢
    omega
  · refine lv_iload_n hx hb dX4_isInches_4 rfl (lv_at hl 0 rfl) ?_
    refine lv_bipush (v := 9) hx hb dX4_isInches_5 (by decide) ?_
    refine lv_icmp_gt (tgt := 14) hx hb dX4_isInches_7 (by decide) (fun c_2 => ?_) (fun c_2 => ?_)
    · refine lv_iconst (v := 0) hx hb dX4_isInches_14 (by decide) ?_
      refine rz_ret (v := 0) hx hb hr hlk dX4_isInches_15 (by decide) ?_
      refine b2_0 ?_
      try simp only [inN, softP, inS, ripP, Int32.lt_iff_toInt_lt, Int32.le_iff_toInt_le, ← Int32.toInt_inj, ti_0, ti_1, ti_2, ti_3, ti_4, ti_8, ti_9, ti_10, ti_14, ti_15, ti_20, ti_60, ti_m1] at c_1 c_2 ⊢
      omega
    · refine lv_iconst (v := 1) hx hb dX4_isInches_10 (by decide) ?_
      refine lv_goto (tgt := 15) hx hb dX4_isInches_11 (by decide) ?_
      refine rz_ret (v := 1) hx hb hr hlk dX4_isInches_15 (by decide) ?_
      refine b2_1 ?_
      try simp only [inN, softP, inS, ripP, Int32.lt_iff_toInt_lt, Int32.le_iff_toInt_le, ← Int32.toInt_inj, ti_0, ti_1, ti_2, ti_3, ti_4, ti_8, ti_9, ti_10, ti_14, ti_15, ti_20, ti_60, ti_m1] at c_1 c_2 ⊢
      omega
set_option maxRecDepth 100000 in
set_option maxHeartbeats 4000000 in
/-- X4_bit -/
theorem c_X4_bit (l : Launch) (D : va_G) (cI cJ cO : ClassId) (v : Int32) : RG l yX4_bit wsX4_bit 0 0 D [(cI, .int), (cJ, .long), (cO, .object "ShornHill$Sheet")] [.int v] [] (vp_Si (fun (r : Int32) => r = (bi v))) := by
  refine RG.of (cc := cX4_bit) (maxL := 1) (ret := (some .int)) (by decide) rfl (Nat.le_of_ble_eq_true rfl) ?_
  intro P_ E_ S_ M_ B_ T_ K_ hx hb hml hr hts hown hlk hP hK ls hl
  have hl : lv_has ls 1 [(0, .int v)] := hl
  refine lv_iconst (v := 1) hx hb dX4_bit_0 (by decide) ?_
  refine lv_iload_n hx hb dX4_bit_1 rfl (lv_at hl 0 rfl) ?_
  refine lv_ishl hx hb dX4_bit_2 ?_
  refine ri_ret (v := (1 <<< (v &&& 31))) hx hb hr hlk dX4_bit_3 ?_
  rfl
set_option maxRecDepth 100000 in
set_option maxHeartbeats 4000000 in
/-- X4_isIn -/
theorem c_X4_isIn (l : Launch) (D : va_G) (cI cJ cO : ClassId) (u : Int32) (v : Int32) : RG l yX4_isIn wsX4_isIn 1 20 D [(cI, .int), (cJ, .long), (cO, .object "ShornHill$Sheet")] [.int u, .int v] [] (vp_Si (fun (r : Int32) => r = (b2 (inS u v)))) := by
  refine RG.of (cc := cX4_isIn) (maxL := 2) (ret := (some .boolean)) (by decide) rfl (Nat.le_of_ble_eq_true rfl) ?_
  intro P_ E_ S_ M_ B_ T_ K_ hx hb hml hr hts hown hlk hP hK ls hl
  have hl : lv_has ls 2 [(0, .int u), (1, .int v)] := hl
  refine lv_iload_n hx hb dX4_isIn_0 rfl (lv_at hl 1 rfl) ?_
  refine lv_if_lt (tgt := 17) hx hb dX4_isIn_1 (by decide) (fun c_1 => ?_) (fun c_1 => ?_)
  · refine lv_iconst (v := 0) hx hb dX4_isIn_17 (by decide) ?_
    refine rz_ret (v := 0) hx hb hr hlk dX4_isIn_18 (by decide) ?_
    refine b2_0 ?_
    try simp only [inN, softP, inS, ripP, Int32.lt_iff_toInt_lt, Int32.le_iff_toInt_le, ← Int32.toInt_inj, ti_0, ti_1, ti_2, ti_3, ti_4, ti_8, ti_9, ti_10, ti_14, ti_15, ti_20, ti_60, ti_m1] at c_1 ⊢
    omega
  · refine lv_iload_n hx hb dX4_isIn_4 rfl (lv_at hl 0 rfl) ?_
    refine lv_iload_n hx hb dX4_isIn_5 rfl (lv_at hl 1 rfl) ?_
    refine k_ri (run_RS (As := [.int v]) (rest := [.int u]) ⟨hx, hb, hml, hown, hts⟩ (c_X4_bit l D cI cJ cO v) (va_cwS 1 hts gX4_isIn_X4_bit rfl rfl rfl (by decide +kernel) ⟨Nat.le_of_ble_eq_true rfl, Nat.le_of_ble_eq_true rfl⟩) hP hK [] rfl rfl hl.1 rfl (Nat.le_of_ble_eq_true rfl) dX4_isIn_6 ⟨Nat.le_refl _, Nat.le_refl _⟩) (fun r_2 q_3 => ?_)
    obtain rfl := q_3
    refine lv_iand hx hb dX4_isIn_9 ?_
    refine lv_if_eq (tgt := 17) hx hb dX4_isIn_10 (by decide) (fun c_4 => ?_) (fun c_4 => ?_)
    · refine lv_iconst (v := 0) hx hb dX4_isIn_17 (by decide) ?_
      refine rz_ret (v := 0) hx hb hr hlk dX4_isIn_18 (by decide) ?_
      refine b2_0 ?_
      try simp only [inN, softP, inS, ripP, Int32.lt_iff_toInt_lt, Int32.le_iff_toInt_le, ← Int32.toInt_inj, ti_0, ti_1, ti_2, ti_3, ti_4, ti_8, ti_9, ti_10, ti_14, ti_15, ti_20, ti_60, ti_m1] at c_1 c_4 ⊢
      omega
    · refine lv_iconst (v := 1) hx hb dX4_isIn_13 (by decide) ?_
      refine lv_goto (tgt := 18) hx hb dX4_isIn_14 (by decide) ?_
      refine rz_ret (v := 1) hx hb hr hlk dX4_isIn_18 (by decide) ?_
      refine b2_1 ?_
      try simp only [inN, softP, inS, ripP, Int32.lt_iff_toInt_lt, Int32.le_iff_toInt_le, ← Int32.toInt_inj, ti_0, ti_1, ti_2, ti_3, ti_4, ti_8, ti_9, ti_10, ti_14, ti_15, ti_20, ti_60, ti_m1] at c_1 c_4 ⊢
      omega
set_option maxRecDepth 100000 in
set_option maxHeartbeats 4000000 in
/-- X4_without -/
theorem c_X4_without (l : Launch) (D : va_G) (cI cJ cO : ClassId) (u : Int32) (v : Int32) : RG l yX4_without wsX4_without 1 20 D [(cI, .int), (cJ, .long), (cO, .object "ShornHill$Sheet")] [.int u, .int v] [] (vp_Si (fun (r : Int32) => r = (wo u v))) := by
  refine RG.of (cc := cX4_without) (maxL := 2) (ret := (some .int)) (by decide) rfl (Nat.le_of_ble_eq_true rfl) ?_
  intro P_ E_ S_ M_ B_ T_ K_ hx hb hml hr hts hown hlk hP hK ls hl
  have hl : lv_has ls 2 [(0, .int u), (1, .int v)] := hl
  refine lv_iload_n hx hb dX4_without_0 rfl (lv_at hl 0 rfl) ?_
  refine lv_iload_n hx hb dX4_without_1 rfl (lv_at hl 1 rfl) ?_
  refine k_ri (run_RS (As := [.int v]) (rest := [.int u]) ⟨hx, hb, hml, hown, hts⟩ (c_X4_bit l D cI cJ cO v) (va_cwS 1 hts gX4_without_X4_bit rfl rfl rfl (by decide +kernel) ⟨Nat.le_of_ble_eq_true rfl, Nat.le_of_ble_eq_true rfl⟩) hP hK [] rfl rfl hl.1 rfl (Nat.le_of_ble_eq_true rfl) dX4_without_2 ⟨Nat.le_refl _, Nat.le_refl _⟩) (fun r_1 q_2 => ?_)
  obtain rfl := q_2
  refine lv_iconst (v := (-1)) hx hb dX4_without_5 (by decide) ?_
  refine lv_ixor hx hb dX4_without_6 ?_
  refine lv_iand hx hb dX4_without_7 ?_
  refine ri_ret (v := (u &&& ((bi v) ^^^ (-1)))) hx hb hr hlk dX4_without_8 ?_
  rfl
