theorem iwX0_cells_X0 : ∀ x ∈ wsX00, x ∈ wsX0_cells := by decide +kernel
set_option maxRecDepth 100000 in
set_option maxHeartbeats 4000000 in
/-- X0_cells -/
theorem c_X0_cells (l : Launch) (D : va_G) (cI cJ cO : ClassId) (a : Nat → Nat) (h : Nat) (w : Nat) (pc : Int32) (br : Int32) (kd : Nat → Int32) (et : Nat → Int32) (nb : Nat → Int32) : RG l yX0_cells wsX0_cells 0 0 D [(cI, .int), (cJ, .long), (cO, .object "ShornHill$Sheet")] [.ref (a 1)] [(a 1, .inr (0, [.int (nI h), .int (nI w), .int pc, .int br, .ref (a 2), .ref (a 3), .ref (a 4)])), (a 2, .inl (cI, 16, .inl kd)), (a 3, .inl (cI, 16, .inl et)), (a 4, .inl (cI, 64, .inl nb))] (vp_Si (fun (r : Int32) => r = (nI (h * w)))) := by
  refine RG.of (cc := cX0_cells) (maxL := 1) (ret := (some .int)) (by decide) rfl (Nat.le_of_ble_eq_true rfl) ?_
  intro P_ E_ S_ M_ B_ T_ K_ hx hb hml hr hts hown hlk hP hK ls hl
  have hl : lv_has ls 1 [(0, .ref (a 1))] := hl
  have hin0 : ∀ x ∈ u_ws RX0 TX0 7, x ∈ wsX0_cells := iwX0_cells_X0
  refine lv_aload_n hx hb dX0_cells_0 rfl (lv_at hl 0 rfl) ?_
  refine va_get (D := D) (ci := 0) (v := .int (nI h)) (C := RX0) (T := TX0) (N := 7) hx hb hts hin0 hown hK.1 hP 0 rfl rfl 0 (by decide) (hts _ (List.mem_of_getElem? (i := 1) rfl)) (fun _ h9 => h9) rfl dX0_cells_1 ?_
  refine lv_aload_n hx hb dX0_cells_4 rfl (lv_at hl 0 rfl) ?_
  refine va_get (D := D) (ci := 0) (v := .int (nI w)) (C := RX0) (T := TX0) (N := 7) hx hb hts hin0 hown hK.1 hP 0 rfl rfl 1 (by decide) (hts _ (List.mem_of_getElem? (i := 2) rfl)) (fun _ h9 => h9) rfl dX0_cells_5 ?_
  refine lv_imul hx hb dX0_cells_8 ?_
  refine k_top (y := (nI (h * w))) (pk_mul _ _) ?_
  refine ri_ret (v := (nI (h * w))) hx hb hr hlk dX0_cells_9 ?_
  rfl
theorem iwX0_stands_X0 : ∀ x ∈ wsX00, x ∈ wsX0_stands := by decide +kernel
set_option maxRecDepth 100000 in
set_option maxHeartbeats 4000000 in
/-- X0_stands -/
theorem c_X0_stands (l : Launch) (D : va_G) (cI cJ cO : ClassId) (a : Nat → Nat) (h : Nat) (w : Nat) (pc : Int32) (br : Int32) (kd : Nat → Int32) (et : Nat → Int32) (nb : Nat → Int32) (hh : h ≤ 4) : RG l yX0_stands wsX0_stands 0 0 D [(cI, .int), (cJ, .long), (cO, .object "ShornHill$Sheet")] [.ref (a 1)] [(a 1, .inr (0, [.int (nI h), .int (nI w), .int pc, .int br, .ref (a 2), .ref (a 3), .ref (a 4)])), (a 2, .inl (cI, 16, .inl kd)), (a 3, .inl (cI, 16, .inl et)), (a 4, .inl (cI, 64, .inl nb))] (vp_Si (fun (r : Int32) => r = (b2 (0 < h)))) := by
  refine RG.of (cc := cX0_stands) (maxL := 1) (ret := (some .boolean)) (by decide) rfl (Nat.le_of_ble_eq_true rfl) ?_
  intro P_ E_ S_ M_ B_ T_ K_ hx hb hml hr hts hown hlk hP hK ls hl
  have hl : lv_has ls 1 [(0, .ref (a 1))] := hl
  have hin0 : ∀ x ∈ u_ws RX0 TX0 7, x ∈ wsX0_stands := iwX0_stands_X0
  refine lv_aload_n hx hb dX0_stands_0 rfl (lv_at hl 0 rfl) ?_
  refine va_get (D := D) (ci := 0) (v := .int (nI h)) (C := RX0) (T := TX0) (N := 7) hx hb hts hin0 hown hK.1 hP 0 rfl rfl 0 (by decide) (hts _ (List.mem_of_getElem? (i := 1) rfl)) (fun _ h9 => h9) rfl dX0_stands_1 ?_
  refine lv_if_le (tgt := 11) hx hb dX0_stands_4 (by decide) (fun c_1 => ?_) (fun c_1 => ?_)
  · have c_1 : h ≤ 0 := (nI_leI (a := h) (b := 0) (by omega) (by omega)).mp c_1
    refine lv_iconst (v := 0) hx hb dX0_stands_11 (by decide) ?_
    refine rz_ret (v := 0) hx hb hr hlk dX0_stands_12 (by decide) ?_
    refine b2_0 ?_
    try simp only [inN, softP, inS, ripP, Int32.lt_iff_toInt_lt, Int32.le_iff_toInt_le, ← Int32.toInt_inj, ti_0, ti_1, ti_2, ti_3, ti_4, ti_8, ti_9, ti_10, ti_14, ti_15, ti_20, ti_60, ti_m1] at  ⊢
    omega
  · have c_1 : 0 < h := Nat.lt_of_not_le (fun z => c_1 ((nI_leI (a := h) (b := 0) (by omega) (by omega)).mpr z))
    refine lv_iconst (v := 1) hx hb dX0_stands_7 (by decide) ?_
    refine lv_goto (tgt := 12) hx hb dX0_stands_8 (by decide) ?_
    refine rz_ret (v := 1) hx hb hr hlk dX0_stands_12 (by decide) ?_
    refine b2_1 ?_
    try simp only [inN, softP, inS, ripP, Int32.lt_iff_toInt_lt, Int32.le_iff_toInt_le, ← Int32.toInt_inj, ti_0, ti_1, ti_2, ti_3, ti_4, ti_8, ti_9, ti_10, ti_14, ti_15, ti_20, ti_60, ti_m1] at  ⊢
    omega
set_option maxRecDepth 100000 in
set_option maxHeartbeats 4000000 in
/-- X0_has -/
theorem c_X0_has (l : Launch) (D : va_G) (cI cJ cO : ClassId) (a : Nat → Nat) (h : Nat) (w : Nat) (pc : Int32) (br : Int32) (kd : Nat → Int32) (et : Nat → Int32) (nb : Nat → Int32) (c : Int32) (hn : h * w ≤ 16) : RG l yX0_has wsX0_has 1 20 D [(cI, .int), (cJ, .long), (cO, .object "ShornHill$Sheet")] [.ref (a 1), .int c] [(a 1, .inr (0, [.int (nI h), .int (nI w), .int pc, .int br, .ref (a 2), .ref (a 3), .ref (a 4)])), (a 2, .inl (cI, 16, .inl kd)), (a 3, .inl (cI, 16, .inl et)), (a 4, .inl (cI, 64, .inl nb))] (vp_Si (fun (r : Int32) => r = (b2 (inN c (h * w))))) := by
  refine RG.of (cc := cX0_has) (maxL := 2) (ret := (some .boolean)) (by decide) rfl (Nat.le_of_ble_eq_true rfl) ?_
  intro P_ E_ S_ M_ B_ T_ K_ hx hb hml hr hts hown hlk hP hK ls hl
  have hl : lv_has ls 2 [(0, .ref (a 1)), (1, .int c)] := hl
  refine lv_iload_n hx hb dX0_has_0 rfl (lv_at hl 1 rfl) ?_
  refine lv_if_lt (tgt := 16) hx hb dX0_has_1 (by decide) (fun c_1 => ?_) (fun c_1 => ?_)
  · refine lv_iconst (v := 0) hx hb dX0_has_16 (by decide) ?_
    refine rz_ret (v := 0) hx hb hr hlk dX0_has_17 (by decide) ?_
    refine b2_0 ?_
    try simp only [inN, softP, inS, ripP, Int32.lt_iff_toInt_lt, Int32.le_iff_toInt_le, ← Int32.toInt_inj, ti_0, ti_1, ti_2, ti_3, ti_4, ti_8, ti_9, ti_10, ti_14, ti_15, ti_20, ti_60, ti_m1] at c_1 ⊢
    omega
  · refine lv_iload_n hx hb dX0_has_4 rfl (lv_at hl 1 rfl) ?_
    refine lv_aload_n hx hb dX0_has_5 rfl (lv_at hl 0 rfl) ?_
    refine k_ri (run_RV (As := []) (rest := [.int c]) ⟨hx, hb, hml, hown, hts⟩ (c_X0_cells l D cI cJ cO a h w pc br kd et nb) (cwV 0 hts gX0_has_X0_cells rfl rfl rfl (by decide +kernel) ⟨Nat.le_of_ble_eq_true rfl, Nat.le_of_ble_eq_true rfl⟩) hP hK [0, 1, 2, 3] rfl rfl rfl rfl rfl hl.1 rfl (Nat.le_of_ble_eq_true rfl) dX0_has_6 ⟨Nat.le_refl _, Nat.le_refl _⟩) (fun r_2 q_3 => ?_)
    obtain rfl := q_3
    refine lv_icmp_ge (tgt := 16) hx hb dX0_has_9 (by decide) (fun c_4 => ?_) (fun c_4 => ?_)
    · refine lv_iconst (v := 0) hx hb dX0_has_16 (by decide) ?_
      refine rz_ret (v := 0) hx hb hr hlk dX0_has_17 (by decide) ?_
      refine b2_0 ?_
      try simp only [inN, softP, inS, ripP, Int32.lt_iff_toInt_lt, Int32.le_iff_toInt_le, ← Int32.toInt_inj, ti_0, ti_1, ti_2, ti_3, ti_4, ti_8, ti_9, ti_10, ti_14, ti_15, ti_20, ti_60, ti_m1, nI_toInt (show (h * w) < 2 ^ 31 by omega)] at c_1 c_4 ⊢
      omega
    · refine lv_iconst (v := 1) hx hb dX0_has_12 (by decide) ?_
      refine lv_goto (tgt := 17) hx hb dX0_has_13 (by decide) ?_
      refine rz_ret (v := 1) hx hb hr hlk dX0_has_17 (by decide) ?_
      refine b2_1 ?_
      try simp only [inN, softP, inS, ripP, Int32.lt_iff_toInt_lt, Int32.le_iff_toInt_le, ← Int32.toInt_inj, ti_0, ti_1, ti_2, ti_3, ti_4, ti_8, ti_9, ti_10, ti_14, ti_15, ti_20, ti_60, ti_m1, nI_toInt (show (h * w) < 2 ^ 31 by omega)] at c_1 c_4 ⊢
      omega
theorem iwX0_isSoft_X0 : ∀ x ∈ wsX00, x ∈ wsX0_isSoft := by decide +kernel
set_option maxRecDepth 100000 in
set_option maxHeartbeats 4000000 in
/-- X0_isSoft -/
theorem c_X0_isSoft (l : Launch) (D : va_G) (cI cJ cO : ClassId) (a : Nat → Nat) (h : Nat) (w : Nat) (pc : Int32) (br : Int32) (kd : Nat → Int32) (et : Nat → Int32) (nb : Nat → Int32) (c : Int32) (hn : h * w ≤ 16) : RG l yX0_isSoft wsX0_isSoft 2 41 D [(cI, .int), (cJ, .long), (cO, .object "ShornHill$Sheet")] [.ref (a 1), .int c] [(a 1, .inr (0, [.int (nI h), .int (nI w), .int pc, .int br, .ref (a 2), .ref (a 3), .ref (a 4)])), (a 2, .inl (cI, 16, .inl kd)), (a 3, .inl (cI, 16, .inl et)), (a 4, .inl (cI, 64, .inl nb))] (vp_Si (fun (r : Int32) => r = (b2 (softP (h * w) kd c)))) := by
  refine RG.of (cc := cX0_isSoft) (maxL := 2) (ret := (some .boolean)) (by decide) rfl (Nat.le_of_ble_eq_true rfl) ?_
  intro P_ E_ S_ M_ B_ T_ K_ hx hb hml hr hts hown hlk hP hK ls hl
  have hl : lv_has ls 2 [(0, .ref (a 1)), (1, .int c)] := hl
  have hin0 : ∀ x ∈ u_ws RX0 TX0 7, x ∈ wsX0_isSoft := iwX0_isSoft_X0
  refine lv_aload_n hx hb dX0_isSoft_0 rfl (lv_at hl 0 rfl) ?_
  refine lv_iload_n hx hb dX0_isSoft_1 rfl (lv_at hl 1 rfl) ?_
  refine k_ri (run_RV (As := [.int c]) (rest := []) ⟨hx, hb, hml, hown, hts⟩ (c_X0_has l D cI cJ cO a h w pc br kd et nb c hn) (cwV 1 hts gX0_isSoft_X0_has rfl rfl rfl (by decide +kernel) ⟨Nat.le_of_ble_eq_true rfl, Nat.le_of_ble_eq_true rfl⟩) hP hK [0, 1, 2, 3] rfl rfl rfl rfl rfl hl.1 rfl (Nat.le_of_ble_eq_true rfl) dX0_isSoft_2 ⟨Nat.le_refl _, Nat.le_refl _⟩) (fun r_1 q_2 => ?_)
  obtain rfl := q_2
  refine lv_if_eq (tgt := 22) hx hb dX0_isSoft_5 (by decide) (fun c_3 => ?_) (fun c_3 => ?_)
  · have c_3 := b2_f c_3
    refine lv_iconst (v := 0) hx hb dX0_isSoft_22 (by decide) ?_
    refine rz_ret (v := 0) hx hb hr hlk dX0_isSoft_23 (by decide) ?_
    refine b2_0 ?_
    try simp only [inN, softP, inS, ripP, Int32.lt_iff_toInt_lt, Int32.le_iff_toInt_le, ← Int32.toInt_inj, ti_0, ti_1, ti_2, ti_3, ti_4, ti_8, ti_9, ti_10, ti_14, ti_15, ti_20, ti_60, ti_m1] at c_3 ⊢
    omega
  · have c_3 := b2_t c_3
    refine lv_aload_n hx hb dX0_isSoft_8 rfl (lv_at hl 0 rfl) ?_
    refine va_get (D := D) (ci := 0) (v := .ref (a 2)) (C := RX0) (T := TX0) (N := 7) hx hb hts hin0 hown hK.1 hP 0 rfl rfl 4 (by decide) (hts _ (List.mem_of_getElem? (i := 1) rfl)) (fun _ h9 => h9) rfl dX0_isSoft_9 ?_
    refine lv_iload_n hx hb dX0_isSoft_12 rfl (lv_at hl 1 rfl) ?_
    refine k_iald hx hb hK hP 1 0 rfl rfl (j := c.toNatClampNeg) (inN.vp c_3 (by omega)) rfl dX0_isSoft_13 ?_
    refine lv_iconst (v := 3) hx hb dX0_isSoft_14 (by decide) ?_
    refine lv_icmp_eq (tgt := 22) hx hb dX0_isSoft_15 (by decide) (fun c_4 => ?_) (fun c_4 => ?_)
    · refine lv_iconst (v := 0) hx hb dX0_isSoft_22 (by decide) ?_
      refine rz_ret (v := 0) hx hb hr hlk dX0_isSoft_23 (by decide) ?_
      refine b2_0 ?_
      try simp only [inN, softP, inS, ripP, Int32.lt_iff_toInt_lt, Int32.le_iff_toInt_le, ← Int32.toInt_inj, ti_0, ti_1, ti_2, ti_3, ti_4, ti_8, ti_9, ti_10, ti_14, ti_15, ti_20, ti_60, ti_m1] at c_3 c_4 ⊢
      omega
    · refine lv_iconst (v := 1) hx hb dX0_isSoft_18 (by decide) ?_
      refine lv_goto (tgt := 23) hx hb dX0_isSoft_19 (by decide) ?_
      refine rz_ret (v := 1) hx hb hr hlk dX0_isSoft_23 (by decide) ?_
      refine b2_1 ?_
      try simp only [inN, softP, inS, ripP, Int32.lt_iff_toInt_lt, Int32.le_iff_toInt_le, ← Int32.toInt_inj, ti_0, ti_1, ti_2, ti_3, ti_4, ti_8, ti_9, ti_10, ti_14, ti_15, ti_20, ti_60, ti_m1] at c_3 c_4 ⊢
      omega
theorem iwX0_weekly_X0 : ∀ x ∈ wsX00, x ∈ wsX0_weekly := by decide +kernel
set_option maxRecDepth 100000 in
set_option maxHeartbeats 4000000 in
/-- X0_weekly -/
theorem c_X0_weekly (l : Launch) (D : va_G) (cI cJ cO : ClassId) (a : Nat → Nat) (h : Nat) (w : Nat) (pc : Int32) (br : Int32) (kd : Nat → Int32) (et : Nat → Int32) (nb : Nat → Int32) (c : Int32) (j : Nat) (hv_c : vp_in c 16) (hj_c : c.toNatClampNeg = j) : RG l yX0_weekly wsX0_weekly 0 0 D [(cI, .int), (cJ, .long), (cO, .object "ShornHill$Sheet")] [.ref (a 1), .int c] [(a 1, .inr (0, [.int (nI h), .int (nI w), .int pc, .int br, .ref (a 2), .ref (a 3), .ref (a 4)])), (a 2, .inl (cI, 16, .inl kd)), (a 3, .inl (cI, 16, .inl et)), (a 4, .inl (cI, 64, .inl nb))] (vp_Si (fun (r : Int32) => r = (wk (kd j) pc))) := by
  refine RG.of (cc := cX0_weekly) (maxL := 2) (ret := (some .int)) (by decide) rfl (Nat.le_of_ble_eq_true rfl) ?_
  intro P_ E_ S_ M_ B_ T_ K_ hx hb hml hr hts hown hlk hP hK ls hl
  have hl : lv_has ls 2 [(0, .ref (a 1)), (1, .int c)] := hl
  have hin0 : ∀ x ∈ u_ws RX0 TX0 7, x ∈ wsX0_weekly := iwX0_weekly_X0
  refine lv_aload_n hx hb dX0_weekly_0 rfl (lv_at hl 0 rfl) ?_
  refine va_get (D := D) (ci := 0) (v := .ref (a 2)) (C := RX0) (T := TX0) (N := 7) hx hb hts hin0 hown hK.1 hP 0 rfl rfl 4 (by decide) (hts _ (List.mem_of_getElem? (i := 1) rfl)) (fun _ h9 => h9) rfl dX0_weekly_1 ?_
  refine lv_iload_n hx hb dX0_weekly_4 rfl (lv_at hl 1 rfl) ?_
  refine k_iald hx hb hK hP 1 0 rfl rfl (j := j) hv_c hj_c dX0_weekly_5 ?_
  rcases sw3 ((kd j)) with c_1 | c_1 | c_1 | c_1
  · refine lv_tableIn (off := 26) (tgt := 32) hx hb dX0_weekly_6 (by rw [c_1]; decide) (by rw [c_1]; decide) (by rw [c_1]; rfl) (by decide) ?_
    refine lv_aload_n hx hb dX0_weekly_32 rfl (lv_at hl 0 rfl) ?_
    refine va_get (D := D) (ci := 0) (v := .int pc) (C := RX0) (T := TX0) (N := 7) hx hb hts hin0 hown hK.1 hP 0 rfl rfl 2 (by decide) (hts _ (List.mem_of_getElem? (i := 2) rfl)) (fun _ h9 => h9) rfl dX0_weekly_33 ?_
    refine ri_ret (v := pc) hx hb hr hlk dX0_weekly_36 ?_
    rw [c_1]; rfl
  · refine lv_tableIn (off := 31) (tgt := 37) hx hb dX0_weekly_6 (by rw [c_1]; decide) (by rw [c_1]; decide) (by rw [c_1]; rfl) (by decide) ?_
    refine lv_aload_n hx hb dX0_weekly_37 rfl (lv_at hl 0 rfl) ?_
    refine va_get (D := D) (ci := 0) (v := .int pc) (C := RX0) (T := TX0) (N := 7) hx hb hts hin0 hown hK.1 hP 0 rfl rfl 2 (by decide) (hts _ (List.mem_of_getElem? (i := 2) rfl)) (fun _ h9 => h9) rfl dX0_weekly_38 ?_
    refine lv_iconst (v := 1) hx hb dX0_weekly_41 (by decide) ?_
    refine lv_iadd hx hb dX0_weekly_42 ?_
    refine ri_ret (v := (pc + 1)) hx hb hr hlk dX0_weekly_43 ?_
    rw [c_1]; rfl
  · refine lv_tableIn (off := 38) (tgt := 44) hx hb dX0_weekly_6 (by rw [c_1]; decide) (by rw [c_1]; decide) (by rw [c_1]; rfl) (by decide) ?_
    refine lv_iconst (v := 2) hx hb dX0_weekly_44 (by decide) ?_
    refine lv_aload_n hx hb dX0_weekly_45 rfl (lv_at hl 0 rfl) ?_
    refine va_get (D := D) (ci := 0) (v := .int pc) (C := RX0) (T := TX0) (N := 7) hx hb hts hin0 hown hK.1 hP 0 rfl rfl 2 (by decide) (hts _ (List.mem_of_getElem? (i := 2) rfl)) (fun _ h9 => h9) rfl dX0_weekly_46 ?_
    refine lv_iconst (v := 1) hx hb dX0_weekly_49 (by decide) ?_
    refine lv_iadd hx hb dX0_weekly_50 ?_
    refine lv_imul hx hb dX0_weekly_51 ?_
    refine ri_ret (v := (2 * (pc + 1))) hx hb hr hlk dX0_weekly_52 ?_
    rw [c_1]; rfl
  · refine lv_tableOut (tgt := 53) hx hb dX0_weekly_6 c_1 (by decide) ?_
    refine lv_iconst (v := 0) hx hb dX0_weekly_53 (by decide) ?_
    refine ri_ret (v := 0) hx hb hr hlk dX0_weekly_54 ?_
    exact (wk_out _ c_1).symm
theorem iwX0_inches_X0 : ∀ x ∈ wsX00, x ∈ wsX0_inches := by decide +kernel
set_option maxRecDepth 100000 in
set_option maxHeartbeats 4000000 in
/-- X0_inches -/
theorem c_X0_inches (l : Launch) (D : va_G) (cI cJ cO : ClassId) (a : Nat → Nat) (h : Nat) (w : Nat) (pc : Int32) (br : Int32) (kd : Nat → Int32) (et : Nat → Int32) (nb : Nat → Int32) (c : Int32) (ws : Int32) (j : Nat) (hv_c : vp_in c 16) (hj_c : c.toNatClampNeg = j) : RG l yX0_inches wsX0_inches 1 21 D [(cI, .int), (cJ, .long), (cO, .object "ShornHill$Sheet")] [.ref (a 1), .int c, .int ws] [(a 1, .inr (0, [.int (nI h), .int (nI w), .int pc, .int br, .ref (a 2), .ref (a 3), .ref (a 4)])), (a 2, .inl (cI, 16, .inl kd)), (a 3, .inl (cI, 16, .inl et)), (a 4, .inl (cI, 64, .inl nb))] (vp_Si (fun (r : Int32) => r = (cv (kd j) pc (et j) ws))) := by
  refine RG.of (cc := cX0_inches) (maxL := 4) (ret := (some .int)) (by decide) rfl (Nat.le_of_ble_eq_true rfl) ?_
  intro P_ E_ S_ M_ B_ T_ K_ hx hb hml hr hts hown hlk hP hK ls hl
  have hl : lv_has ls 4 [(0, .ref (a 1)), (1, .int c), (2, .int ws)] := hl
  have hin0 : ∀ x ∈ u_ws RX0 TX0 7, x ∈ wsX0_inches := iwX0_inches_X0
  refine lv_iload_n hx hb dX0_inches_0 rfl (lv_at hl 2 rfl) ?_
  refine lv_aload_n hx hb dX0_inches_1 rfl (lv_at hl 0 rfl) ?_
  refine lv_iload_n hx hb dX0_inches_2 rfl (lv_at hl 1 rfl) ?_
  refine k_ri (run_RV (As := [.int c]) (rest := [.int ws]) ⟨hx, hb, hml, hown, hts⟩ (c_X0_weekly l D cI cJ cO a h w pc br kd et nb c j hv_c hj_c) (cwV 1 hts gX0_inches_X0_weekly rfl rfl rfl (by decide +kernel) ⟨Nat.le_of_ble_eq_true rfl, Nat.le_of_ble_eq_true rfl⟩) hP hK [0, 1, 2, 3] rfl rfl rfl rfl rfl hl.1 rfl (Nat.le_of_ble_eq_true rfl) dX0_inches_3 ⟨Nat.le_refl _, Nat.le_refl _⟩) (fun r_1 q_2 => ?_)
  obtain rfl := q_2
  refine lv_imul hx hb dX0_inches_6 ?_
  refine lv_aload_n hx hb dX0_inches_7 rfl (lv_at hl 0 rfl) ?_
  refine va_get (D := D) (ci := 0) (v := .ref (a 3)) (C := RX0) (T := TX0) (N := 7) hx hb hts hin0 hown hK.1 hP 0 rfl rfl 5 (by decide) (hts _ (List.mem_of_getElem? (i := 1) rfl)) (fun _ h9 => h9) rfl dX0_inches_8 ?_
  refine lv_iload_n hx hb dX0_inches_11 rfl (lv_at hl 1 rfl) ?_
  refine k_iald hx hb hK hP 2 0 rfl rfl (j := j) hv_c hj_c dX0_inches_12 ?_
  refine lv_isub hx hb dX0_inches_13 ?_
  refine lv_istore_n (lv' := [(3, .int ((ws * (wk (kd j) pc)) - (et j))), (0, .ref (a 1)), (1, .int c), (2, .int ws)]) hx hb dX0_inches_14 rfl hl (by decide) rfl (fun ls hl => ?_)
  refine lv_iconst (v := 0) hx hb dX0_inches_15 (by decide) ?_
  refine lv_bipush (v := 9) hx hb dX0_inches_16 (by decide) ?_
  refine lv_iload_n hx hb dX0_inches_18 rfl (lv_at hl 0 rfl) ?_
  refine va_mmin hx hb (hml.trans hl.1.symm) hown (hts _ (List.mem_of_getElem? (i := 2) rfl)) (hts _ (List.mem_of_getElem? (i := 3) rfl)) (hts _ (List.mem_of_getElem? (i := 4) rfl)) (hts _ (List.mem_of_getElem? (i := 5) rfl)) (Nat.le_of_ble_eq_true rfl) (Nat.le_of_ble_eq_true rfl) (Nat.le_refl _) (Nat.le_refl _) dX0_inches_19 ?_
  refine va_mmax hx hb (hml.trans hl.1.symm) hown (hts _ (List.mem_of_getElem? (i := 6) rfl)) (hts _ (List.mem_of_getElem? (i := 7) rfl)) (hts _ (List.mem_of_getElem? (i := 4) rfl)) (hts _ (List.mem_of_getElem? (i := 8) rfl)) (Nat.le_of_ble_eq_true rfl) (Nat.le_of_ble_eq_true rfl) (Nat.le_refl _) (Nat.le_refl _) dX0_inches_22 ?_
  refine ri_ret (v := (if 0 < (if ((ws * (wk (kd j) pc)) - (et j)) < 9 then ((ws * (wk (kd j) pc)) - (et j)) else 9) then (if ((ws * (wk (kd j) pc)) - (et j)) < 9 then ((ws * (wk (kd j) pc)) - (et j)) else 9) else 0)) hx hb hr hlk dX0_inches_25 ?_
  exact cl9_mm _
theorem iwX0_isRipe_X0 : ∀ x ∈ wsX00, x ∈ wsX0_isRipe := by decide +kernel
set_option maxRecDepth 100000 in
set_option maxHeartbeats 4000000 in
/-- X0_isRipe -/
theorem c_X0_isRipe (l : Launch) (D : va_G) (cI cJ cO : ClassId) (a : Nat → Nat) (h : Nat) (w : Nat) (pc : Int32) (br : Int32) (kd : Nat → Int32) (et : Nat → Int32) (nb : Nat → Int32) (c : Int32) (ws : Int32) (j : Nat) (hv_c : vp_in c 16) (hj_c : c.toNatClampNeg = j) : RG l yX0_isRipe wsX0_isRipe 2 44 D [(cI, .int), (cJ, .long), (cO, .object "ShornHill$Sheet")] [.ref (a 1), .int c, .int ws] [(a 1, .inr (0, [.int (nI h), .int (nI w), .int pc, .int br, .ref (a 2), .ref (a 3), .ref (a 4)])), (a 2, .inl (cI, 16, .inl kd)), (a 3, .inl (cI, 16, .inl et)), (a 4, .inl (cI, 64, .inl nb))] (vp_Si (fun (r : Int32) => r = (b2 (ripP pc br (kd j) (et j) ws)))) := by
  refine RG.of (cc := cX0_isRipe) (maxL := 3) (ret := (some .boolean)) (by decide) rfl (Nat.le_of_ble_eq_true rfl) ?_
  intro P_ E_ S_ M_ B_ T_ K_ hx hb hml hr hts hown hlk hP hK ls hl
  have hl : lv_has ls 3 [(0, .ref (a 1)), (1, .int c), (2, .int ws)] := hl
  have hin0 : ∀ x ∈ u_ws RX0 TX0 7, x ∈ wsX0_isRipe := iwX0_isRipe_X0
  refine lv_aload_n hx hb dX0_isRipe_0 rfl (lv_at hl 0 rfl) ?_
  refine va_get (D := D) (ci := 0) (v := .ref (a 2)) (C := RX0) (T := TX0) (N := 7) hx hb hts hin0 hown hK.1 hP 0 rfl rfl 4 (by decide) (hts _ (List.mem_of_getElem? (i := 1) rfl)) (fun _ h9 => h9) rfl dX0_isRipe_1 ?_
  refine lv_iload_n hx hb dX0_isRipe_4 rfl (lv_at hl 1 rfl) ?_
  refine k_iald hx hb hK hP 1 0 rfl rfl (j := j) hv_c hj_c dX0_isRipe_5 ?_
  refine lv_iconst (v := 3) hx hb dX0_isRipe_6 (by decide) ?_
  refine lv_icmp_eq (tgt := 27) hx hb dX0_isRipe_7 (by decide) (fun c_1 => ?_) (fun c_1 => ?_)
  · refine lv_iconst (v := 0) hx hb dX0_isRipe_27 (by decide) ?_
    refine rz_ret (v := 0) hx hb hr hlk dX0_isRipe_28 (by decide) ?_
    refine b2_0 ?_
    try simp only [inN, softP, inS, ripP, Int32.lt_iff_toInt_lt, Int32.le_iff_toInt_le, ← Int32.toInt_inj, ti_0, ti_1, ti_2, ti_3, ti_4, ti_8, ti_9, ti_10, ti_14, ti_15, ti_20, ti_60, ti_m1] at c_1 ⊢
    omega
  · refine lv_aload_n hx hb dX0_isRipe_10 rfl (lv_at hl 0 rfl) ?_
    refine lv_iload_n hx hb dX0_isRipe_11 rfl (lv_at hl 1 rfl) ?_
    refine lv_iload_n hx hb dX0_isRipe_12 rfl (lv_at hl 2 rfl) ?_
    refine k_ri (run_RV (As := [.int c, .int ws]) (rest := []) ⟨hx, hb, hml, hown, hts⟩ (c_X0_inches l D cI cJ cO a h w pc br kd et nb c ws j hv_c hj_c) (cwV 2 hts gX0_isRipe_X0_inches rfl rfl rfl (by decide +kernel) ⟨Nat.le_of_ble_eq_true rfl, Nat.le_of_ble_eq_true rfl⟩) hP hK [0, 1, 2, 3] rfl rfl rfl rfl rfl hl.1 rfl (Nat.le_of_ble_eq_true rfl) dX0_isRipe_13 ⟨Nat.le_refl _, Nat.le_refl _⟩) (fun r_2 q_3 => ?_)
    obtain rfl := q_3
    refine lv_aload_n hx hb dX0_isRipe_16 rfl (lv_at hl 0 rfl) ?_
    refine va_get (D := D) (ci := 0) (v := .int br) (C := RX0) (T := TX0) (N := 7) hx hb hts hin0 hown hK.1 hP 0 rfl rfl 3 (by decide) (hts _ (List.mem_of_getElem? (i := 2) rfl)) (fun _ h9 => h9) rfl dX0_isRipe_17 ?_
    refine lv_icmp_lt (tgt := 27) hx hb dX0_isRipe_20 (by decide) (fun c_4 => ?_) (fun c_4 => ?_)
    · refine lv_iconst (v := 0) hx hb dX0_isRipe_27 (by decide) ?_
      refine rz_ret (v := 0) hx hb hr hlk dX0_isRipe_28 (by decide) ?_
      refine b2_0 ?_
      try simp only [inN, softP, inS, ripP, Int32.lt_iff_toInt_lt, Int32.le_iff_toInt_le, ← Int32.toInt_inj, ti_0, ti_1, ti_2, ti_3, ti_4, ti_8, ti_9, ti_10, ti_14, ti_15, ti_20, ti_60, ti_m1] at c_1 c_4 ⊢
      omega
    · refine lv_iconst (v := 1) hx hb dX0_isRipe_23 (by decide) ?_
      refine lv_goto (tgt := 28) hx hb dX0_isRipe_24 (by decide) ?_
      refine rz_ret (v := 1) hx hb hr hlk dX0_isRipe_28 (by decide) ?_
      refine b2_1 ?_
      try simp only [inN, softP, inS, ripP, Int32.lt_iff_toInt_lt, Int32.le_iff_toInt_le, ← Int32.toInt_inj, ti_0, ti_1, ti_2, ti_3, ti_4, ti_8, ti_9, ti_10, ti_14, ti_15, ti_20, ti_60, ti_m1] at c_1 c_4 ⊢
      omega
set_option maxRecDepth 100000 in
set_option maxHeartbeats 4000000 in
/-- X0_ripeCells -/
theorem c_X0_ripeCells (l : Launch) (D : va_G) (cI cJ cO : ClassId) (a : Nat → Nat) (h : Nat) (w : Nat) (pc : Int32) (br : Int32) (kd : Nat → Int32) (et : Nat → Int32) (nb : Nat → Int32) (ws : Int32) (hn : h * w ≤ 16) : RG l yX0_ripeCells wsX0_ripeCells 3 66 D [(cI, .int), (cJ, .long), (cO, .object "ShornHill$Sheet")] [.ref (a 1), .int ws] [(a 1, .inr (0, [.int (nI h), .int (nI w), .int pc, .int br, .ref (a 2), .ref (a 3), .ref (a 4)])), (a 2, .inl (cI, 16, .inl kd)), (a 3, .inl (cI, 16, .inl et)), (a 4, .inl (cI, 64, .inl nb))] (vp_Si (fun (r : Int32) => r = (ripS pc br kd et ws (h * w)))) := by
  refine RG.of (cc := cX0_ripeCells) (maxL := 4) (ret := (some .int)) (by decide) rfl (Nat.le_of_ble_eq_true rfl) ?_
  intro P_ E_ S_ M_ B_ T_ K_ hx hb hml hr hts hown hlk hP hK ls hl
  have hl : lv_has ls 4 [(0, .ref (a 1)), (1, .int ws)] := hl
  refine lv_iconst (v := 0) hx hb dX0_ripeCells_0 (by decide) ?_
  refine lv_istore_n (lv' := [(2, .int 0), (0, .ref (a 1)), (1, .int ws)]) hx hb dX0_ripeCells_1 rfl hl (by decide) rfl (fun ls hl => ?_)
  refine lv_iconst (v := 0) hx hb dX0_ripeCells_2 (by decide) ?_
  refine lv_istore_n (lv' := [(3, .int 0), (2, .int 0), (0, .ref (a 1)), (1, .int ws)]) hx hb dX0_ripeCells_3 rfl hl (by decide) rfl (fun ls hl => ?_)
  have key_2 : ∀ (n_1 : Nat) (k : Nat) (x2_n_1 : Int32), (k ≤ h * w) → x2_n_1 = (ripS pc br kd et ws k) → h * w - k < n_1 → ∀ ls : Array Slot, lv_has ls 4 [(0, .ref (a 1)), (1, .int ws), (2, .int x2_n_1), (3, .int (nI k))] → W P_ l E_ ({ frames := 3, cells := 0, slots := 0, locals := 66 } : Room) S_ M_ (([.ref (a 1), .int ws] : List Value).toArray) B_ T_ K_ S_.heap [] 0 0 (MQ B_ (vp_Si (fun (r : Int32) => r = (ripS pc br kd et ws (h * w)))) (([.ref (a 1), .int ws] : List Value).toArray) S_ 0 0 (fun _ => False)) (F0 M_ 4 ls []) := by
    intro n_1
    induction n_1 with
    | zero =>
      intro k x2_n_1 hk e_x2_n_1 hmu_n_1
      exact absurd hmu_n_1 (Nat.not_lt_zero _)
    | succ n_1 ih_3 =>
      intro k x2_n_1 hk e_x2_n_1 hmu_n_1 ls hl
      subst e_x2_n_1
      have hl : lv_has ls 4 [(0, .ref (a 1)), (1, .int ws), (2, .int (ripS pc br kd et ws k)), (3, .int (nI k))] := hl
      refine lv_iload_n hx hb dX0_ripeCells_4 rfl (lv_at hl 3 rfl) ?_
      refine lv_aload_n hx hb dX0_ripeCells_5 rfl (lv_at hl 0 rfl) ?_
      refine k_ri (run_RV (As := []) (rest := [.int (nI k)]) ⟨hx, hb, hml, hown, hts⟩ (c_X0_cells l D cI cJ cO a h w pc br kd et nb) (cwV 0 hts gX0_ripeCells_X0_cells rfl rfl rfl (by decide +kernel) ⟨Nat.le_of_ble_eq_true rfl, Nat.le_of_ble_eq_true rfl⟩) hP hK [0, 1, 2, 3] rfl rfl rfl rfl rfl hl.1 rfl (Nat.le_of_ble_eq_true rfl) dX0_ripeCells_6 ⟨Nat.le_refl _, Nat.le_refl _⟩) (fun r_4 q_5 => ?_)
      obtain rfl := q_5
      refine lv_icmp_ge (tgt := 38) hx hb dX0_ripeCells_9 (by decide) (fun c_6 => ?_) (fun c_6 => ?_)
      · have c_6 : h * w ≤ k := (nI_leI (a := h * w) (b := k) (by omega) (by omega)).mp c_6
        refine lv_iload_n hx hb dX0_ripeCells_38 rfl (lv_at hl 2 rfl) ?_
        refine ri_ret (v := (ripS pc br kd et ws k)) hx hb hr hlk dX0_ripeCells_39 ?_
        rw [show k = h * w by omega]
      · have c_6 : k < h * w := Nat.lt_of_not_le (fun z => c_6 ((nI_leI (a := h * w) (b := k) (by omega) (by omega)).mpr z))
        refine lv_iload_n hx hb dX0_ripeCells_12 rfl (lv_at hl 2 rfl) ?_
        refine lv_aload_n hx hb dX0_ripeCells_13 rfl (lv_at hl 0 rfl) ?_
        refine lv_iload_n hx hb dX0_ripeCells_14 rfl (lv_at hl 3 rfl) ?_
        refine lv_iload_n hx hb dX0_ripeCells_15 rfl (lv_at hl 1 rfl) ?_
        refine k_ri (run_RV (As := [.int (nI k), .int ws]) (rest := [.int (ripS pc br kd et ws k)]) ⟨hx, hb, hml, hown, hts⟩ (c_X0_isRipe l D cI cJ cO a h w pc br kd et nb (nI k) ws k (vp_in_nI (show k < 16 by omega) (by decide)) (nI_clamp (by omega))) (cwV 2 hts gX0_ripeCells_X0_isRipe rfl rfl rfl (by decide +kernel) ⟨Nat.le_of_ble_eq_true rfl, Nat.le_of_ble_eq_true rfl⟩) hP hK [0, 1, 2, 3] rfl rfl rfl rfl rfl hl.1 rfl (Nat.le_of_ble_eq_true rfl) dX0_ripeCells_16 ⟨Nat.le_refl _, Nat.le_refl _⟩) (fun r_7 q_8 => ?_)
        obtain rfl := q_8
        refine lv_if_eq (tgt := 29) hx hb dX0_ripeCells_19 (by decide) (fun c_9 => ?_) (fun c_9 => ?_)
        · have c_9 := b2_f c_9
          refine lv_iconst (v := 0) hx hb dX0_ripeCells_29 (by decide) ?_
          refine lv_ior hx hb dX0_ripeCells_30 ?_
          refine lv_istore_n (lv' := [(2, .int ((ripS pc br kd et ws k) ||| 0)), (0, .ref (a 1)), (1, .int ws), (3, .int (nI k))]) hx hb dX0_ripeCells_31 rfl hl (by decide) rfl (fun ls hl => ?_)
          refine lv_iinc (v := (nI (k + 1))) (lv' := [(3, .int (nI (k + 1))), (2, .int ((ripS pc br kd et ws k) ||| 0)), (0, .ref (a 1)), (1, .int ws)]) hx hb dX0_ripeCells_32 hl (k := 3) rfl (nI_add _ 1) (by decide) rfl (fun ls hl => ?_)
          refine lv_goto (tgt := 4) hx hb dX0_ripeCells_35 (by decide) ?_
          exact ih_3 (k + 1) ((ripS pc br kd et ws k) ||| 0) (by omega) (by rw [ripS]; first | rw [if_pos (by assumption)] | rw [if_neg (by assumption)]) (by omega) ls (lv_sub hl [2, 3, 1, 0] rfl)
        · have c_9 := b2_t c_9
          refine lv_iload_n hx hb dX0_ripeCells_22 rfl (lv_at hl 3 rfl) ?_
          refine k_ri (run_RSN (As := [.int (nI k)]) (rest := [.int (ripS pc br kd et ws k)]) ⟨hx, hb, hml, hown, hts⟩ (c_X4_bit l D cI cJ cO (nI k)) ⟨va_cnB 1 hts ggX0_ripeCells_X4_bit rfl rfl rfl (nw_X0_72 hK) (hts _ (List.mem_of_getElem? (i := 32) rfl)) (by decide +kernel) ⟨Nat.le_of_ble_eq_true rfl, Nat.le_of_ble_eq_true rfl⟩, (hts _ (List.mem_of_getElem? (i := 31) rfl)), trivial⟩ hP hK [] rfl rfl hl.1 rfl (Nat.le_of_ble_eq_true rfl) dX0_ripeCells_23 ⟨Nat.le_refl _, Nat.le_refl _⟩) (fun r_10 q_11 => ?_)
          obtain rfl := q_11
          refine lv_goto (tgt := 30) hx hb dX0_ripeCells_26 (by decide) ?_
          refine lv_ior hx hb dX0_ripeCells_30 ?_
          refine lv_istore_n (lv' := [(2, .int ((ripS pc br kd et ws k) ||| (bi (nI k)))), (0, .ref (a 1)), (1, .int ws), (3, .int (nI k))]) hx hb dX0_ripeCells_31 rfl hl (by decide) rfl (fun ls hl => ?_)
          refine lv_iinc (v := (nI (k + 1))) (lv' := [(3, .int (nI (k + 1))), (2, .int ((ripS pc br kd et ws k) ||| (bi (nI k)))), (0, .ref (a 1)), (1, .int ws)]) hx hb dX0_ripeCells_32 hl (k := 3) rfl (nI_add _ 1) (by decide) rfl (fun ls hl => ?_)
          refine lv_goto (tgt := 4) hx hb dX0_ripeCells_35 (by decide) ?_
          exact ih_3 (k + 1) ((ripS pc br kd et ws k) ||| (bi (nI k))) (by omega) (by rw [ripS]; first | rw [if_pos (by assumption)] | rw [if_neg (by assumption)]) (by omega) ls (lv_sub hl [2, 3, 1, 0] rfl)
  exact key_2 _ 0 0 (by omega) rfl (Nat.lt_succ_self _) ls (lv_sub hl [2, 3, 1, 0] rfl)
theorem iwX0_softCells_X0 : ∀ x ∈ wsX00, x ∈ wsX0_softCells := by decide +kernel
set_option maxRecDepth 100000 in
set_option maxHeartbeats 4000000 in
/-- X0_softCells -/
theorem c_X0_softCells (l : Launch) (D : va_G) (cI cJ cO : ClassId) (a : Nat → Nat) (h : Nat) (w : Nat) (pc : Int32) (br : Int32) (kd : Nat → Int32) (et : Nat → Int32) (nb : Nat → Int32) (hn : h * w ≤ 16) : RG l yX0_softCells wsX0_softCells 1 20 D [(cI, .int), (cJ, .long), (cO, .object "ShornHill$Sheet")] [.ref (a 1)] [(a 1, .inr (0, [.int (nI h), .int (nI w), .int pc, .int br, .ref (a 2), .ref (a 3), .ref (a 4)])), (a 2, .inl (cI, 16, .inl kd)), (a 3, .inl (cI, 16, .inl et)), (a 4, .inl (cI, 64, .inl nb))] (vp_Si (fun (r : Int32) => r = (sofS kd (h * w)))) := by
  refine RG.of (cc := cX0_softCells) (maxL := 3) (ret := (some .int)) (by decide) rfl (Nat.le_of_ble_eq_true rfl) ?_
  intro P_ E_ S_ M_ B_ T_ K_ hx hb hml hr hts hown hlk hP hK ls hl
  have hl : lv_has ls 3 [(0, .ref (a 1))] := hl
  have hin0 : ∀ x ∈ u_ws RX0 TX0 7, x ∈ wsX0_softCells := iwX0_softCells_X0
  refine lv_iconst (v := 0) hx hb dX0_softCells_0 (by decide) ?_
  refine lv_istore_n (lv' := [(1, .int 0), (0, .ref (a 1))]) hx hb dX0_softCells_1 rfl hl (by decide) rfl (fun ls hl => ?_)
  refine lv_iconst (v := 0) hx hb dX0_softCells_2 (by decide) ?_
  refine lv_istore_n (lv' := [(2, .int 0), (1, .int 0), (0, .ref (a 1))]) hx hb dX0_softCells_3 rfl hl (by decide) rfl (fun ls hl => ?_)
  have key_2 : ∀ (n_1 : Nat) (k : Nat) (x1_n_1 : Int32), (k ≤ h * w) → x1_n_1 = (sofS kd k) → h * w - k < n_1 → ∀ ls : Array Slot, lv_has ls 3 [(0, .ref (a 1)), (1, .int x1_n_1), (2, .int (nI k))] → W P_ l E_ ({ frames := 1, cells := 0, slots := 0, locals := 20 } : Room) S_ M_ (([.ref (a 1)] : List Value).toArray) B_ T_ K_ S_.heap [] 0 0 (MQ B_ (vp_Si (fun (r : Int32) => r = (sofS kd (h * w)))) (([.ref (a 1)] : List Value).toArray) S_ 0 0 (fun _ => False)) (F0 M_ 4 ls []) := by
    intro n_1
    induction n_1 with
    | zero =>
      intro k x1_n_1 hk e_x1_n_1 hmu_n_1
      exact absurd hmu_n_1 (Nat.not_lt_zero _)
    | succ n_1 ih_3 =>
      intro k x1_n_1 hk e_x1_n_1 hmu_n_1 ls hl
      subst e_x1_n_1
      have hl : lv_has ls 3 [(0, .ref (a 1)), (1, .int (sofS kd k)), (2, .int (nI k))] := hl
      refine lv_iload_n hx hb dX0_softCells_4 rfl (lv_at hl 2 rfl) ?_
      refine lv_aload_n hx hb dX0_softCells_5 rfl (lv_at hl 0 rfl) ?_
      refine k_ri (run_RV (As := []) (rest := [.int (nI k)]) ⟨hx, hb, hml, hown, hts⟩ (c_X0_cells l D cI cJ cO a h w pc br kd et nb) (cwV 0 hts gX0_softCells_X0_cells rfl rfl rfl (by decide +kernel) ⟨Nat.le_of_ble_eq_true rfl, Nat.le_of_ble_eq_true rfl⟩) hP hK [0, 1, 2, 3] rfl rfl rfl rfl rfl hl.1 rfl (Nat.le_of_ble_eq_true rfl) dX0_softCells_6 ⟨Nat.le_refl _, Nat.le_refl _⟩) (fun r_4 q_5 => ?_)
      obtain rfl := q_5
      refine lv_icmp_ge (tgt := 39) hx hb dX0_softCells_9 (by decide) (fun c_6 => ?_) (fun c_6 => ?_)
      · have c_6 : h * w ≤ k := (nI_leI (a := h * w) (b := k) (by omega) (by omega)).mp c_6
        refine lv_iload_n hx hb dX0_softCells_39 rfl (lv_at hl 1 rfl) ?_
        refine ri_ret (v := (sofS kd k)) hx hb hr hlk dX0_softCells_40 ?_
        rw [show k = h * w by omega]
      · have c_6 : k < h * w := Nat.lt_of_not_le (fun z => c_6 ((nI_leI (a := h * w) (b := k) (by omega) (by omega)).mpr z))
        refine lv_iload_n hx hb dX0_softCells_12 rfl (lv_at hl 1 rfl) ?_
        refine lv_aload_n hx hb dX0_softCells_13 rfl (lv_at hl 0 rfl) ?_
        refine va_get (D := D) (ci := 0) (v := .ref (a 2)) (C := RX0) (T := TX0) (N := 7) hx hb hts hin0 hown hK.1 hP 0 rfl rfl 4 (by decide) (hts _ (List.mem_of_getElem? (i := 1) rfl)) (fun _ h9 => h9) rfl dX0_softCells_14 ?_
        refine lv_iload_n hx hb dX0_softCells_17 rfl (lv_at hl 2 rfl) ?_
        refine k_iald hx hb hK hP 1 0 rfl rfl (j := k) (vp_in_nI (show k < 16 by omega) (by decide)) (nI_clamp (by omega)) dX0_softCells_18 ?_
        refine lv_iconst (v := 3) hx hb dX0_softCells_19 (by decide) ?_
        refine lv_icmp_eq (tgt := 30) hx hb dX0_softCells_20 (by decide) (fun c_7 => ?_) (fun c_7 => ?_)
        · refine lv_iconst (v := 0) hx hb dX0_softCells_30 (by decide) ?_
          refine lv_ior hx hb dX0_softCells_31 ?_
          refine lv_istore_n (lv' := [(1, .int ((sofS kd k) ||| 0)), (0, .ref (a 1)), (2, .int (nI k))]) hx hb dX0_softCells_32 rfl hl (by decide) rfl (fun ls hl => ?_)
          refine lv_iinc (v := (nI (k + 1))) (lv' := [(2, .int (nI (k + 1))), (1, .int ((sofS kd k) ||| 0)), (0, .ref (a 1))]) hx hb dX0_softCells_33 hl (k := 2) rfl (nI_add _ 1) (by decide) rfl (fun ls hl => ?_)
          refine lv_goto (tgt := 4) hx hb dX0_softCells_36 (by decide) ?_
          exact ih_3 (k + 1) ((sofS kd k) ||| 0) (by omega) (by rw [sofS]; first | rw [if_pos (by assumption)] | rw [if_neg (by assumption)]) (by omega) ls (lv_sub hl [2, 1, 0] rfl)
        · refine lv_iload_n hx hb dX0_softCells_23 rfl (lv_at hl 2 rfl) ?_
          refine k_ri (run_RSN (As := [.int (nI k)]) (rest := [.int (sofS kd k)]) ⟨hx, hb, hml, hown, hts⟩ (c_X4_bit l D cI cJ cO (nI k)) ⟨va_cnB 1 hts ggX0_softCells_X4_bit rfl rfl rfl (nw_X0_72 hK) (hts _ (List.mem_of_getElem? (i := 10) rfl)) (by decide +kernel) ⟨Nat.le_of_ble_eq_true rfl, Nat.le_of_ble_eq_true rfl⟩, (hts _ (List.mem_of_getElem? (i := 9) rfl)), trivial⟩ hP hK [] rfl rfl hl.1 rfl (Nat.le_of_ble_eq_true rfl) dX0_softCells_24 ⟨Nat.le_refl _, Nat.le_refl _⟩) (fun r_8 q_9 => ?_)
          obtain rfl := q_9
          refine lv_goto (tgt := 31) hx hb dX0_softCells_27 (by decide) ?_
          refine lv_ior hx hb dX0_softCells_31 ?_
          refine lv_istore_n (lv' := [(1, .int ((sofS kd k) ||| (bi (nI k)))), (0, .ref (a 1)), (2, .int (nI k))]) hx hb dX0_softCells_32 rfl hl (by decide) rfl (fun ls hl => ?_)
          refine lv_iinc (v := (nI (k + 1))) (lv' := [(2, .int (nI (k + 1))), (1, .int ((sofS kd k) ||| (bi (nI k)))), (0, .ref (a 1))]) hx hb dX0_softCells_33 hl (k := 2) rfl (nI_add _ 1) (by decide) rfl (fun ls hl => ?_)
          refine lv_goto (tgt := 4) hx hb dX0_softCells_36 (by decide) ?_
          exact ih_3 (k + 1) ((sofS kd k) ||| (bi (nI k))) (by omega) (by rw [sofS]; first | rw [if_pos (by assumption)] | rw [if_neg (by assumption)]) (by omega) ls (lv_sub hl [2, 1, 0] rfl)
  exact key_2 _ 0 0 (by omega) rfl (Nat.lt_succ_self _) ls (lv_sub hl [2, 1, 0] rfl)
set_option maxRecDepth 100000 in
set_option maxHeartbeats 4000000 in
/-- X0_inchesOfAll -/
theorem c_X0_inchesOfAll (l : Launch) (D : va_G) (cI cJ cO : ClassId) (a : Nat → Nat) (h : Nat) (w : Nat) (pc : Int32) (br : Int32) (kd : Nat → Int32) (et : Nat → Int32) (nb : Nat → Int32) (u : Int32) (ws : Int32) (hn : h * w ≤ 16) : RG l yX0_inchesOfAll wsX0_inchesOfAll 2 44 D [(cI, .int), (cJ, .long), (cO, .object "ShornHill$Sheet")] [.ref (a 1), .int u, .int ws] [(a 1, .inr (0, [.int (nI h), .int (nI w), .int pc, .int br, .ref (a 2), .ref (a 3), .ref (a 4)])), (a 2, .inl (cI, 16, .inl kd)), (a 3, .inl (cI, 16, .inl et)), (a 4, .inl (cI, 64, .inl nb))] (vp_Si (fun (r : Int32) => r = (csum u pc kd et ws (h * w)))) := by
  refine RG.of (cc := cX0_inchesOfAll) (maxL := 5) (ret := (some .int)) (by decide) rfl (Nat.le_of_ble_eq_true rfl) ?_
  intro P_ E_ S_ M_ B_ T_ K_ hx hb hml hr hts hown hlk hP hK ls hl
  have hl : lv_has ls 5 [(0, .ref (a 1)), (1, .int u), (2, .int ws)] := hl
  refine lv_iconst (v := 0) hx hb dX0_inchesOfAll_0 (by decide) ?_
  refine lv_istore_n (lv' := [(3, .int 0), (0, .ref (a 1)), (1, .int u), (2, .int ws)]) hx hb dX0_inchesOfAll_1 rfl hl (by decide) rfl (fun ls hl => ?_)
  refine lv_iconst (v := 0) hx hb dX0_inchesOfAll_2 (by decide) ?_
  refine lv_istore (lv' := [(4, .int 0), (3, .int 0), (0, .ref (a 1)), (1, .int u), (2, .int ws)]) hx hb dX0_inchesOfAll_3 hl (by decide) rfl (fun ls hl => ?_)
  have key_2 : ∀ (n_1 : Nat) (k : Nat) (x3_n_1 : Int32), (k ≤ h * w) → x3_n_1 = (csum u pc kd et ws k) → h * w - k < n_1 → ∀ ls : Array Slot, lv_has ls 5 [(0, .ref (a 1)), (1, .int u), (2, .int ws), (3, .int x3_n_1), (4, .int (nI k))] → W P_ l E_ ({ frames := 2, cells := 0, slots := 0, locals := 44 } : Room) S_ M_ (([.ref (a 1), .int u, .int ws] : List Value).toArray) B_ T_ K_ S_.heap [] 0 0 (MQ B_ (vp_Si (fun (r : Int32) => r = (csum u pc kd et ws (h * w)))) (([.ref (a 1), .int u, .int ws] : List Value).toArray) S_ 0 0 (fun _ => False)) (F0 M_ 5 ls []) := by
    intro n_1
    induction n_1 with
    | zero =>
      intro k x3_n_1 hk e_x3_n_1 hmu_n_1
      exact absurd hmu_n_1 (Nat.not_lt_zero _)
    | succ n_1 ih_3 =>
      intro k x3_n_1 hk e_x3_n_1 hmu_n_1 ls hl
      subst e_x3_n_1
      have hl : lv_has ls 5 [(0, .ref (a 1)), (1, .int u), (2, .int ws), (3, .int (csum u pc kd et ws k)), (4, .int (nI k))] := hl
      refine lv_iload hx hb dX0_inchesOfAll_5 (lv_at hl 4 rfl) ?_
      refine lv_aload_n hx hb dX0_inchesOfAll_7 rfl (lv_at hl 0 rfl) ?_
      refine k_ri (run_RV (As := []) (rest := [.int (nI k)]) ⟨hx, hb, hml, hown, hts⟩ (c_X0_cells l D cI cJ cO a h w pc br kd et nb) (cwV 0 hts gX0_inchesOfAll_X0_cells rfl rfl rfl (by decide +kernel) ⟨Nat.le_of_ble_eq_true rfl, Nat.le_of_ble_eq_true rfl⟩) hP hK [0, 1, 2, 3] rfl rfl rfl rfl rfl hl.1 rfl (Nat.le_of_ble_eq_true rfl) dX0_inchesOfAll_8 ⟨Nat.le_refl _, Nat.le_refl _⟩) (fun r_4 q_5 => ?_)
      obtain rfl := q_5
      refine lv_icmp_ge (tgt := 43) hx hb dX0_inchesOfAll_11 (by decide) (fun c_6 => ?_) (fun c_6 => ?_)
      · have c_6 : h * w ≤ k := (nI_leI (a := h * w) (b := k) (by omega) (by omega)).mp c_6
        refine lv_iload_n hx hb dX0_inchesOfAll_43 rfl (lv_at hl 3 rfl) ?_
        refine ri_ret (v := (csum u pc kd et ws k)) hx hb hr hlk dX0_inchesOfAll_44 ?_
        rw [show k = h * w by omega]
      · have c_6 : k < h * w := Nat.lt_of_not_le (fun z => c_6 ((nI_leI (a := h * w) (b := k) (by omega) (by omega)).mpr z))
        refine lv_iload_n hx hb dX0_inchesOfAll_14 rfl (lv_at hl 3 rfl) ?_
        refine lv_iload_n hx hb dX0_inchesOfAll_15 rfl (lv_at hl 1 rfl) ?_
        refine lv_iload hx hb dX0_inchesOfAll_16 (lv_at hl 4 rfl) ?_
        refine k_ri (run_RSN (As := [.int u, .int (nI k)]) (rest := [.int (csum u pc kd et ws k)]) ⟨hx, hb, hml, hown, hts⟩ (c_X4_isIn l D cI cJ cO u (nI k)) ⟨va_cnB 2 hts ggX0_inchesOfAll_X4_isIn rfl rfl rfl (nw_X0_62 hK) (hts _ (List.mem_of_getElem? (i := 9) rfl)) (by decide +kernel) ⟨Nat.le_of_ble_eq_true rfl, Nat.le_of_ble_eq_true rfl⟩, (hts _ (List.mem_of_getElem? (i := 8) rfl)), trivial⟩ hP hK [] rfl rfl hl.1 rfl (Nat.le_of_ble_eq_true rfl) dX0_inchesOfAll_18 ⟨Nat.le_refl _, Nat.le_refl _⟩) (fun r_7 q_8 => ?_)
        obtain rfl := q_8
        refine lv_if_eq (tgt := 34) hx hb dX0_inchesOfAll_21 (by decide) (fun c_9 => ?_) (fun c_9 => ?_)
        · have c_9 := b2_f c_9
          refine lv_iconst (v := 0) hx hb dX0_inchesOfAll_34 (by decide) ?_
          refine lv_iadd hx hb dX0_inchesOfAll_35 ?_
          refine lv_istore_n (lv' := [(3, .int ((csum u pc kd et ws k) + 0)), (0, .ref (a 1)), (1, .int u), (2, .int ws), (4, .int (nI k))]) hx hb dX0_inchesOfAll_36 rfl hl (by decide) rfl (fun ls hl => ?_)
          refine lv_iinc (v := (nI (k + 1))) (lv' := [(4, .int (nI (k + 1))), (3, .int ((csum u pc kd et ws k) + 0)), (0, .ref (a 1)), (1, .int u), (2, .int ws)]) hx hb dX0_inchesOfAll_37 hl (k := 4) rfl (nI_add _ 1) (by decide) rfl (fun ls hl => ?_)
          refine lv_goto (tgt := 5) hx hb dX0_inchesOfAll_40 (by decide) ?_
          exact ih_3 (k + 1) ((csum u pc kd et ws k) + 0) (by omega) (by rw [csum]; first | rw [if_pos (by assumption)] | rw [if_neg (by assumption)]) (by omega) ls (lv_sub hl [2, 3, 4, 1, 0] rfl)
        · have c_9 := b2_t c_9
          refine lv_aload_n hx hb dX0_inchesOfAll_24 rfl (lv_at hl 0 rfl) ?_
          refine lv_iload hx hb dX0_inchesOfAll_25 (lv_at hl 4 rfl) ?_
          refine lv_iload_n hx hb dX0_inchesOfAll_27 rfl (lv_at hl 2 rfl) ?_
          refine k_ri (run_RV (As := [.int (nI k), .int ws]) (rest := [.int (csum u pc kd et ws k)]) ⟨hx, hb, hml, hown, hts⟩ (c_X0_inches l D cI cJ cO a h w pc br kd et nb (nI k) ws k (vp_in_nI (show k < 16 by omega) (by decide)) (nI_clamp (by omega))) (cwV 2 hts gX0_inchesOfAll_X0_inches rfl rfl rfl (by decide +kernel) ⟨Nat.le_of_ble_eq_true rfl, Nat.le_of_ble_eq_true rfl⟩) hP hK [0, 1, 2, 3] rfl rfl rfl rfl rfl hl.1 rfl (Nat.le_of_ble_eq_true rfl) dX0_inchesOfAll_28 ⟨Nat.le_refl _, Nat.le_refl _⟩) (fun r_10 q_11 => ?_)
          obtain rfl := q_11
          refine lv_goto (tgt := 35) hx hb dX0_inchesOfAll_31 (by decide) ?_
          refine lv_iadd hx hb dX0_inchesOfAll_35 ?_
          refine lv_istore_n (lv' := [(3, .int ((csum u pc kd et ws k) + (cv (kd k) pc (et k) ws))), (0, .ref (a 1)), (1, .int u), (2, .int ws), (4, .int (nI k))]) hx hb dX0_inchesOfAll_36 rfl hl (by decide) rfl (fun ls hl => ?_)
          refine lv_iinc (v := (nI (k + 1))) (lv' := [(4, .int (nI (k + 1))), (3, .int ((csum u pc kd et ws k) + (cv (kd k) pc (et k) ws))), (0, .ref (a 1)), (1, .int u), (2, .int ws)]) hx hb dX0_inchesOfAll_37 hl (k := 4) rfl (nI_add _ 1) (by decide) rfl (fun ls hl => ?_)
          refine lv_goto (tgt := 5) hx hb dX0_inchesOfAll_40 (by decide) ?_
          exact ih_3 (k + 1) ((csum u pc kd et ws k) + (cv (kd k) pc (et k) ws)) (by omega) (by rw [csum]; first | rw [if_pos (by assumption)] | rw [if_neg (by assumption)]) (by omega) ls (lv_sub hl [2, 3, 4, 1, 0] rfl)
  exact key_2 _ 0 0 (by omega) rfl (Nat.lt_succ_self _) ls (lv_sub hl [2, 3, 4, 1, 0] rfl)
set_option maxRecDepth 100000 in
set_option maxHeartbeats 4000000 in
/-- X0_isAllRipe -/
theorem c_X0_isAllRipe (l : Launch) (D : va_G) (cI cJ cO : ClassId) (a : Nat → Nat) (h : Nat) (w : Nat) (pc : Int32) (br : Int32) (kd : Nat → Int32) (et : Nat → Int32) (nb : Nat → Int32) (ws : Int32) (hn : h * w ≤ 16) : RG l yX0_isAllRipe wsX0_isAllRipe 4 89 D [(cI, .int), (cJ, .long), (cO, .object "ShornHill$Sheet")] [.ref (a 1), .int ws] [(a 1, .inr (0, [.int (nI h), .int (nI w), .int pc, .int br, .ref (a 2), .ref (a 3), .ref (a 4)])), (a 2, .inl (cI, 16, .inl kd)), (a 3, .inl (cI, 16, .inl et)), (a 4, .inl (cI, 64, .inl nb))] (vp_Si (fun (r : Int32) => r = (b2 (ripS pc br kd et ws (h * w) = sofS kd (h * w))))) := by
  refine RG.of (cc := cX0_isAllRipe) (maxL := 2) (ret := (some .boolean)) (by decide) rfl (Nat.le_of_ble_eq_true rfl) ?_
  intro P_ E_ S_ M_ B_ T_ K_ hx hb hml hr hts hown hlk hP hK ls hl
  have hl : lv_has ls 2 [(0, .ref (a 1)), (1, .int ws)] := hl
  refine lv_aload_n hx hb dX0_isAllRipe_0 rfl (lv_at hl 0 rfl) ?_
  refine lv_iload_n hx hb dX0_isAllRipe_1 rfl (lv_at hl 1 rfl) ?_
  refine k_ri (run_RV (As := [.int ws]) (rest := []) ⟨hx, hb, hml, hown, hts⟩ (c_X0_ripeCells l D cI cJ cO a h w pc br kd et nb ws hn) (cwV 1 hts gX0_isAllRipe_X0_ripeCells rfl rfl rfl (by decide +kernel) ⟨Nat.le_of_ble_eq_true rfl, Nat.le_of_ble_eq_true rfl⟩) hP hK [0, 1, 2, 3] rfl rfl rfl rfl rfl hl.1 rfl (Nat.le_of_ble_eq_true rfl) dX0_isAllRipe_2 ⟨Nat.le_refl _, Nat.le_refl _⟩) (fun r_1 q_2 => ?_)
  obtain rfl := q_2
  refine lv_aload_n hx hb dX0_isAllRipe_5 rfl (lv_at hl 0 rfl) ?_
  refine k_ri (run_RV (As := []) (rest := [.int (ripS pc br kd et ws (h * w))]) ⟨hx, hb, hml, hown, hts⟩ (c_X0_softCells l D cI cJ cO a h w pc br kd et nb hn) (cwV 0 hts gX0_isAllRipe_X0_softCells rfl rfl rfl (by decide +kernel) ⟨Nat.le_of_ble_eq_true rfl, Nat.le_of_ble_eq_true rfl⟩) hP hK [0, 1, 2, 3] rfl rfl rfl rfl rfl hl.1 rfl (Nat.le_of_ble_eq_true rfl) dX0_isAllRipe_6 ⟨Nat.le_refl _, Nat.le_refl _⟩) (fun r_3 q_4 => ?_)
  obtain rfl := q_4
  refine lv_icmp_ne (tgt := 16) hx hb dX0_isAllRipe_9 (by decide) (fun c_5 => ?_) (fun c_5 => ?_)
  · refine lv_iconst (v := 0) hx hb dX0_isAllRipe_16 (by decide) ?_
    refine rz_ret (v := 0) hx hb hr hlk dX0_isAllRipe_17 (by decide) ?_
    refine b2_0 ?_
    try simp only [inN, softP, inS, ripP, Int32.lt_iff_toInt_lt, Int32.le_iff_toInt_le, ← Int32.toInt_inj, ti_0, ti_1, ti_2, ti_3, ti_4, ti_8, ti_9, ti_10, ti_14, ti_15, ti_20, ti_60, ti_m1] at c_5 ⊢
    omega
  · refine lv_iconst (v := 1) hx hb dX0_isAllRipe_12 (by decide) ?_
    refine lv_goto (tgt := 17) hx hb dX0_isAllRipe_13 (by decide) ?_
    refine rz_ret (v := 1) hx hb hr hlk dX0_isAllRipe_17 (by decide) ?_
    refine b2_1 ?_
    try simp only [inN, softP, inS, ripP, Int32.lt_iff_toInt_lt, Int32.le_iff_toInt_le, ← Int32.toInt_inj, ti_0, ti_1, ti_2, ti_3, ti_4, ti_8, ti_9, ti_10, ti_14, ti_15, ti_20, ti_60, ti_m1] at c_5 ⊢
    omega
theorem iwX0_beside_X0 : ∀ x ∈ wsX00, x ∈ wsX0_beside := by decide +kernel
set_option maxRecDepth 100000 in
set_option maxHeartbeats 4000000 in
/-- X0_beside -/
theorem c_X0_beside (l : Launch) (D : va_G) (cI cJ cO : ClassId) (a : Nat → Nat) (h : Nat) (w : Nat) (pc : Int32) (br : Int32) (kd : Nat → Int32) (et : Nat → Int32) (nb : Nat → Int32) (c : Int32) (t : Int32) (j : Nat) (u : Nat) (hv_c : vp_in c 16) (hj_c : c.toNatClampNeg = j) (hv_t : vp_in t 4) (hj_t : t.toNatClampNeg = u) : RG l yX0_beside wsX0_beside 0 0 D [(cI, .int), (cJ, .long), (cO, .object "ShornHill$Sheet")] [.ref (a 1), .int c, .int t] [(a 1, .inr (0, [.int (nI h), .int (nI w), .int pc, .int br, .ref (a 2), .ref (a 3), .ref (a 4)])), (a 2, .inl (cI, 16, .inl kd)), (a 3, .inl (cI, 16, .inl et)), (a 4, .inl (cI, 64, .inl nb))] (vp_Si (fun (r : Int32) => r = (nb (4 * j + u)))) := by
  refine RG.of (cc := cX0_beside) (maxL := 3) (ret := (some .int)) (by decide) rfl (Nat.le_of_ble_eq_true rfl) ?_
  intro P_ E_ S_ M_ B_ T_ K_ hx hb hml hr hts hown hlk hP hK ls hl
  have hl : lv_has ls 3 [(0, .ref (a 1)), (1, .int c), (2, .int t)] := hl
  have hin0 : ∀ x ∈ u_ws RX0 TX0 7, x ∈ wsX0_beside := iwX0_beside_X0
  refine lv_aload_n hx hb dX0_beside_0 rfl (lv_at hl 0 rfl) ?_
  refine va_get (D := D) (ci := 0) (v := .ref (a 4)) (C := RX0) (T := TX0) (N := 7) hx hb hts hin0 hown hK.1 hP 0 rfl rfl 6 (by decide) (hts _ (List.mem_of_getElem? (i := 1) rfl)) (fun _ h9 => h9) rfl dX0_beside_1 ?_
  refine lv_iconst (v := 4) hx hb dX0_beside_4 (by decide) ?_
  refine lv_iload_n hx hb dX0_beside_5 rfl (lv_at hl 1 rfl) ?_
  refine lv_imul hx hb dX0_beside_6 ?_
  refine lv_iload_n hx hb dX0_beside_7 rfl (lv_at hl 2 rfl) ?_
  refine lv_iadd hx hb dX0_beside_8 ?_
  refine k_iald hx hb hK hP 3 0 rfl rfl (j := 4 * j + u) (ix4 hv_c hj_c hv_t hj_t).1 (ix4 hv_c hj_c hv_t hj_t).2 dX0_beside_9 ?_
  refine ri_ret (v := (nb (4 * j + u))) hx hb hr hlk dX0_beside_10 ?_
  rfl
