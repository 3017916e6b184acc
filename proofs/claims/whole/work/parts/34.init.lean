theorem iwX0_init_X0 : ∀ x ∈ wsX00, x ∈ wsX0_init := by decide +kernel
set_option maxRecDepth 100000 in
set_option maxHeartbeats 4000000 in
/-- X0_init -/
theorem c_X0_init (l : Launch) (D : va_G) (cI cJ cO : ClassId) (p : Nat) : MG l yX0_init wsX0_init 1 12 3 96 D [(cI, .int), (cJ, .long), (cO, .object "ShornHill$Sheet")] [.ref p] [(p, .inr (0, [.int 0, .int 0, .int 0, .int 0, .null, .null, .null]))] (QV D (fun (w1 : va_W) => ∃ (b1 : Nat) (b2 : Nat) (b3 : Nat), w1 = [(p, .inr (0, [.int 0, .int 0, .int 0, .int 0, .ref b1, .ref b2, .ref b3])), (b1, .inl (cI, 16, .inl (fun _ => 0))), (b2, .inl (cI, 16, .inl (fun _ => 0))), (b3, .inl (cI, 64, .inl (fun _ => 0)))])) := by
  refine MG.of (cc := cX0_init) (maxL := 1) (ret := none) (by decide) rfl (Nat.le_of_ble_eq_true rfl) ?_
  intro P_ E_ S_ M_ B_ T_ K_ hx hb hml hr hts hown hlk hnm A hA hP hK hD hS ls hl
  have hl : lv_has ls 1 [(0, .ref p)] := hl
  have hin0 : ∀ x ∈ u_ws RX0 TX0 7, x ∈ wsX0_init := iwX0_init_X0
  refine lv_aload_n hx hb dX0_init_0 rfl (lv_at hl 0 rfl) ?_
  refine W.objInit hx hb hown (hts _ (List.mem_of_getElem? (i := 1) rfl)) (hts _ (List.mem_of_getElem? (i := 2) rfl)) (hts _ (List.mem_of_getElem? (i := 3) rfl)) rfl (by rw [hml]; exact hl.1) rfl dX0_init_1 (Nat.le_of_ble_eq_true rfl) (Nat.le_of_ble_eq_true rfl) ?_
  refine W.eq (g2 := F0 M_ 4 ls []) rfl ?_
  refine lv_aload_n hx hb dX0_init_4 rfl (lv_at hl 0 rfl) ?_
  refine lv_iconst (v := 0) hx hb dX0_init_5 (by decide) ?_
  refine va_put (D := D) (ci := 0) (v := .int 0) (ty := .int) (C := RX0) (T := TX0) (N := 7) hx hb hts hin0 tyX0 tyX0_ok nmX0 hown hK.1 hP hD hS 0 rfl rfl 0 (by decide) (hts _ (List.mem_of_getElem? (i := 4) rfl)) (fun _ h9 => h9) rfl (by decide +kernel) rfl rfl (Nat.le_of_ble_eq_true rfl) dX0_init_6 (fun H locs hP hD hS => ?_)
  have hP : va_P D vwCl [(p, .inr (0, [.int 0, .int 0, .int 0, .int 0, .null, .null, .null]))] H := hP
  have hD : va_D A [(p, .inr (0, [.int 0, .int 0, .int 0, .int 0, .null, .null, .null]))] := hD
  refine lv_aload_n hx hb dX0_init_9 rfl (lv_at hl 0 rfl) ?_
  refine lv_iconst (v := 0) hx hb dX0_init_10 (by decide) ?_
  refine va_put (D := D) (ci := 0) (v := .int 0) (ty := .int) (C := RX0) (T := TX0) (N := 7) hx hb hts hin0 tyX0 tyX0_ok nmX0 hown hK.1 hP hD hS 0 rfl rfl 1 (by decide) (hts _ (List.mem_of_getElem? (i := 5) rfl)) (fun _ h9 => h9) rfl (by decide +kernel) rfl rfl (Nat.le_of_ble_eq_true rfl) dX0_init_11 (fun H locs hP hD hS => ?_)
  have hP : va_P D vwCl [(p, .inr (0, [.int 0, .int 0, .int 0, .int 0, .null, .null, .null]))] H := hP
  have hD : va_D A [(p, .inr (0, [.int 0, .int 0, .int 0, .int 0, .null, .null, .null]))] := hD
  refine lv_aload_n hx hb dX0_init_14 rfl (lv_at hl 0 rfl) ?_
  refine lv_iconst (v := 0) hx hb dX0_init_15 (by decide) ?_
  refine va_put (D := D) (ci := 0) (v := .int 0) (ty := .int) (C := RX0) (T := TX0) (N := 7) hx hb hts hin0 tyX0 tyX0_ok nmX0 hown hK.1 hP hD hS 0 rfl rfl 2 (by decide) (hts _ (List.mem_of_getElem? (i := 6) rfl)) (fun _ h9 => h9) rfl (by decide +kernel) rfl rfl (Nat.le_of_ble_eq_true rfl) dX0_init_16 (fun H locs hP hD hS => ?_)
  have hP : va_P D vwCl [(p, .inr (0, [.int 0, .int 0, .int 0, .int 0, .null, .null, .null]))] H := hP
  have hD : va_D A [(p, .inr (0, [.int 0, .int 0, .int 0, .int 0, .null, .null, .null]))] := hD
  refine lv_aload_n hx hb dX0_init_19 rfl (lv_at hl 0 rfl) ?_
  refine lv_iconst (v := 0) hx hb dX0_init_20 (by decide) ?_
  refine va_put (D := D) (ci := 0) (v := .int 0) (ty := .int) (C := RX0) (T := TX0) (N := 7) hx hb hts hin0 tyX0 tyX0_ok nmX0 hown hK.1 hP hD hS 0 rfl rfl 3 (by decide) (hts _ (List.mem_of_getElem? (i := 7) rfl)) (fun _ h9 => h9) rfl (by decide +kernel) rfl rfl (Nat.le_of_ble_eq_true rfl) dX0_init_21 (fun H locs hP hD hS => ?_)
  have hP : va_P D vwCl [(p, .inr (0, [.int 0, .int 0, .int 0, .int 0, .null, .null, .null]))] H := hP
  have hD : va_D A [(p, .inr (0, [.int 0, .int 0, .int 0, .int 0, .null, .null, .null]))] := hD
  refine lv_aload_n hx hb dX0_init_24 rfl (lv_at hl 0 rfl) ?_
  refine lv_bipush (v := 16) hx hb dX0_init_25 (by decide) ?_
  refine k_newi hx hb (hts _ (List.mem_of_getElem? (i := 8) rfl)) hK 0 rfl hP hD hS hA (N := 16) (k := 1) (z := 16) (by decide) rfl (Nat.le_of_ble_eq_true rfl) (Nat.le_of_ble_eq_true rfl) (Nat.le_of_ble_eq_true rfl) rfl rfl dX0_init_27 (fun q_1 H hP hD hS => ?_)
  have hP : va_P D vwCl [(p, .inr (0, [.int 0, .int 0, .int 0, .int 0, .null, .null, .null])), (q_1, .inl (cI, 16, .inl (fun _ => 0)))] H := hP
  have hD : va_D A [(p, .inr (0, [.int 0, .int 0, .int 0, .int 0, .null, .null, .null])), (q_1, .inl (cI, 16, .inl (fun _ => 0)))] := hD
  refine va_putF (D := D) (ci := 0) (v := .ref q_1) (ty := .array .int) (C := RX0) (T := TX0) (N := 7) hx hb hts hin0 tyX0 tyX0_ok nmX0 hown hK.1 hP hD hS 0 rfl rfl 4 (by decide) (hts _ (List.mem_of_getElem? (i := 9) rfl)) (fun _ h9 => h9) rfl hnm rfl (by decide +kernel) rfl rfl (Nat.le_of_ble_eq_true rfl) dX0_init_29 (fun H locs hP hD hS => ?_)
  have hP : va_P D vwCl [(p, .inr (0, [.int 0, .int 0, .int 0, .int 0, .ref q_1, .null, .null])), (q_1, .inl (cI, 16, .inl (fun _ => 0)))] H := hP
  have hD : va_D A [(p, .inr (0, [.int 0, .int 0, .int 0, .int 0, .ref q_1, .null, .null])), (q_1, .inl (cI, 16, .inl (fun _ => 0)))] := hD
  refine lv_aload_n hx hb dX0_init_32 rfl (lv_at hl 0 rfl) ?_
  refine lv_bipush (v := 16) hx hb dX0_init_33 (by decide) ?_
  refine k_newi hx hb (hts _ (List.mem_of_getElem? (i := 8) rfl)) hK 0 rfl hP hD hS hA (N := 16) (k := 2) (z := 32) (by decide) rfl (Nat.le_of_ble_eq_true rfl) (Nat.le_of_ble_eq_true rfl) (Nat.le_of_ble_eq_true rfl) rfl rfl dX0_init_35 (fun q_2 H hP hD hS => ?_)
  have hP : va_P D vwCl [(p, .inr (0, [.int 0, .int 0, .int 0, .int 0, .ref q_1, .null, .null])), (q_1, .inl (cI, 16, .inl (fun _ => 0))), (q_2, .inl (cI, 16, .inl (fun _ => 0)))] H := hP
  have hD : va_D A [(p, .inr (0, [.int 0, .int 0, .int 0, .int 0, .ref q_1, .null, .null])), (q_1, .inl (cI, 16, .inl (fun _ => 0))), (q_2, .inl (cI, 16, .inl (fun _ => 0)))] := hD
  refine va_putF (D := D) (ci := 0) (v := .ref q_2) (ty := .array .int) (C := RX0) (T := TX0) (N := 7) hx hb hts hin0 tyX0 tyX0_ok nmX0 hown hK.1 hP hD hS 0 rfl rfl 5 (by decide) (hts _ (List.mem_of_getElem? (i := 10) rfl)) (fun _ h9 => h9) rfl hnm rfl (by decide +kernel) rfl rfl (Nat.le_of_ble_eq_true rfl) dX0_init_37 (fun H locs hP hD hS => ?_)
  have hP : va_P D vwCl [(p, .inr (0, [.int 0, .int 0, .int 0, .int 0, .ref q_1, .ref q_2, .null])), (q_1, .inl (cI, 16, .inl (fun _ => 0))), (q_2, .inl (cI, 16, .inl (fun _ => 0)))] H := hP
  have hD : va_D A [(p, .inr (0, [.int 0, .int 0, .int 0, .int 0, .ref q_1, .ref q_2, .null])), (q_1, .inl (cI, 16, .inl (fun _ => 0))), (q_2, .inl (cI, 16, .inl (fun _ => 0)))] := hD
  refine lv_aload_n hx hb dX0_init_40 rfl (lv_at hl 0 rfl) ?_
  refine lv_bipush (v := 64) hx hb dX0_init_41 (by decide) ?_
  refine k_newi hx hb (hts _ (List.mem_of_getElem? (i := 8) rfl)) hK 0 rfl hP hD hS hA (N := 64) (k := 3) (z := 96) (by decide) rfl (Nat.le_of_ble_eq_true rfl) (Nat.le_of_ble_eq_true rfl) (Nat.le_of_ble_eq_true rfl) rfl rfl dX0_init_43 (fun q_3 H hP hD hS => ?_)
  have hP : va_P D vwCl [(p, .inr (0, [.int 0, .int 0, .int 0, .int 0, .ref q_1, .ref q_2, .null])), (q_1, .inl (cI, 16, .inl (fun _ => 0))), (q_2, .inl (cI, 16, .inl (fun _ => 0))), (q_3, .inl (cI, 64, .inl (fun _ => 0)))] H := hP
  have hD : va_D A [(p, .inr (0, [.int 0, .int 0, .int 0, .int 0, .ref q_1, .ref q_2, .null])), (q_1, .inl (cI, 16, .inl (fun _ => 0))), (q_2, .inl (cI, 16, .inl (fun _ => 0))), (q_3, .inl (cI, 64, .inl (fun _ => 0)))] := hD
  refine va_putF (D := D) (ci := 0) (v := .ref q_3) (ty := .array .int) (C := RX0) (T := TX0) (N := 7) hx hb hts hin0 tyX0 tyX0_ok nmX0 hown hK.1 hP hD hS 0 rfl rfl 6 (by decide) (hts _ (List.mem_of_getElem? (i := 11) rfl)) (fun _ h9 => h9) rfl hnm rfl (by decide +kernel) rfl rfl (Nat.le_of_ble_eq_true rfl) dX0_init_45 (fun H locs hP hD hS => ?_)
  have hP : va_P D vwCl [(p, .inr (0, [.int 0, .int 0, .int 0, .int 0, .ref q_1, .ref q_2, .ref q_3])), (q_1, .inl (cI, 16, .inl (fun _ => 0))), (q_2, .inl (cI, 16, .inl (fun _ => 0))), (q_3, .inl (cI, 64, .inl (fun _ => 0)))] H := hP
  have hD : va_D A [(p, .inr (0, [.int 0, .int 0, .int 0, .int 0, .ref q_1, .ref q_2, .ref q_3])), (q_1, .inl (cI, 16, .inl (fun _ => 0))), (q_2, .inl (cI, 16, .inl (fun _ => 0))), (q_3, .inl (cI, 64, .inl (fun _ => 0)))] := hD
  refine mv_ret hx hb hr hlk hP hD hS dX0_init_48 ?_
  exact ⟨_, _, _, rfl⟩
theorem iwX1_init_X1 : ∀ x ∈ wsX10, x ∈ wsX1_init := by decide +kernel
set_option maxRecDepth 100000 in
set_option maxHeartbeats 4000000 in
/-- X1_init -/
theorem c_X1_init (l : Launch) (D : va_G) (cI cJ cO : ClassId) (p : Nat) : MG l yX1_init wsX1_init 1 12 3 24 D [(cI, .int), (cJ, .long), (cO, .object "ShornHill$Sheet")] [.ref p] [(p, .inr (1, [.int 0, .null, .null, .null]))] (QV D (fun (w1 : va_W) => ∃ (b1 : Nat) (b2 : Nat) (b3 : Nat), w1 = [(p, .inr (1, [.int 0, .ref b1, .ref b2, .ref b3])), (b1, .inl (cI, 8, .inl (fun _ => 0))), (b2, .inl (cI, 8, .inl (fun _ => 0))), (b3, .inl (cI, 8, .inl (fun _ => 0)))])) := by
  refine MG.of (cc := cX1_init) (maxL := 1) (ret := none) (by decide) rfl (Nat.le_of_ble_eq_true rfl) ?_
  intro P_ E_ S_ M_ B_ T_ K_ hx hb hml hr hts hown hlk hnm A hA hP hK hD hS ls hl
  have hl : lv_has ls 1 [(0, .ref p)] := hl
  have hin1 : ∀ x ∈ u_ws RX1 TX1 4, x ∈ wsX1_init := iwX1_init_X1
  refine lv_aload_n hx hb dX1_init_0 rfl (lv_at hl 0 rfl) ?_
  refine W.objInit hx hb hown (hts _ (List.mem_of_getElem? (i := 1) rfl)) (hts _ (List.mem_of_getElem? (i := 2) rfl)) (hts _ (List.mem_of_getElem? (i := 3) rfl)) rfl (by rw [hml]; exact hl.1) rfl dX1_init_1 (Nat.le_of_ble_eq_true rfl) (Nat.le_of_ble_eq_true rfl) ?_
  refine W.eq (g2 := F0 M_ 4 ls []) rfl ?_
  refine lv_aload_n hx hb dX1_init_4 rfl (lv_at hl 0 rfl) ?_
  refine lv_iconst (v := 0) hx hb dX1_init_5 (by decide) ?_
  refine va_put (D := D) (ci := 1) (v := .int 0) (ty := .int) (C := RX1) (T := TX1) (N := 4) hx hb hts hin1 tyX1 tyX1_ok nmX1 hown hK.1 hP hD hS 0 rfl rfl 0 (by decide) (hts _ (List.mem_of_getElem? (i := 4) rfl)) (fun _ h9 => h9) rfl (by decide +kernel) rfl rfl (Nat.le_of_ble_eq_true rfl) dX1_init_6 (fun H locs hP hD hS => ?_)
  have hP : va_P D vwCl [(p, .inr (1, [.int 0, .null, .null, .null]))] H := hP
  have hD : va_D A [(p, .inr (1, [.int 0, .null, .null, .null]))] := hD
  refine lv_aload_n hx hb dX1_init_9 rfl (lv_at hl 0 rfl) ?_
  refine lv_bipush (v := 8) hx hb dX1_init_10 (by decide) ?_
  refine k_newi hx hb (hts _ (List.mem_of_getElem? (i := 5) rfl)) hK 0 rfl hP hD hS hA (N := 8) (k := 1) (z := 8) (by decide) rfl (Nat.le_of_ble_eq_true rfl) (Nat.le_of_ble_eq_true rfl) (Nat.le_of_ble_eq_true rfl) rfl rfl dX1_init_12 (fun q_1 H hP hD hS => ?_)
  have hP : va_P D vwCl [(p, .inr (1, [.int 0, .null, .null, .null])), (q_1, .inl (cI, 8, .inl (fun _ => 0)))] H := hP
  have hD : va_D A [(p, .inr (1, [.int 0, .null, .null, .null])), (q_1, .inl (cI, 8, .inl (fun _ => 0)))] := hD
  refine va_putF (D := D) (ci := 1) (v := .ref q_1) (ty := .array .int) (C := RX1) (T := TX1) (N := 4) hx hb hts hin1 tyX1 tyX1_ok nmX1 hown hK.1 hP hD hS 0 rfl rfl 1 (by decide) (hts _ (List.mem_of_getElem? (i := 6) rfl)) (fun _ h9 => h9) rfl hnm rfl (by decide +kernel) rfl rfl (Nat.le_of_ble_eq_true rfl) dX1_init_14 (fun H locs hP hD hS => ?_)
  have hP : va_P D vwCl [(p, .inr (1, [.int 0, .ref q_1, .null, .null])), (q_1, .inl (cI, 8, .inl (fun _ => 0)))] H := hP
  have hD : va_D A [(p, .inr (1, [.int 0, .ref q_1, .null, .null])), (q_1, .inl (cI, 8, .inl (fun _ => 0)))] := hD
  refine lv_aload_n hx hb dX1_init_17 rfl (lv_at hl 0 rfl) ?_
  refine lv_bipush (v := 8) hx hb dX1_init_18 (by decide) ?_
  refine k_newi hx hb (hts _ (List.mem_of_getElem? (i := 5) rfl)) hK 0 rfl hP hD hS hA (N := 8) (k := 2) (z := 16) (by decide) rfl (Nat.le_of_ble_eq_true rfl) (Nat.le_of_ble_eq_true rfl) (Nat.le_of_ble_eq_true rfl) rfl rfl dX1_init_20 (fun q_2 H hP hD hS => ?_)
  have hP : va_P D vwCl [(p, .inr (1, [.int 0, .ref q_1, .null, .null])), (q_1, .inl (cI, 8, .inl (fun _ => 0))), (q_2, .inl (cI, 8, .inl (fun _ => 0)))] H := hP
  have hD : va_D A [(p, .inr (1, [.int 0, .ref q_1, .null, .null])), (q_1, .inl (cI, 8, .inl (fun _ => 0))), (q_2, .inl (cI, 8, .inl (fun _ => 0)))] := hD
  refine va_putF (D := D) (ci := 1) (v := .ref q_2) (ty := .array .int) (C := RX1) (T := TX1) (N := 4) hx hb hts hin1 tyX1 tyX1_ok nmX1 hown hK.1 hP hD hS 0 rfl rfl 2 (by decide) (hts _ (List.mem_of_getElem? (i := 7) rfl)) (fun _ h9 => h9) rfl hnm rfl (by decide +kernel) rfl rfl (Nat.le_of_ble_eq_true rfl) dX1_init_22 (fun H locs hP hD hS => ?_)
  have hP : va_P D vwCl [(p, .inr (1, [.int 0, .ref q_1, .ref q_2, .null])), (q_1, .inl (cI, 8, .inl (fun _ => 0))), (q_2, .inl (cI, 8, .inl (fun _ => 0)))] H := hP
  have hD : va_D A [(p, .inr (1, [.int 0, .ref q_1, .ref q_2, .null])), (q_1, .inl (cI, 8, .inl (fun _ => 0))), (q_2, .inl (cI, 8, .inl (fun _ => 0)))] := hD
  refine lv_aload_n hx hb dX1_init_25 rfl (lv_at hl 0 rfl) ?_
  refine lv_bipush (v := 8) hx hb dX1_init_26 (by decide) ?_
  refine k_newi hx hb (hts _ (List.mem_of_getElem? (i := 5) rfl)) hK 0 rfl hP hD hS hA (N := 8) (k := 3) (z := 24) (by decide) rfl (Nat.le_of_ble_eq_true rfl) (Nat.le_of_ble_eq_true rfl) (Nat.le_of_ble_eq_true rfl) rfl rfl dX1_init_28 (fun q_3 H hP hD hS => ?_)
  have hP : va_P D vwCl [(p, .inr (1, [.int 0, .ref q_1, .ref q_2, .null])), (q_1, .inl (cI, 8, .inl (fun _ => 0))), (q_2, .inl (cI, 8, .inl (fun _ => 0))), (q_3, .inl (cI, 8, .inl (fun _ => 0)))] H := hP
  have hD : va_D A [(p, .inr (1, [.int 0, .ref q_1, .ref q_2, .null])), (q_1, .inl (cI, 8, .inl (fun _ => 0))), (q_2, .inl (cI, 8, .inl (fun _ => 0))), (q_3, .inl (cI, 8, .inl (fun _ => 0)))] := hD
  refine va_putF (D := D) (ci := 1) (v := .ref q_3) (ty := .array .int) (C := RX1) (T := TX1) (N := 4) hx hb hts hin1 tyX1 tyX1_ok nmX1 hown hK.1 hP hD hS 0 rfl rfl 3 (by decide) (hts _ (List.mem_of_getElem? (i := 8) rfl)) (fun _ h9 => h9) rfl hnm rfl (by decide +kernel) rfl rfl (Nat.le_of_ble_eq_true rfl) dX1_init_30 (fun H locs hP hD hS => ?_)
  have hP : va_P D vwCl [(p, .inr (1, [.int 0, .ref q_1, .ref q_2, .ref q_3])), (q_1, .inl (cI, 8, .inl (fun _ => 0))), (q_2, .inl (cI, 8, .inl (fun _ => 0))), (q_3, .inl (cI, 8, .inl (fun _ => 0)))] H := hP
  have hD : va_D A [(p, .inr (1, [.int 0, .ref q_1, .ref q_2, .ref q_3])), (q_1, .inl (cI, 8, .inl (fun _ => 0))), (q_2, .inl (cI, 8, .inl (fun _ => 0))), (q_3, .inl (cI, 8, .inl (fun _ => 0)))] := hD
  refine mv_ret hx hb hr hlk hP hD hS dX1_init_33 ?_
  exact ⟨_, _, _, rfl⟩
theorem iwX2_init_X2 : ∀ x ∈ wsX20, x ∈ wsX2_init := by decide +kernel
set_option maxRecDepth 100000 in
set_option maxHeartbeats 4000000 in
/-- X2_init -/
theorem c_X2_init (l : Launch) (D : va_G) (cI cJ cO : ClassId) (p : Nat) : MG l yX2_init wsX2_init 1 12 2 30 D [(cI, .int), (cJ, .long), (cO, .object "ShornHill$Sheet")] [.ref p] [(p, .inr (2, [.null, .null, .int 0, .int 0]))] (QV D (fun (w1 : va_W) => ∃ (b1 : Nat) (b2 : Nat), w1 = [(p, .inr (2, [.ref b1, .ref b2, .int 0, .int 0])), (b1, .inl (cI, 15, .inl (fun _ => 0))), (b2, .inl (cI, 15, .inl (fun _ => 0)))])) := by
  refine MG.of (cc := cX2_init) (maxL := 1) (ret := none) (by decide) rfl (Nat.le_of_ble_eq_true rfl) ?_
  intro P_ E_ S_ M_ B_ T_ K_ hx hb hml hr hts hown hlk hnm A hA hP hK hD hS ls hl
  have hl : lv_has ls 1 [(0, .ref p)] := hl
  have hin2 : ∀ x ∈ u_ws RX2 TX2 4, x ∈ wsX2_init := iwX2_init_X2
  refine lv_aload_n hx hb dX2_init_0 rfl (lv_at hl 0 rfl) ?_
  refine W.objInit hx hb hown (hts _ (List.mem_of_getElem? (i := 1) rfl)) (hts _ (List.mem_of_getElem? (i := 2) rfl)) (hts _ (List.mem_of_getElem? (i := 3) rfl)) rfl (by rw [hml]; exact hl.1) rfl dX2_init_1 (Nat.le_of_ble_eq_true rfl) (Nat.le_of_ble_eq_true rfl) ?_
  refine W.eq (g2 := F0 M_ 4 ls []) rfl ?_
  refine lv_aload_n hx hb dX2_init_4 rfl (lv_at hl 0 rfl) ?_
  refine lv_bipush (v := 15) hx hb dX2_init_5 (by decide) ?_
  refine k_newi hx hb (hts _ (List.mem_of_getElem? (i := 4) rfl)) hK 0 rfl hP hD hS hA (N := 15) (k := 1) (z := 15) (by decide) rfl (Nat.le_of_ble_eq_true rfl) (Nat.le_of_ble_eq_true rfl) (Nat.le_of_ble_eq_true rfl) rfl rfl dX2_init_7 (fun q_1 H hP hD hS => ?_)
  have hP : va_P D vwCl [(p, .inr (2, [.null, .null, .int 0, .int 0])), (q_1, .inl (cI, 15, .inl (fun _ => 0)))] H := hP
  have hD : va_D A [(p, .inr (2, [.null, .null, .int 0, .int 0])), (q_1, .inl (cI, 15, .inl (fun _ => 0)))] := hD
  refine va_putF (D := D) (ci := 2) (v := .ref q_1) (ty := .array .int) (C := RX2) (T := TX2) (N := 4) hx hb hts hin2 tyX2 tyX2_ok nmX2 hown hK.1 hP hD hS 0 rfl rfl 0 (by decide) (hts _ (List.mem_of_getElem? (i := 5) rfl)) (fun _ h9 => h9) rfl hnm rfl (by decide +kernel) rfl rfl (Nat.le_of_ble_eq_true rfl) dX2_init_9 (fun H locs hP hD hS => ?_)
  have hP : va_P D vwCl [(p, .inr (2, [.ref q_1, .null, .int 0, .int 0])), (q_1, .inl (cI, 15, .inl (fun _ => 0)))] H := hP
  have hD : va_D A [(p, .inr (2, [.ref q_1, .null, .int 0, .int 0])), (q_1, .inl (cI, 15, .inl (fun _ => 0)))] := hD
  refine lv_aload_n hx hb dX2_init_12 rfl (lv_at hl 0 rfl) ?_
  refine lv_bipush (v := 15) hx hb dX2_init_13 (by decide) ?_
  refine k_newi hx hb (hts _ (List.mem_of_getElem? (i := 4) rfl)) hK 0 rfl hP hD hS hA (N := 15) (k := 2) (z := 30) (by decide) rfl (Nat.le_of_ble_eq_true rfl) (Nat.le_of_ble_eq_true rfl) (Nat.le_of_ble_eq_true rfl) rfl rfl dX2_init_15 (fun q_2 H hP hD hS => ?_)
  have hP : va_P D vwCl [(p, .inr (2, [.ref q_1, .null, .int 0, .int 0])), (q_1, .inl (cI, 15, .inl (fun _ => 0))), (q_2, .inl (cI, 15, .inl (fun _ => 0)))] H := hP
  have hD : va_D A [(p, .inr (2, [.ref q_1, .null, .int 0, .int 0])), (q_1, .inl (cI, 15, .inl (fun _ => 0))), (q_2, .inl (cI, 15, .inl (fun _ => 0)))] := hD
  refine va_putF (D := D) (ci := 2) (v := .ref q_2) (ty := .array .int) (C := RX2) (T := TX2) (N := 4) hx hb hts hin2 tyX2 tyX2_ok nmX2 hown hK.1 hP hD hS 0 rfl rfl 1 (by decide) (hts _ (List.mem_of_getElem? (i := 6) rfl)) (fun _ h9 => h9) rfl hnm rfl (by decide +kernel) rfl rfl (Nat.le_of_ble_eq_true rfl) dX2_init_17 (fun H locs hP hD hS => ?_)
  have hP : va_P D vwCl [(p, .inr (2, [.ref q_1, .ref q_2, .int 0, .int 0])), (q_1, .inl (cI, 15, .inl (fun _ => 0))), (q_2, .inl (cI, 15, .inl (fun _ => 0)))] H := hP
  have hD : va_D A [(p, .inr (2, [.ref q_1, .ref q_2, .int 0, .int 0])), (q_1, .inl (cI, 15, .inl (fun _ => 0))), (q_2, .inl (cI, 15, .inl (fun _ => 0)))] := hD
  refine lv_aload_n hx hb dX2_init_20 rfl (lv_at hl 0 rfl) ?_
  refine lv_iconst (v := 0) hx hb dX2_init_21 (by decide) ?_
  refine va_put (D := D) (ci := 2) (v := .int 0) (ty := .int) (C := RX2) (T := TX2) (N := 4) hx hb hts hin2 tyX2 tyX2_ok nmX2 hown hK.1 hP hD hS 0 rfl rfl 2 (by decide) (hts _ (List.mem_of_getElem? (i := 7) rfl)) (fun _ h9 => h9) rfl (by decide +kernel) rfl rfl (Nat.le_of_ble_eq_true rfl) dX2_init_22 (fun H locs hP hD hS => ?_)
  have hP : va_P D vwCl [(p, .inr (2, [.ref q_1, .ref q_2, .int 0, .int 0])), (q_1, .inl (cI, 15, .inl (fun _ => 0))), (q_2, .inl (cI, 15, .inl (fun _ => 0)))] H := hP
  have hD : va_D A [(p, .inr (2, [.ref q_1, .ref q_2, .int 0, .int 0])), (q_1, .inl (cI, 15, .inl (fun _ => 0))), (q_2, .inl (cI, 15, .inl (fun _ => 0)))] := hD
  refine lv_aload_n hx hb dX2_init_25 rfl (lv_at hl 0 rfl) ?_
  refine lv_iconst (v := 0) hx hb dX2_init_26 (by decide) ?_
  refine va_put (D := D) (ci := 2) (v := .int 0) (ty := .int) (C := RX2) (T := TX2) (N := 4) hx hb hts hin2 tyX2 tyX2_ok nmX2 hown hK.1 hP hD hS 0 rfl rfl 3 (by decide) (hts _ (List.mem_of_getElem? (i := 8) rfl)) (fun _ h9 => h9) rfl (by decide +kernel) rfl rfl (Nat.le_of_ble_eq_true rfl) dX2_init_27 (fun H locs hP hD hS => ?_)
  have hP : va_P D vwCl [(p, .inr (2, [.ref q_1, .ref q_2, .int 0, .int 0])), (q_1, .inl (cI, 15, .inl (fun _ => 0))), (q_2, .inl (cI, 15, .inl (fun _ => 0)))] H := hP
  have hD : va_D A [(p, .inr (2, [.ref q_1, .ref q_2, .int 0, .int 0])), (q_1, .inl (cI, 15, .inl (fun _ => 0))), (q_2, .inl (cI, 15, .inl (fun _ => 0)))] := hD
  refine mv_ret hx hb hr hlk hP hD hS dX2_init_30 ?_
  exact ⟨_, _, rfl⟩
theorem iwX3_init_X3 : ∀ x ∈ wsX30, x ∈ wsX3_init := by decide +kernel
set_option maxRecDepth 100000 in
set_option maxHeartbeats 4000000 in
/-- X3_init -/
theorem c_X3_init (l : Launch) (D : va_G) (cI cJ cO : ClassId) (p : Nat) : MG l yX3_init wsX3_init 1 12 1 60 D [(cI, .int), (cJ, .long), (cO, .object "ShornHill$Sheet")] [.ref p] [(p, .inr (3, [.int 0, .int 0, .int 0, .null]))] (QV D (fun (w1 : va_W) => ∃ (b1 : Nat), w1 = [(p, .inr (3, [.int 0, .int 0, .int 0, .ref b1])), (b1, .inl (cI, 60, .inl (fun _ => 0)))])) := by
  refine MG.of (cc := cX3_init) (maxL := 1) (ret := none) (by decide) rfl (Nat.le_of_ble_eq_true rfl) ?_
  intro P_ E_ S_ M_ B_ T_ K_ hx hb hml hr hts hown hlk hnm A hA hP hK hD hS ls hl
  have hl : lv_has ls 1 [(0, .ref p)] := hl
  have hin3 : ∀ x ∈ u_ws RX3 TX3 4, x ∈ wsX3_init := iwX3_init_X3
  refine lv_aload_n hx hb dX3_init_0 rfl (lv_at hl 0 rfl) ?_
  refine W.objInit hx hb hown (hts _ (List.mem_of_getElem? (i := 1) rfl)) (hts _ (List.mem_of_getElem? (i := 2) rfl)) (hts _ (List.mem_of_getElem? (i := 3) rfl)) rfl (by rw [hml]; exact hl.1) rfl dX3_init_1 (Nat.le_of_ble_eq_true rfl) (Nat.le_of_ble_eq_true rfl) ?_
  refine W.eq (g2 := F0 M_ 4 ls []) rfl ?_
  refine lv_aload_n hx hb dX3_init_4 rfl (lv_at hl 0 rfl) ?_
  refine lv_iconst (v := 0) hx hb dX3_init_5 (by decide) ?_
  refine va_put (D := D) (ci := 3) (v := .int 0) (ty := .boolean) (C := RX3) (T := TX3) (N := 4) hx hb hts hin3 tyX3 tyX3_ok nmX3 hown hK.1 hP hD hS 0 rfl rfl 0 (by decide) (hts _ (List.mem_of_getElem? (i := 4) rfl)) (fun _ h9 => h9) rfl (by decide +kernel) rfl rfl (Nat.le_of_ble_eq_true rfl) dX3_init_6 (fun H locs hP hD hS => ?_)
  have hP : va_P D vwCl [(p, .inr (3, [.int 0, .int 0, .int 0, .null]))] H := hP
  have hD : va_D A [(p, .inr (3, [.int 0, .int 0, .int 0, .null]))] := hD
  refine lv_aload_n hx hb dX3_init_9 rfl (lv_at hl 0 rfl) ?_
  refine lv_iconst (v := 0) hx hb dX3_init_10 (by decide) ?_
  refine va_put (D := D) (ci := 3) (v := .int 0) (ty := .int) (C := RX3) (T := TX3) (N := 4) hx hb hts hin3 tyX3 tyX3_ok nmX3 hown hK.1 hP hD hS 0 rfl rfl 1 (by decide) (hts _ (List.mem_of_getElem? (i := 5) rfl)) (fun _ h9 => h9) rfl (by decide +kernel) rfl rfl (Nat.le_of_ble_eq_true rfl) dX3_init_11 (fun H locs hP hD hS => ?_)
  have hP : va_P D vwCl [(p, .inr (3, [.int 0, .int 0, .int 0, .null]))] H := hP
  have hD : va_D A [(p, .inr (3, [.int 0, .int 0, .int 0, .null]))] := hD
  refine lv_aload_n hx hb dX3_init_14 rfl (lv_at hl 0 rfl) ?_
  refine lv_iconst (v := 0) hx hb dX3_init_15 (by decide) ?_
  refine va_put (D := D) (ci := 3) (v := .int 0) (ty := .int) (C := RX3) (T := TX3) (N := 4) hx hb hts hin3 tyX3 tyX3_ok nmX3 hown hK.1 hP hD hS 0 rfl rfl 2 (by decide) (hts _ (List.mem_of_getElem? (i := 6) rfl)) (fun _ h9 => h9) rfl (by decide +kernel) rfl rfl (Nat.le_of_ble_eq_true rfl) dX3_init_16 (fun H locs hP hD hS => ?_)
  have hP : va_P D vwCl [(p, .inr (3, [.int 0, .int 0, .int 0, .null]))] H := hP
  have hD : va_D A [(p, .inr (3, [.int 0, .int 0, .int 0, .null]))] := hD
  refine lv_aload_n hx hb dX3_init_19 rfl (lv_at hl 0 rfl) ?_
  refine lv_bipush (v := 60) hx hb dX3_init_20 (by decide) ?_
  refine k_newi hx hb (hts _ (List.mem_of_getElem? (i := 7) rfl)) hK 0 rfl hP hD hS hA (N := 60) (k := 1) (z := 60) (by decide) rfl (Nat.le_of_ble_eq_true rfl) (Nat.le_of_ble_eq_true rfl) (Nat.le_of_ble_eq_true rfl) rfl rfl dX3_init_22 (fun q_1 H hP hD hS => ?_)
  have hP : va_P D vwCl [(p, .inr (3, [.int 0, .int 0, .int 0, .null])), (q_1, .inl (cI, 60, .inl (fun _ => 0)))] H := hP
  have hD : va_D A [(p, .inr (3, [.int 0, .int 0, .int 0, .null])), (q_1, .inl (cI, 60, .inl (fun _ => 0)))] := hD
  refine va_putF (D := D) (ci := 3) (v := .ref q_1) (ty := .array .int) (C := RX3) (T := TX3) (N := 4) hx hb hts hin3 tyX3 tyX3_ok nmX3 hown hK.1 hP hD hS 0 rfl rfl 3 (by decide) (hts _ (List.mem_of_getElem? (i := 8) rfl)) (fun _ h9 => h9) rfl hnm rfl (by decide +kernel) rfl rfl (Nat.le_of_ble_eq_true rfl) dX3_init_24 (fun H locs hP hD hS => ?_)
  have hP : va_P D vwCl [(p, .inr (3, [.int 0, .int 0, .int 0, .ref q_1])), (q_1, .inl (cI, 60, .inl (fun _ => 0)))] H := hP
  have hD : va_D A [(p, .inr (3, [.int 0, .int 0, .int 0, .ref q_1])), (q_1, .inl (cI, 60, .inl (fun _ => 0)))] := hD
  refine mv_ret hx hb hr hlk hP hD hS dX3_init_27 ?_
  exact ⟨_, rfl⟩
