theorem iwX4_many_X0 : ∀ x ∈ wsX00, x ∈ wsX4_many := by decide +kernel
theorem iwX4_many_X1 : ∀ x ∈ wsX10, x ∈ wsX4_many := by decide +kernel
theorem iwX4_many_X4 : ∀ x ∈ wsX40, x ∈ wsX4_many := by decide +kernel
set_option maxRecDepth 100000 in
set_option maxHeartbeats 4000000 in
/-- X4_many -/
theorem c_X4_many (l : Launch) (D : va_G) (cI cJ cO : ClassId) (a : Nat → Nat) (ft : Int32) (tr : Int32) (h : Nat) (w : Nat) (pc : Int32) (br : Int32) (kd : Nat → Int32) (et : Nat → Int32) (nb : Nat → Int32) (rc : Nat) (ro : Nat → Int32) (rb : Nat → Int32) (rv : Nat → Int32) (v : Int32) (hn : h * w ≤ 16) : RG l yX4_many wsX4_many 2 42 D [(cI, .int), (cJ, .long), (cO, .object "ShornHill$Sheet")] [.ref (a 0), .int v] [(a 0, .inr (4, [.ref (a 1), .ref (a 5), .ref (a 9), .ref (a 12), .int ft, .int tr])), (a 1, .inr (0, [.int (nI h), .int (nI w), .int pc, .int br, .ref (a 2), .ref (a 3), .ref (a 4)])), (a 2, .inl (cI, 16, .inl kd)), (a 3, .inl (cI, 16, .inl et)), (a 4, .inl (cI, 64, .inl nb)), (a 5, .inr (1, [.int (nI rc), .ref (a 6), .ref (a 7), .ref (a 8)])), (a 6, .inl (cI, 8, .inl ro)), (a 7, .inl (cI, 8, .inl rb)), (a 8, .inl (cI, 8, .inl rv))] (vp_Si (fun (r : Int32) => r = (maR h w pc br (popN 16 (sN (sofS kd (h * w)))) rc v))) := by
  refine RG.of (cc := cX4_many) (maxL := 2) (ret := (some .int)) (by decide) rfl (Nat.le_of_ble_eq_true rfl) ?_
  intro P_ E_ S_ M_ B_ T_ K_ hx hb hml hr hts hown hlk hP hK ls hl
  have hl : lv_has ls 2 [(0, .ref (a 0)), (1, .int v)] := hl
  have hin0 : ∀ x ∈ u_ws RX0 TX0 7, x ∈ wsX4_many := iwX4_many_X0
  have hin1 : ∀ x ∈ u_ws RX1 TX1 4, x ∈ wsX4_many := iwX4_many_X1
  have hin4 : ∀ x ∈ u_ws RX4 TX4 6, x ∈ wsX4_many := iwX4_many_X4
  refine lv_iload_n hx hb dX4_many_0 rfl (lv_at hl 1 rfl) ?_
  rcases sw6 (v) with c_1 | c_1 | c_1 | c_1 | c_1 | c_1 | c_1
  · refine lv_tableIn (off := 39) (tgt := 40) hx hb dX4_many_1 (by rw [c_1]; decide) (by rw [c_1]; decide) (by rw [c_1]; rfl) (by decide) ?_
    refine lv_aload_n hx hb dX4_many_40 rfl (lv_at hl 0 rfl) ?_
    refine va_get (D := D) (ci := 4) (v := .ref (a 1)) (C := RX4) (T := TX4) (N := 6) hx hb hts hin4 hown hK.1 hP 0 rfl rfl 0 (by decide) (hts _ (List.mem_of_getElem? (i := 1) rfl)) (fun _ h9 => h9) rfl dX4_many_41 ?_
    refine k_ri (run_RN (As := []) (rest := []) ⟨hx, hb, hml, hown, hts⟩ (c_X0_cells l D cI cJ cO a h w pc br kd et nb) ⟨va_cnB 0 hts ggX4_many_X0_cells rfl rfl rfl (nw_X4_143 hK) (hts _ (List.mem_of_getElem? (i := 4) rfl)) (by decide +kernel) ⟨Nat.le_of_ble_eq_true rfl, Nat.le_of_ble_eq_true rfl⟩, (hts _ (List.mem_of_getElem? (i := 3) rfl)), (hts _ (List.mem_of_getElem? (i := 5) rfl))⟩ hP hK [1, 2, 3, 4] rfl rfl rfl rfl rfl hl.1 rfl (Nat.le_of_ble_eq_true rfl) dX4_many_44 ⟨Nat.le_refl _, Nat.le_refl _⟩) (fun r_2 q_3 => ?_)
    obtain rfl := q_3
    refine ri_ret (v := (nI (h * w))) hx hb hr hlk dX4_many_47 ?_
    rw [maR, if_pos c_1] <;> rfl
  · refine lv_tableIn (off := 47) (tgt := 48) hx hb dX4_many_1 (by rw [c_1]; decide) (by rw [c_1]; decide) (by rw [c_1]; rfl) (by decide) ?_
    have cn0 : ¬ v = 0 := fun z => by rw [z] at c_1; exact absurd c_1 (by decide)
    refine lv_aload_n hx hb dX4_many_48 rfl (lv_at hl 0 rfl) ?_
    refine va_get (D := D) (ci := 4) (v := .ref (a 1)) (C := RX4) (T := TX4) (N := 6) hx hb hts hin4 hown hK.1 hP 0 rfl rfl 0 (by decide) (hts _ (List.mem_of_getElem? (i := 1) rfl)) (fun _ h9 => h9) rfl dX4_many_49 ?_
    refine va_getN (D := D) (ci := 0) (v := .int (nI w)) (C := RX0) (T := TX0) (N := 7) hx hb hts hin0 hown hK.1 hP 1 rfl rfl 1 (by decide) (va_Nw.use rfl (nw_X4_228 hK)) (fun _ h9 => h9) rfl dX4_many_52 ?_
    refine ri_ret (v := (nI w)) hx hb hr hlk dX4_many_55 ?_
    rw [maR, if_neg cn0, if_pos c_1] <;> rfl
  · refine lv_tableIn (off := 55) (tgt := 56) hx hb dX4_many_1 (by rw [c_1]; decide) (by rw [c_1]; decide) (by rw [c_1]; rfl) (by decide) ?_
    have cn0 : ¬ v = 0 := fun z => by rw [z] at c_1; exact absurd c_1 (by decide)
    have cn1 : ¬ v = 1 := fun z => by rw [z] at c_1; exact absurd c_1 (by decide)
    refine lv_aload_n hx hb dX4_many_56 rfl (lv_at hl 0 rfl) ?_
    refine va_get (D := D) (ci := 4) (v := .ref (a 1)) (C := RX4) (T := TX4) (N := 6) hx hb hts hin4 hown hK.1 hP 0 rfl rfl 0 (by decide) (hts _ (List.mem_of_getElem? (i := 1) rfl)) (fun _ h9 => h9) rfl dX4_many_57 ?_
    refine va_getN (D := D) (ci := 0) (v := .int pc) (C := RX0) (T := TX0) (N := 7) hx hb hts hin0 hown hK.1 hP 1 rfl rfl 2 (by decide) (va_Nw.use rfl (nw_X4_110 hK)) (fun _ h9 => h9) rfl dX4_many_60 ?_
    refine ri_ret (v := pc) hx hb hr hlk dX4_many_63 ?_
    rw [maR, if_neg cn0, if_neg cn1, if_pos c_1] <;> rfl
  · refine lv_tableIn (off := 63) (tgt := 64) hx hb dX4_many_1 (by rw [c_1]; decide) (by rw [c_1]; decide) (by rw [c_1]; rfl) (by decide) ?_
    have cn0 : ¬ v = 0 := fun z => by rw [z] at c_1; exact absurd c_1 (by decide)
    have cn1 : ¬ v = 1 := fun z => by rw [z] at c_1; exact absurd c_1 (by decide)
    have cn2 : ¬ v = 2 := fun z => by rw [z] at c_1; exact absurd c_1 (by decide)
    refine lv_aload_n hx hb dX4_many_64 rfl (lv_at hl 0 rfl) ?_
    refine va_get (D := D) (ci := 4) (v := .ref (a 1)) (C := RX4) (T := TX4) (N := 6) hx hb hts hin4 hown hK.1 hP 0 rfl rfl 0 (by decide) (hts _ (List.mem_of_getElem? (i := 1) rfl)) (fun _ h9 => h9) rfl dX4_many_65 ?_
    refine va_getN (D := D) (ci := 0) (v := .int br) (C := RX0) (T := TX0) (N := 7) hx hb hts hin0 hown hK.1 hP 1 rfl rfl 3 (by decide) (va_Nw.use rfl (nw_X4_113 hK)) (fun _ h9 => h9) rfl dX4_many_68 ?_
    refine ri_ret (v := br) hx hb hr hlk dX4_many_71 ?_
    rw [maR, if_neg cn0, if_neg cn1, if_neg cn2, if_pos c_1] <;> rfl
  · refine lv_tableIn (off := 71) (tgt := 72) hx hb dX4_many_1 (by rw [c_1]; decide) (by rw [c_1]; decide) (by rw [c_1]; rfl) (by decide) ?_
    have cn0 : ¬ v = 0 := fun z => by rw [z] at c_1; exact absurd c_1 (by decide)
    have cn1 : ¬ v = 1 := fun z => by rw [z] at c_1; exact absurd c_1 (by decide)
    have cn2 : ¬ v = 2 := fun z => by rw [z] at c_1; exact absurd c_1 (by decide)
    have cn3 : ¬ v = 3 := fun z => by rw [z] at c_1; exact absurd c_1 (by decide)
    refine lv_aload_n hx hb dX4_many_72 rfl (lv_at hl 0 rfl) ?_
    refine va_get (D := D) (ci := 4) (v := .ref (a 1)) (C := RX4) (T := TX4) (N := 6) hx hb hts hin4 hown hK.1 hP 0 rfl rfl 0 (by decide) (hts _ (List.mem_of_getElem? (i := 1) rfl)) (fun _ h9 => h9) rfl dX4_many_73 ?_
    refine k_ri (run_RN (As := []) (rest := []) ⟨hx, hb, hml, hown, hts⟩ (c_X0_cells l D cI cJ cO a h w pc br kd et nb) ⟨va_cnB 0 hts ggX4_many_X0_cells rfl rfl rfl (nw_X4_143 hK) (hts _ (List.mem_of_getElem? (i := 4) rfl)) (by decide +kernel) ⟨Nat.le_of_ble_eq_true rfl, Nat.le_of_ble_eq_true rfl⟩, (hts _ (List.mem_of_getElem? (i := 3) rfl)), (hts _ (List.mem_of_getElem? (i := 5) rfl))⟩ hP hK [1, 2, 3, 4] rfl rfl rfl rfl rfl hl.1 rfl (Nat.le_of_ble_eq_true rfl) dX4_many_76 ⟨Nat.le_refl _, Nat.le_refl _⟩) (fun r_4 q_5 => ?_)
    obtain rfl := q_5
    refine lv_aload_n hx hb dX4_many_79 rfl (lv_at hl 0 rfl) ?_
    refine va_get (D := D) (ci := 4) (v := .ref (a 1)) (C := RX4) (T := TX4) (N := 6) hx hb hts hin4 hown hK.1 hP 0 rfl rfl 0 (by decide) (hts _ (List.mem_of_getElem? (i := 1) rfl)) (fun _ h9 => h9) rfl dX4_many_80 ?_
    refine k_ri (run_RN (As := []) (rest := [.int (nI (h * w))]) ⟨hx, hb, hml, hown, hts⟩ (c_X0_softCells l D cI cJ cO a h w pc br kd et nb hn) ⟨va_cnB 0 hts ggX4_many_X0_softCells rfl rfl rfl (nw_X4_79 hK) (hts _ (List.mem_of_getElem? (i := 4) rfl)) (by decide +kernel) ⟨Nat.le_of_ble_eq_true rfl, Nat.le_of_ble_eq_true rfl⟩, (hts _ (List.mem_of_getElem? (i := 9) rfl)), (hts _ (List.mem_of_getElem? (i := 10) rfl))⟩ hP hK [1, 2, 3, 4] rfl rfl rfl rfl rfl hl.1 rfl (Nat.le_of_ble_eq_true rfl) dX4_many_83 ⟨Nat.le_refl _, Nat.le_refl _⟩) (fun r_6 q_7 => ?_)
    obtain rfl := q_7
    refine k_ri (run_RS (As := [.int (sofS kd (h * w))]) (rest := [.int (nI (h * w))]) ⟨hx, hb, hml, hown, hts⟩ (c_J6_bitCount_0f7a4 l D cI cJ cO (sofS kd (h * w)) (sm_sof _ _ hn)) (va_cwS 1 hts gX4_many_J6_bitCount_0f7a4 rfl rfl rfl (by decide +kernel) ⟨Nat.le_of_ble_eq_true rfl, Nat.le_of_ble_eq_true rfl⟩) hP hK [] rfl rfl hl.1 rfl (Nat.le_of_ble_eq_true rfl) dX4_many_86 ⟨Nat.le_refl _, Nat.le_refl _⟩) (fun r_8 q_9 => ?_)
    obtain rfl := q_9
    refine lv_isub hx hb dX4_many_89 ?_
    refine ri_ret (v := ((nI (h * w)) - (nI (popN 16 (sN (sofS kd (h * w))))))) hx hb hr hlk dX4_many_90 ?_
    rw [maR, if_neg cn0, if_neg cn1, if_neg cn2, if_neg cn3, if_pos c_1] <;> rfl
  · refine lv_tableIn (off := 90) (tgt := 91) hx hb dX4_many_1 (by rw [c_1]; decide) (by rw [c_1]; decide) (by rw [c_1]; rfl) (by decide) ?_
    have cn0 : ¬ v = 0 := fun z => by rw [z] at c_1; exact absurd c_1 (by decide)
    have cn1 : ¬ v = 1 := fun z => by rw [z] at c_1; exact absurd c_1 (by decide)
    have cn2 : ¬ v = 2 := fun z => by rw [z] at c_1; exact absurd c_1 (by decide)
    have cn3 : ¬ v = 3 := fun z => by rw [z] at c_1; exact absurd c_1 (by decide)
    have cn4 : ¬ v = 4 := fun z => by rw [z] at c_1; exact absurd c_1 (by decide)
    refine lv_aload_n hx hb dX4_many_91 rfl (lv_at hl 0 rfl) ?_
    refine va_get (D := D) (ci := 4) (v := .ref (a 5)) (C := RX4) (T := TX4) (N := 6) hx hb hts hin4 hown hK.1 hP 0 rfl rfl 1 (by decide) (hts _ (List.mem_of_getElem? (i := 2) rfl)) (fun _ h9 => h9) rfl dX4_many_92 ?_
    refine va_getN (D := D) (ci := 1) (v := .int (nI rc)) (C := RX1) (T := TX1) (N := 4) hx hb hts hin1 hown hK.1 hP 5 rfl rfl 0 (by decide) (va_Nw.use rfl (nw_X4_76 hK)) (fun _ h9 => h9) rfl dX4_many_95 ?_
    refine ri_ret (v := (nI rc)) hx hb hr hlk dX4_many_98 ?_
    rw [maR, if_neg cn0, if_neg cn1, if_neg cn2, if_neg cn3, if_neg cn4, if_pos c_1] <;> rfl
  · refine lv_tableOut (tgt := 99) hx hb dX4_many_1 c_1 (by decide) ?_
    have cn0 : ¬ v = 0 := fun z => by rw [z] at c_1; exact absurd c_1 (by decide)
    have cn1 : ¬ v = 1 := fun z => by rw [z] at c_1; exact absurd c_1 (by decide)
    have cn2 : ¬ v = 2 := fun z => by rw [z] at c_1; exact absurd c_1 (by decide)
    have cn3 : ¬ v = 3 := fun z => by rw [z] at c_1; exact absurd c_1 (by decide)
    have cn4 : ¬ v = 4 := fun z => by rw [z] at c_1; exact absurd c_1 (by decide)
    have cn5 : ¬ v = 5 := fun z => by rw [z] at c_1; exact absurd c_1 (by decide)
    refine lv_bipush (v := (-2)) hx hb dX4_many_99 (by decide) ?_
    refine ri_ret (v := (-2)) hx hb hr hlk dX4_many_101 ?_
    rw [maR, if_neg cn0, if_neg cn1, if_neg cn2, if_neg cn3, if_neg cn4, if_neg cn5] <;> rfl
