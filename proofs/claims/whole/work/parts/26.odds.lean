theorem iwX4_odds_X4 : ∀ x ∈ wsX40, x ∈ wsX4_odds := by decide +kernel
set_option maxRecDepth 100000 in
set_option maxHeartbeats 4000000 in
/-- X4_odds -/
theorem c_X4_odds (l : Launch) (D : va_G) (cI cJ cO : ClassId) (a : Nat → Nat) (ft : Int32) (tr : Int32) (h : Nat) (w : Nat) (pc : Int32) (br : Int32) (kd : Nat → Int32) (et : Nat → Int32) (nb : Nat → Int32) (ws : Int32) (c : Int32) (v : Int32) (hn : h * w ≤ 16) (hnb : nbOk h w nb (h * w)) : RG l yX4_odds wsX4_odds 18 541 D [(cI, .int), (cJ, .long), (cO, .object "ShornHill$Sheet")] [.ref (a 0), .int ws, .int c, .int v] [(a 0, .inr (4, [.ref (a 1), .ref (a 5), .ref (a 9), .ref (a 12), .int ft, .int tr])), (a 1, .inr (0, [.int (nI h), .int (nI w), .int pc, .int br, .ref (a 2), .ref (a 3), .ref (a 4)])), (a 2, .inl (cI, 16, .inl kd)), (a 3, .inl (cI, 16, .inl et)), (a 4, .inl (cI, 64, .inl nb))] (vp_Sl (fun (r : Int64) => r = oddR (h * w) pc br kd et h w ws c v)) := by
  refine RG.of (cc := cX4_odds) (maxL := 8) (ret := (some .long)) (by decide) rfl (Nat.le_of_ble_eq_true rfl) ?_
  intro P_ E_ S_ M_ B_ T_ K_ hx hb hml hr hts hown hlk hP hK ls hl
  have hl : lv_has ls 8 [(0, .ref (a 0)), (1, .int ws), (2, .int c), (3, .int v)] := hl
  have hin4 : ∀ x ∈ u_ws RX4 TX4 6, x ∈ wsX4_odds := iwX4_odds_X4
  obtain ⟨z, hz⟩ : ∃ z : Nat, z = allO := ⟨_, rfl⟩
  have hzl : z < 2 ^ 60 := by rw [hz]; decide
  have hz0 : 0 < z := by rw [hz]; decide
  refine lv_aload_n hx hb dX4_odds_0 rfl (lv_at hl 0 rfl) ?_
  refine va_get (D := D) (ci := 4) (v := .ref (a 1)) (C := RX4) (T := TX4) (N := 6) hx hb hts hin4 hown hK.1 hP 0 rfl rfl 0 (by decide) (hts _ (List.mem_of_getElem? (i := 1) rfl)) (fun _ h9 => h9) rfl dX4_odds_1 ?_
  refine lv_iload_n hx hb dX4_odds_4 rfl (lv_at hl 2 rfl) ?_
  refine k_ri (run_RN (As := [.int c]) (rest := []) ⟨hx, hb, hml, hown, hts⟩ (c_X0_has l D cI cJ cO a h w pc br kd et nb c hn) ⟨va_cnB 1 hts ggX4_odds_X0_has rfl rfl rfl (nw_X4_88 hK) (hts _ (List.mem_of_getElem? (i := 9) rfl)) (by decide +kernel) ⟨Nat.le_of_ble_eq_true rfl, Nat.le_of_ble_eq_true rfl⟩, (hts _ (List.mem_of_getElem? (i := 8) rfl)), (hts _ (List.mem_of_getElem? (i := 10) rfl))⟩ hP hK [1, 2, 3, 4] rfl rfl rfl rfl rfl hl.1 rfl (Nat.le_of_ble_eq_true rfl) dX4_odds_5 ⟨Nat.le_refl _, Nat.le_refl _⟩) (fun r_1 q_2 => ?_)
  obtain rfl := q_2
  refine lv_if_eq (tgt := 39) hx hb dX4_odds_8 (by decide) (fun c_3 => ?_) (fun c_3 => ?_)
  · have c_3 := b2_f c_3
    refine lv_ldc2 (v := (-9223372036854775808)) hx hb hown (hts _ (List.mem_of_getElem? (i := 2) rfl)) dX4_odds_39 ?_
    refine rl_ret hx hb hr hlk dX4_odds_42 ?_
    rw [oddR, if_neg (fun z => c_3 z.1)]
  · have c_3 := b2_t c_3
    refine lv_iload_n hx hb dX4_odds_11 rfl (lv_at hl 1 rfl) ?_
    refine k_ri (run_RS (As := [.int ws]) (rest := []) ⟨hx, hb, hml, hown, hts⟩ (c_X4_isWeeks l D cI cJ cO ws) (va_cwS 1 hts gX4_odds_X4_isWeeks rfl rfl rfl (by decide +kernel) ⟨Nat.le_of_ble_eq_true rfl, Nat.le_of_ble_eq_true rfl⟩) hP hK [] rfl rfl hl.1 rfl (Nat.le_of_ble_eq_true rfl) dX4_odds_12 ⟨Nat.le_refl _, Nat.le_refl _⟩) (fun r_4 q_5 => ?_)
    obtain rfl := q_5
    refine lv_if_eq (tgt := 39) hx hb dX4_odds_15 (by decide) (fun c_6 => ?_) (fun c_6 => ?_)
    · have c_6 := b2_f c_6
      refine lv_ldc2 (v := (-9223372036854775808)) hx hb hown (hts _ (List.mem_of_getElem? (i := 2) rfl)) dX4_odds_39 ?_
      refine rl_ret hx hb hr hlk dX4_odds_42 ?_
      rw [oddR, if_neg (fun z => (fun z => c_6 z.1) z.2)]
    · have c_6 := b2_t c_6
      refine lv_iload_n hx hb dX4_odds_18 rfl (lv_at hl 3 rfl) ?_
      refine lv_if_lt (tgt := 39) hx hb dX4_odds_19 (by decide) (fun c_7 => ?_) (fun c_7 => ?_)
      · have cb : ¬ btw v 0 1 := by simp only [inN, softP, btw, inS, ripP, Int32.lt_iff_toInt_lt, Int32.le_iff_toInt_le, ← Int32.toInt_inj, ti_0, ti_1, ti_2, ti_3, ti_4, ti_8, ti_9, ti_10, ti_14, ti_15, ti_20, ti_60, ti_m1] at c_7 ⊢; omega
        refine lv_ldc2 (v := (-9223372036854775808)) hx hb hown (hts _ (List.mem_of_getElem? (i := 2) rfl)) dX4_odds_39 ?_
        refine rl_ret hx hb hr hlk dX4_odds_42 ?_
        rw [oddR, if_neg (fun z => (fun z => (fun z => cb z.1) z.2) z.2)]
      · refine lv_iload_n hx hb dX4_odds_22 rfl (lv_at hl 3 rfl) ?_
        refine lv_iconst (v := 1) hx hb dX4_odds_23 (by decide) ?_
        refine lv_icmp_gt (tgt := 39) hx hb dX4_odds_24 (by decide) (fun c_8 => ?_) (fun c_8 => ?_)
        · have cb : ¬ btw v 0 1 := by simp only [inN, softP, btw, inS, ripP, Int32.lt_iff_toInt_lt, Int32.le_iff_toInt_le, ← Int32.toInt_inj, ti_0, ti_1, ti_2, ti_3, ti_4, ti_8, ti_9, ti_10, ti_14, ti_15, ti_20, ti_60, ti_m1] at c_7 c_8 ⊢; omega
          refine lv_ldc2 (v := (-9223372036854775808)) hx hb hown (hts _ (List.mem_of_getElem? (i := 2) rfl)) dX4_odds_39 ?_
          refine rl_ret hx hb hr hlk dX4_odds_42 ?_
          rw [oddR, if_neg (fun z => (fun z => (fun z => cb z.1) z.2) z.2)]
        · have cb : btw v 0 1 := by simp only [inN, softP, btw, inS, ripP, Int32.lt_iff_toInt_lt, Int32.le_iff_toInt_le, ← Int32.toInt_inj, ti_0, ti_1, ti_2, ti_3, ti_4, ti_8, ti_9, ti_10, ti_14, ti_15, ti_20, ti_60, ti_m1] at c_7 c_8 ⊢; omega
          refine lv_aload_n hx hb dX4_odds_27 rfl (lv_at hl 0 rfl) ?_
          refine va_get (D := D) (ci := 4) (v := .ref (a 1)) (C := RX4) (T := TX4) (N := 6) hx hb hts hin4 hown hK.1 hP 0 rfl rfl 0 (by decide) (hts _ (List.mem_of_getElem? (i := 1) rfl)) (fun _ h9 => h9) rfl dX4_odds_28 ?_
          refine lv_iload_n hx hb dX4_odds_31 rfl (lv_at hl 2 rfl) ?_
          refine lv_iload_n hx hb dX4_odds_32 rfl (lv_at hl 1 rfl) ?_
          refine k_ri (run_RN (As := [.int c, .int ws]) (rest := []) ⟨hx, hb, hml, hown, hts⟩ (c_X0_isRipe l D cI cJ cO a h w pc br kd et nb c ws c.toNatClampNeg (inN.vp c_3 (by omega)) rfl) ⟨va_cnB 2 hts ggX4_odds_X0_isRipe rfl rfl rfl (nw_X4_126 hK) (hts _ (List.mem_of_getElem? (i := 9) rfl)) (by decide +kernel) ⟨Nat.le_of_ble_eq_true rfl, Nat.le_of_ble_eq_true rfl⟩, (hts _ (List.mem_of_getElem? (i := 22) rfl)), (hts _ (List.mem_of_getElem? (i := 23) rfl))⟩ hP hK [1, 2, 3, 4] rfl rfl rfl rfl rfl hl.1 rfl (Nat.le_of_ble_eq_true rfl) dX4_odds_33 ⟨Nat.le_refl _, Nat.le_refl _⟩) (fun r_9 q_10 => ?_)
          obtain rfl := q_10
          refine lv_if_ne (tgt := 43) hx hb dX4_odds_36 (by decide) (fun c_11 => ?_) (fun c_11 => ?_)
          · have c_11 := b2_t c_11
            have hodl := odF_le h w 15 c.toNatClampNeg (wo (ripS pc br kd et ws (h * w)) c) z
            have hg1 : 1 ≤ Nat.gcd z (odF h w 15 c.toNatClampNeg (wo (ripS pc br kd et ws (h * w)) c) z) := Nat.gcd_pos_of_pos_left _ hz0
            have hg2 : Nat.gcd z (odF h w 15 c.toNatClampNeg (wo (ripS pc br kd et ws (h * w)) c) z) ≤ z := Nat.le_of_dvd hz0 (Nat.gcd_dvd_left _ _)
            refine lv_aload_n hx hb dX4_odds_43 rfl (lv_at hl 0 rfl) ?_
            refine va_get (D := D) (ci := 4) (v := .ref (a 1)) (C := RX4) (T := TX4) (N := 6) hx hb hts hin4 hown hK.1 hP 0 rfl rfl 0 (by decide) (hts _ (List.mem_of_getElem? (i := 1) rfl)) (fun _ h9 => h9) rfl dX4_odds_44 ?_
            refine lv_iload_n hx hb dX4_odds_47 rfl (lv_at hl 2 rfl) ?_
            refine lv_aload_n hx hb dX4_odds_48 rfl (lv_at hl 0 rfl) ?_
            refine va_get (D := D) (ci := 4) (v := .ref (a 1)) (C := RX4) (T := TX4) (N := 6) hx hb hts hin4 hown hK.1 hP 0 rfl rfl 0 (by decide) (hts _ (List.mem_of_getElem? (i := 1) rfl)) (fun _ h9 => h9) rfl dX4_odds_49 ?_
            refine lv_iload_n hx hb dX4_odds_52 rfl (lv_at hl 1 rfl) ?_
            refine k_ri (run_RN (As := [.int ws]) (rest := [.int c, .ref (a 1)]) ⟨hx, hb, hml, hown, hts⟩ (c_X0_ripeCells l D cI cJ cO a h w pc br kd et nb ws hn) ⟨va_cnB 1 hts ggX4_odds_X0_ripeCells rfl rfl rfl (nw_X4_123 hK) (hts _ (List.mem_of_getElem? (i := 9) rfl)) (by decide +kernel) ⟨Nat.le_of_ble_eq_true rfl, Nat.le_of_ble_eq_true rfl⟩, (hts _ (List.mem_of_getElem? (i := 43) rfl)), (hts _ (List.mem_of_getElem? (i := 44) rfl))⟩ hP hK [1, 2, 3, 4] rfl rfl rfl rfl rfl hl.1 rfl (Nat.le_of_ble_eq_true rfl) dX4_odds_53 ⟨Nat.le_refl _, Nat.le_refl _⟩) (fun r_12 q_13 => ?_)
            obtain rfl := q_13
            refine lv_iload_n hx hb dX4_odds_56 rfl (lv_at hl 2 rfl) ?_
            refine k_ri (run_RS (As := [.int (ripS pc br kd et ws (h * w)), .int c]) (rest := [.int c, .ref (a 1)]) ⟨hx, hb, hml, hown, hts⟩ (c_X4_without l D cI cJ cO (ripS pc br kd et ws (h * w)) c) (va_cwS 2 hts gX4_odds_X4_without rfl rfl rfl (by decide +kernel) ⟨Nat.le_of_ble_eq_true rfl, Nat.le_of_ble_eq_true rfl⟩) hP hK [] rfl rfl hl.1 rfl (Nat.le_of_ble_eq_true rfl) dX4_odds_57 ⟨Nat.le_refl _, Nat.le_refl _⟩) (fun r_14 q_15 => ?_)
            obtain rfl := q_15
            refine lv_ldc2 (v := 15407021574586368) hx hb hown (hts _ (List.mem_of_getElem? (i := 3) rfl)) dX4_odds_60 ?_
            refine k_topl (y := (lN z)) (by rw [hz]; rfl) ?_
            refine lv_iconst (v := 1) hx hb dX4_odds_63 (by decide) ?_
            refine k_rl (run_RS (As := [.ref (a 1), .int c, .int (wo (ripS pc br kd et ws (h * w)) c), .long (lN z), .int 1]) (rest := []) ⟨hx, hb, hml, hown, hts⟩ (c_X4_oddsOn l D cI cJ cO a h w pc br kd et nb 1 z (wo (ripS pc br kd et ws (h * w)) c) c c.toNatClampNeg hn hnb rfl (by omega) ((show inN c (h * w) by assumption).lt) (inN.vp c_3 (by omega)) rfl) (va_cwS 5 hts gX4_odds_X4_oddsOn rfl rfl rfl (by decide +kernel) ⟨Nat.le_of_ble_eq_true rfl, Nat.le_of_ble_eq_true rfl⟩) hP hK [1, 2, 3, 4] rfl rfl hl.1 rfl (Nat.le_of_ble_eq_true rfl) dX4_odds_64 ⟨Nat.le_refl _, Nat.le_refl _⟩) (fun r_16 q_17 => ?_)
            obtain rfl := q_17
            refine lv_lstore (lv' := [(4, .long (lN (odF h w 15 c.toNatClampNeg (wo (ripS pc br kd et ws (h * w)) c) z))), (0, .ref (a 0)), (1, .int ws), (2, .int c), (3, .int v)]) hx hb dX4_odds_67 hl (by decide) rfl (fun ls hl => ?_)
            refine lv_lconst (v := 1) hx hb dX4_odds_69 (by decide) ?_
            refine lv_ldc2 (v := 15407021574586368) hx hb hown (hts _ (List.mem_of_getElem? (i := 3) rfl)) dX4_odds_70 ?_
            refine k_topl (y := (lN z)) (by rw [hz]; rfl) ?_
            refine lv_lload hx hb dX4_odds_73 (lv_at hl 0 rfl) ?_
            refine k_rl (run_RS (As := [.long (lN z), .long (lN (odF h w 15 c.toNatClampNeg (wo (ripS pc br kd et ws (h * w)) c) z))]) (rest := [.long 1]) ⟨hx, hb, hml, hown, hts⟩ (c_X4_commonDivisor l D cI cJ cO z (odF h w 15 c.toNatClampNeg (wo (ripS pc br kd et ws (h * w)) c) z) (odF_le _ _ _ _ _ _) (by omega) (prod_lt (by rw [← hz]; exact odF_le _ _ _ _ _ _) hz)) (va_cwS 2 hts gX4_odds_X4_commonDivisor rfl rfl rfl (by decide +kernel) ⟨Nat.le_of_ble_eq_true rfl, Nat.le_of_ble_eq_true rfl⟩) hP hK [] rfl rfl hl.1 rfl (Nat.le_of_ble_eq_true rfl) dX4_odds_75 ⟨Nat.le_refl _, Nat.le_refl _⟩) (fun r_18 q_19 => ?_)
            obtain rfl := q_19
            refine va_mmax_long hx hb (hml.trans hl.1.symm) hown (hts _ (List.mem_of_getElem? (i := 4) rfl)) (hts _ (List.mem_of_getElem? (i := 5) rfl)) (hts _ (List.mem_of_getElem? (i := 6) rfl)) (hts _ (List.mem_of_getElem? (i := 7) rfl)) (Nat.le_of_ble_eq_true rfl) (Nat.le_of_ble_eq_true rfl) (Nat.le_refl _) (Nat.le_refl _) dX4_odds_78 ?_
            refine k_topl (y := (lN (Nat.gcd z (odF h w 15 c.toNatClampNeg (wo (ripS pc br kd et ws (h * w)) c) z)))) (max1 hg1 (by omega)) ?_
            refine lv_lstore (lv' := [(6, .long (lN (Nat.gcd z (odF h w 15 c.toNatClampNeg (wo (ripS pc br kd et ws (h * w)) c) z)))), (4, .long (lN (odF h w 15 c.toNatClampNeg (wo (ripS pc br kd et ws (h * w)) c) z))), (0, .ref (a 0)), (1, .int ws), (2, .int c), (3, .int v)]) hx hb dX4_odds_81 hl (by decide) rfl (fun ls hl => ?_)
            refine lv_iload_n hx hb dX4_odds_83 rfl (lv_at hl 5 rfl) ?_
            refine lv_if_ne (tgt := 92) hx hb dX4_odds_84 (by decide) (fun c_20 => ?_) (fun c_20 => ?_)
            · refine lv_ldc2 (v := 15407021574586368) hx hb hown (hts _ (List.mem_of_getElem? (i := 3) rfl)) dX4_odds_92 ?_
              refine k_topl (y := (lN z)) (by rw [hz]; rfl) ?_
              refine lv_lload hx hb dX4_odds_95 (lv_at hl 0 rfl) ?_
              refine lv_ldiv hx hb dX4_odds_97 (lN_ne (by omega) (by omega)) ?_
              refine rl_ret hx hb hr hlk dX4_odds_98 ?_
              rw [show lN z / lN (Nat.gcd z (odF h w 15 c.toNatClampNeg (wo (ripS pc br kd et ws (h * w)) c) z)) = lN (z / (Nat.gcd z (odF h w 15 c.toNatClampNeg (wo (ripS pc br kd et ws (h * w)) c) z))) from pk_lDiv (by omega) (by omega) (by omega)]
              rw [oddR, if_pos ⟨c_3, ⟨c_6, ⟨cb, c_11⟩⟩⟩, if_neg c_20, ← hz]
            · refine lv_lload hx hb dX4_odds_87 (lv_at hl 1 rfl) ?_
              refine lv_goto (tgt := 95) hx hb dX4_odds_89 (by decide) ?_
              refine lv_lload hx hb dX4_odds_95 (lv_at hl 0 rfl) ?_
              refine lv_ldiv hx hb dX4_odds_97 (lN_ne (by omega) (by omega)) ?_
              refine rl_ret hx hb hr hlk dX4_odds_98 ?_
              rw [show lN (odF h w 15 c.toNatClampNeg (wo (ripS pc br kd et ws (h * w)) c) z) / lN (Nat.gcd z (odF h w 15 c.toNatClampNeg (wo (ripS pc br kd et ws (h * w)) c) z)) = lN ((odF h w 15 c.toNatClampNeg (wo (ripS pc br kd et ws (h * w)) c) z) / (Nat.gcd z (odF h w 15 c.toNatClampNeg (wo (ripS pc br kd et ws (h * w)) c) z))) from pk_lDiv (by omega) (by omega) (by omega)]
              rw [oddR, if_pos ⟨c_3, ⟨c_6, ⟨cb, c_11⟩⟩⟩, if_pos c_20, ← hz]
          · have c_11 := b2_f c_11
            refine lv_ldc2 (v := (-9223372036854775808)) hx hb hown (hts _ (List.mem_of_getElem? (i := 2) rfl)) dX4_odds_39 ?_
            refine rl_ret hx hb hr hlk dX4_odds_42 ?_
            rw [oddR, if_neg (fun z => (fun z => (fun z => c_11 z.2) z.2) z.2)]
