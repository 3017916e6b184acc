theorem iwX5_fleece_X5 : ∀ x ∈ wsX50, x ∈ wsX5_fleece := by decide +kernel
set_option maxRecDepth 100000 in
set_option maxHeartbeats 4000000 in
/-- X5_fleece -/
theorem c_X5_fleece (l : Launch) (D : va_G) (cI cJ cO : ClassId) (b : Nat → Nat) (fa : Int32) (h : Nat) (w : Nat) (pc : Int32) (br : Int32) (ra : Int32) (q1 : Int32) (q2 : Int32) (q3 : Int32) (q4 : Int32) (fw : Int32) (ea : Int32) (sn : Int32) (mo : Int32) (rc : Nat) (tr : Int32) (kd : Nat → Int32) (et : Nat → Int32) (pl : Nat → Int32) (nx : Nat → Int32) (rb : Nat → Int32) (ws : Int32) (c : Int32) (v : Int32) (hn : h * w ≤ 16) (hkd : ∀ k, k < 16 → kdOk (kd k)) (het : ∀ k, k < 16 → etOk (et k)) (hbr : 0 < h * w → 1 ≤ br.toInt) : MG l yX5_fleece wsX5_fleece 3 77 0 0 D [(cI, .int), (cJ, .long), (cO, .object "ShornHill$Sheet")] [.ref (b 0), .int ws, .int c, .int v] [(b 0, .inr (5, [.int fa, .int (nI h), .int (nI w), .int pc, .int br, .ref (b 1), .ref (b 2), .int ra, .int q1, .int q2, .int q3, .int q4, .ref (b 3), .int fw, .int ea, .int sn, .ref (b 4), .ref (b 5), .ref (b 6), .int mo, .int (nI rc), .ref (b 7), .ref (b 8), .ref (b 9), .ref (b 10), .ref (b 11), .ref (b 12), .ref (b 13), .ref (b 14), .int tr])), (b 1, .inl (cI, 16, .inl kd)), (b 2, .inl (cI, 16, .inl et)), (b 4, .inl (cI, 17, .inl pl)), (b 5, .inl (cI, 17, .inl nx)), (b 6, .inl (cI, 16, .inl rb))] (QI D (fun (r : Int32) (w1 : va_W) => ∃ (mo2 : Int32) (pl3 : Nat → Int32) (nx3 : Nat → Int32) (rb3 : Nat → Int32), r = (fleR (h * w) pc br kd et h w ws c v) ∧ w1 = [(b 0, .inr (5, [.int fa, .int (nI h), .int (nI w), .int pc, .int br, .ref (b 1), .ref (b 2), .int ra, .int q1, .int q2, .int q3, .int q4, .ref (b 3), .int fw, .int ea, .int sn, .ref (b 4), .ref (b 5), .ref (b 6), .int mo2, .int (nI rc), .ref (b 7), .ref (b 8), .ref (b 9), .ref (b 10), .ref (b 11), .ref (b 12), .ref (b 13), .ref (b 14), .int tr])), (b 1, .inl (cI, 16, .inl kd)), (b 2, .inl (cI, 16, .inl et)), (b 4, .inl (cI, 17, .inl pl3)), (b 5, .inl (cI, 17, .inl nx3)), (b 6, .inl (cI, 16, .inl rb3))])) := by
  refine MG.of (cc := cX5_fleece) (maxL := 4) (ret := (some .int)) (by decide) rfl (Nat.le_of_ble_eq_true rfl) ?_
  intro P_ E_ S_ M_ B_ T_ K_ hx hb hml hr hts hown hlk hnm A hA hP hK hD hS ls hl
  have hl : lv_has ls 4 [(0, .ref (b 0)), (1, .int ws), (2, .int c), (3, .int v)] := hl
  have hin5 : ∀ x ∈ u_ws RX5 TX5 30, x ∈ wsX5_fleece := iwX5_fleece_X5
  refine lv_aload_n hx hb dX5_fleece_0 rfl (lv_at hl 0 rfl) ?_
  refine lv_iload_n hx hb dX5_fleece_1 rfl (lv_at hl 2 rfl) ?_
  refine k_ri (run_RV (As := [.int c]) (rest := []) ⟨hx, hb, hml, hown, hts⟩ (c_X5_noPlace l D cI cJ cO b fa h w pc br ra q1 q2 q3 q4 fw ea sn mo rc tr c hn) (cwV 1 hts gX5_fleece_X5_noPlace rfl rfl rfl (by decide +kernel) ⟨Nat.le_of_ble_eq_true rfl, Nat.le_of_ble_eq_true rfl⟩) hP hK [0] rfl rfl rfl rfl rfl hl.1 rfl (Nat.le_of_ble_eq_true rfl) dX5_fleece_2 ⟨Nat.le_refl _, Nat.le_refl _⟩) (fun r_1 q_2 => ?_)
  obtain rfl := q_2
  refine lv_if_eq (tgt := 10) hx hb dX5_fleece_5 (by decide) (fun c_3 => ?_) (fun c_3 => ?_)
  · have c_3 := Decidable.not_not.mp (b2_f c_3)
    refine lv_iload_n hx hb dX5_fleece_10 rfl (lv_at hl 1 rfl) ?_
    refine k_ri (run_RS (As := [.int ws]) (rest := []) ⟨hx, hb, hml, hown, hts⟩ (c_X5_noWeeks l D cI cJ cO ws) (va_cwS 1 hts gX5_fleece_X5_noWeeks rfl rfl rfl (by decide +kernel) ⟨Nat.le_of_ble_eq_true rfl, Nat.le_of_ble_eq_true rfl⟩) hP hK [] rfl rfl hl.1 rfl (Nat.le_of_ble_eq_true rfl) dX5_fleece_11 ⟨Nat.le_refl _, Nat.le_refl _⟩) (fun r_4 q_5 => ?_)
    obtain rfl := q_5
    refine lv_if_ne (tgt := 31) hx hb dX5_fleece_14 (by decide) (fun c_6 => ?_) (fun c_6 => ?_)
    · have c_6 := b2_t c_6
      refine lv_bipush (v := (-2)) hx hb dX5_fleece_31 (by decide) ?_
      refine mi_ret (v := (-2)) hx hb hr hlk hP hD hS dX5_fleece_33 ?_
      refine ⟨mo, pl, nx, rb, ?_, rfl⟩
      rw [fleR, if_pos c_3, if_neg (fun z => c_6 z.1)] <;> rfl
    · have c_6 := Decidable.not_not.mp (b2_f c_6)
      refine lv_iload_n hx hb dX5_fleece_17 rfl (lv_at hl 3 rfl) ?_
      refine lv_i2l (v := v.toInt64) hx hb dX5_fleece_18 rfl ?_
      refine lv_ldc2 (v := (-1)) hx hb hown (hts _ (List.mem_of_getElem? (i := 1) rfl)) dX5_fleece_19 ?_
      refine lv_ldc2 (v := 14) hx hb hown (hts _ (List.mem_of_getElem? (i := 2) rfl)) dX5_fleece_22 ?_
      refine k_ri (run_RS (As := [.long v.toInt64, .long (-1), .long 14]) (rest := []) ⟨hx, hb, hml, hown, hts⟩ (c_X5_in l D cI cJ cO v.toInt64 (-1) 14) (va_cwS 3 hts gX5_fleece_X5_in rfl rfl rfl (by decide +kernel) ⟨Nat.le_of_ble_eq_true rfl, Nat.le_of_ble_eq_true rfl⟩) hP hK [] rfl rfl hl.1 rfl (Nat.le_of_ble_eq_true rfl) dX5_fleece_25 ⟨Nat.le_refl _, Nat.le_refl _⟩) (fun r_7 q_8 => ?_)
      obtain rfl := q_8
      refine k_top (y := (b2 (btw v (-1) 14))) (b2_cong (in_bt rfl rfl)) ?_
      refine lv_if_ne (tgt := 34) hx hb dX5_fleece_28 (by decide) (fun c_9 => ?_) (fun c_9 => ?_)
      · have c_9 := b2_t c_9
        refine lv_aload_n hx hb dX5_fleece_34 rfl (lv_at hl 0 rfl) ?_
        refine lv_iload_n hx hb dX5_fleece_35 rfl (lv_at hl 1 rfl) ?_
        refine k_ri (run_RV (As := [.int ws]) (rest := []) ⟨hx, hb, hml, hown, hts⟩ (c_X5_ripeBy l D cI cJ cO b fa h w pc br ra q1 q2 q3 q4 fw ea sn mo rc tr kd et ws hn hkd het hbr) (cwV 1 hts gX5_fleece_X5_ripeBy rfl rfl rfl (by decide +kernel) ⟨Nat.le_of_ble_eq_true rfl, Nat.le_of_ble_eq_true rfl⟩) hP hK [0, 1, 2] rfl rfl rfl rfl rfl hl.1 rfl (Nat.le_of_ble_eq_true rfl) dX5_fleece_36 ⟨Nat.le_refl _, Nat.le_refl _⟩) (fun r_10 q_11 => ?_)
        obtain rfl := q_11
        refine lv_iload_n hx hb dX5_fleece_39 rfl (lv_at hl 2 rfl) ?_
        refine k_ri (run_RS (As := [.int (ripS pc br kd et ws (h * w)), .int c]) (rest := []) ⟨hx, hb, hml, hown, hts⟩ (c_X5_isIn l D cI cJ cO (ripS pc br kd et ws (h * w)) c (inN_mono (show inN c (h * w) by assumption) (by omega))) (va_cwS 2 hts gX5_fleece_X5_isIn rfl rfl rfl (by decide +kernel) ⟨Nat.le_of_ble_eq_true rfl, Nat.le_of_ble_eq_true rfl⟩) hP hK [] rfl rfl hl.1 rfl (Nat.le_of_ble_eq_true rfl) dX5_fleece_40 ⟨Nat.le_refl _, Nat.le_refl _⟩) (fun r_12 q_13 => ?_)
        obtain rfl := q_13
        refine lv_if_ne (tgt := 49) hx hb dX5_fleece_43 (by decide) (fun c_14 => ?_) (fun c_14 => ?_)
        · have c_14 := b2_t c_14
          have hrpc : ripP pc br (kd c.toNatClampNeg) (et c.toNatClampNeg) ws := (rip_in hn (by assumption)).mp c_14
          have e_c : c = nI c.toNatClampNeg := (show inN c (h * w) by assumption).eq
          have l_c : c.toNatClampNeg < h * w := (show inN c (h * w) by assumption).lt
          refine lv_aload_n hx hb dX5_fleece_49 rfl (lv_at hl 0 rfl) ?_
          refine lv_aload_n hx hb dX5_fleece_50 rfl (lv_at hl 0 rfl) ?_
          refine lv_iload_n hx hb dX5_fleece_51 rfl (lv_at hl 1 rfl) ?_
          refine k_ri (run_RV (As := [.int ws]) (rest := [.ref (b 0)]) ⟨hx, hb, hml, hown, hts⟩ (c_X5_ripeBy l D cI cJ cO b fa h w pc br ra q1 q2 q3 q4 fw ea sn mo rc tr kd et ws hn hkd het hbr) (cwV 1 hts gX5_fleece_X5_ripeBy rfl rfl rfl (by decide +kernel) ⟨Nat.le_of_ble_eq_true rfl, Nat.le_of_ble_eq_true rfl⟩) hP hK [0, 1, 2] rfl rfl rfl rfl rfl hl.1 rfl (Nat.le_of_ble_eq_true rfl) dX5_fleece_52 ⟨Nat.le_refl _, Nat.le_refl _⟩) (fun r_15 q_16 => ?_)
          obtain rfl := q_16
          refine lv_iload_n hx hb dX5_fleece_55 rfl (lv_at hl 2 rfl) ?_
          refine k_top (y := (nI c.toNatClampNeg)) e_c ?_
          refine k_mv (wr := [(b 1, .inl (cI, 16, .inl kd)), (b 2, .inl (cI, 16, .inl et))]) [0, 3, 4, 5] [1, 2] (run_MV (As := [.int (ripS pc br kd et ws (h * w)), .int (nI c.toNatClampNeg)]) (rest := []) ⟨hx, hb, hml, hown, hts⟩ (c_X5_goFleece l D cI cJ cO b fa h w pc br ra q1 q2 q3 q4 fw ea sn mo rc tr pl nx rb (ripS pc br kd et ws (h * w)) c.toNatClampNeg hn (sm_rip _ _ _ _ _ _ hn) l_c (by rw [← e_c]; assumption)) (cwV 2 hts gX5_fleece_X5_goFleece rfl rfl rfl (by decide +kernel) ⟨Nat.le_of_ble_eq_true rfl, Nat.le_of_ble_eq_true rfl⟩) hP hK hD [0, 3, 4, 5] (by decide) rfl rfl rfl rfl rfl hl.1 rfl (Nat.le_of_ble_eq_true rfl) dX5_fleece_56 ⟨Nat.le_refl _, Nat.le_refl _⟩) hP hD hS hA rfl rfl (by decide) (by decide) (fun w_19 H locs q_18 hP hD hS => ?_)
          obtain ⟨pl3_20, nx3_21, rb3_22, hbs, rfl⟩ := q_18
          have hP : va_P D vwCl [(b 0, .inr (5, [.int fa, .int (nI h), .int (nI w), .int pc, .int br, .ref (b 1), .ref (b 2), .int ra, .int q1, .int q2, .int q3, .int q4, .ref (b 3), .int fw, .int ea, .int sn, .ref (b 4), .ref (b 5), .ref (b 6), .int (nI (msF h w c.toNatClampNeg (ripS pc br kd et ws (h * w)))), .int (nI rc), .ref (b 7), .ref (b 8), .ref (b 9), .ref (b 10), .ref (b 11), .ref (b 12), .ref (b 13), .ref (b 14), .int tr])), (b 1, .inl (cI, 16, .inl kd)), (b 2, .inl (cI, 16, .inl et)), (b 4, .inl (cI, 17, .inl pl3_20)), (b 5, .inl (cI, 17, .inl nx3_21)), (b 6, .inl (cI, 16, .inl rb3_22))] H := hP.sub [2, 0, 1, 3, 4, 5] rfl
          have hD : va_D A [(b 0, .inr (5, [.int fa, .int (nI h), .int (nI w), .int pc, .int br, .ref (b 1), .ref (b 2), .int ra, .int q1, .int q2, .int q3, .int q4, .ref (b 3), .int fw, .int ea, .int sn, .ref (b 4), .ref (b 5), .ref (b 6), .int (nI (msF h w c.toNatClampNeg (ripS pc br kd et ws (h * w)))), .int (nI rc), .ref (b 7), .ref (b 8), .ref (b 9), .ref (b 10), .ref (b 11), .ref (b 12), .ref (b 13), .ref (b 14), .int tr])), (b 1, .inl (cI, 16, .inl kd)), (b 2, .inl (cI, 16, .inl et)), (b 4, .inl (cI, 17, .inl pl3_20)), (b 5, .inl (cI, 17, .inl nx3_21)), (b 6, .inl (cI, 16, .inl rb3_22))] := hD.sub [2, 0, 1, 3, 4, 5] (by decide) rfl
          refine lv_iload_n hx hb dX5_fleece_59 rfl (lv_at hl 3 rfl) ?_
          refine lv_if_ge (tgt := 70) hx hb dX5_fleece_60 (by decide) (fun c_23 => ?_) (fun c_23 => ?_)
          · have hv0 : 0 ≤ v.toInt := by have z := c_23; rw [Int32.le_iff_toInt_le] at z; exact z
            have cv1 : ¬ v = -1 := fun z => by rw [z] at hv0; exact absurd hv0 (by decide)
            refine lv_iload_n hx hb dX5_fleece_70 rfl (lv_at hl 3 rfl) ?_
            refine lv_aload_n hx hb dX5_fleece_71 rfl (lv_at hl 0 rfl) ?_
            refine va_get (D := D) (ci := 5) (v := .int (nI (msF h w c.toNatClampNeg (ripS pc br kd et ws (h * w))))) (C := RX5) (T := TX5) (N := 30) hx hb hts hin5 hown hK.1 hP 0 rfl rfl 19 (by decide) (hts _ (List.mem_of_getElem? (i := 3) rfl)) (fun _ h9 => h9) rfl dX5_fleece_72 ?_
            refine lv_iconst (v := 1) hx hb dX5_fleece_75 (by decide) ?_
            refine lv_isub hx hb dX5_fleece_76 ?_
            refine lv_icmp_ge (tgt := 89) hx hb dX5_fleece_77 (by decide) (fun c_24 => ?_) (fun c_24 => ?_)
            · have hm0 := msF_le h w c.toNatClampNeg (ripS pc br kd et ws (h * w))
              have hme : (nI (msF h w c.toNatClampNeg (ripS pc br kd et ws (h * w))) - 1).toInt = (msF h w c.toNatClampNeg (ripS pc br kd et ws (h * w)) : Int) - 1 := subT (by decide) (by rw [ti_1]; have := msF_pos h w c.toNatClampNeg (ripS pc br kd et ws (h * w)); omega) (by omega)
              have ck : ¬ v.toInt + 1 < msF h w c.toNatClampNeg (ripS pc br kd et ws (h * w)) := by rw [Int32.le_iff_toInt_le, hme] at c_24; omega
              refine lv_bipush (v := (-9)) hx hb dX5_fleece_89 (by decide) ?_
              refine mi_ret (v := (-9)) hx hb hr hlk hP hD hS dX5_fleece_91 ?_
              refine ⟨(nI (msF h w c.toNatClampNeg (ripS pc br kd et ws (h * w)))), pl3_20, nx3_21, rb3_22, ?_, rfl⟩
              rw [fleR, if_pos c_3, if_pos ⟨c_6, c_9⟩, if_pos hrpc, if_neg cv1, if_neg ck] <;> rfl
            · have hm0 := msF_le h w c.toNatClampNeg (ripS pc br kd et ws (h * w))
              have hme : (nI (msF h w c.toNatClampNeg (ripS pc br kd et ws (h * w))) - 1).toInt = (msF h w c.toNatClampNeg (ripS pc br kd et ws (h * w)) : Int) - 1 := subT (by decide) (by rw [ti_1]; have := msF_pos h w c.toNatClampNeg (ripS pc br kd et ws (h * w)); omega) (by omega)
              have ck : v.toInt + 1 < msF h w c.toNatClampNeg (ripS pc br kd et ws (h * w)) := by rw [Int32.le_iff_toInt_le, hme] at c_24; omega
              refine lv_aload_n hx hb dX5_fleece_80 rfl (lv_at hl 0 rfl) ?_
              refine va_get (D := D) (ci := 5) (v := .ref (b 6)) (C := RX5) (T := TX5) (N := 30) hx hb hts hin5 hown hK.1 hP 0 rfl rfl 18 (by decide) (hts _ (List.mem_of_getElem? (i := 4) rfl)) (fun _ h9 => h9) rfl dX5_fleece_81 ?_
              refine lv_iload_n hx hb dX5_fleece_84 rfl (lv_at hl 3 rfl) ?_
              refine k_iald hx hb hK hP 5 0 rfl rfl (j := v.toNatClampNeg) (vp_in_iff.mpr ⟨hv0, by have := msF_le h w c.toNatClampNeg (ripS pc br kd et ws (h * w)); omega⟩) rfl dX5_fleece_85 ?_
              refine lv_goto (tgt := 91) hx hb dX5_fleece_86 (by decide) ?_
              refine mi_ret (v := (rb3_22 v.toNatClampNeg)) hx hb hr hlk hP hD hS dX5_fleece_91 ?_
              refine ⟨(nI (msF h w c.toNatClampNeg (ripS pc br kd et ws (h * w)))), pl3_20, nx3_21, rb3_22, ?_, rfl⟩
              rw [fleR, if_pos c_3, if_pos ⟨c_6, c_9⟩, if_pos hrpc, if_neg cv1, if_pos ck]
              exact hbs _ (by show v.toInt.toNat + 1 < _; omega)
          · have cv1 : v = -1 := by refine Int32.toInt_inj.mp ?_; have z1 := (show btw v (-1) 14 by assumption).1; have z2 : ¬ (0 : Int) ≤ v.toInt := fun z => c_23 (by rw [Int32.le_iff_toInt_le]; exact z); rw [ti_m1]; omega
            refine lv_aload_n hx hb dX5_fleece_63 rfl (lv_at hl 0 rfl) ?_
            refine va_get (D := D) (ci := 5) (v := .int (nI (msF h w c.toNatClampNeg (ripS pc br kd et ws (h * w))))) (C := RX5) (T := TX5) (N := 30) hx hb hts hin5 hown hK.1 hP 0 rfl rfl 19 (by decide) (hts _ (List.mem_of_getElem? (i := 3) rfl)) (fun _ h9 => h9) rfl dX5_fleece_64 ?_
            refine lv_goto (tgt := 91) hx hb dX5_fleece_67 (by decide) ?_
            refine mi_ret (v := (nI (msF h w c.toNatClampNeg (ripS pc br kd et ws (h * w))))) hx hb hr hlk hP hD hS dX5_fleece_91 ?_
            refine ⟨(nI (msF h w c.toNatClampNeg (ripS pc br kd et ws (h * w)))), pl3_20, nx3_21, rb3_22, ?_, rfl⟩
            rw [fleR, if_pos c_3, if_pos ⟨c_6, c_9⟩, if_pos hrpc, if_pos cv1] <;> rfl
        · have c_14 := b2_f c_14
          have hrpc : ¬ ripP pc br (kd c.toNatClampNeg) (et c.toNatClampNeg) ws := fun z => c_14 ((rip_in hn (by assumption)).mpr z)
          refine lv_bipush (v := (-3)) hx hb dX5_fleece_46 (by decide) ?_
          refine mi_ret (v := (-3)) hx hb hr hlk hP hD hS dX5_fleece_48 ?_
          refine ⟨mo, pl, nx, rb, ?_, rfl⟩
          rw [fleR, if_pos c_3, if_pos ⟨c_6, c_9⟩, if_neg hrpc] <;> rfl
      · have c_9 := b2_f c_9
        refine lv_bipush (v := (-2)) hx hb dX5_fleece_31 (by decide) ?_
        refine mi_ret (v := (-2)) hx hb hr hlk hP hD hS dX5_fleece_33 ?_
        refine ⟨mo, pl, nx, rb, ?_, rfl⟩
        rw [fleR, if_pos c_3, if_neg (fun z => c_9 z.2)] <;> rfl
  · have c_3 := b2_t c_3
    refine lv_iconst (v := (-1)) hx hb dX5_fleece_8 (by decide) ?_
    refine mi_ret (v := (-1)) hx hb hr hlk hP hD hS dX5_fleece_9 ?_
    refine ⟨mo, pl, nx, rb, ?_, rfl⟩
    rw [fleR, if_neg c_3] <;> rfl
theorem iwX5_startBy_X5 : ∀ x ∈ wsX50, x ∈ wsX5_startBy := by decide +kernel
set_option maxRecDepth 100000 in
set_option maxHeartbeats 4000000 in
/-- X5_startBy -/
theorem c_X5_startBy (l : Launch) (D : va_G) (cI cJ cO : ClassId) (b : Nat → Nat) (fa : Int32) (h : Nat) (w : Nat) (pc : Int32) (br : Int32) (ra : Int32) (q1 : Int32) (q2 : Int32) (q3 : Int32) (q4 : Int32) (fw : Int32) (ea : Int32) (sn : Int32) (mo : Int32) (rc : Nat) (tr : Int32) (kd : Nat → Int32) (et : Nat → Int32) (pl : Nat → Int32) (nx : Nat → Int32) (rb : Nat → Int32) (ws : Int32) (hn : h * w ≤ 16) (hkd : ∀ k, k < 16 → kdOk (kd k)) (het : ∀ k, k < 16 → etOk (et k)) (hbr : 0 < h * w → 1 ≤ br.toInt) : MG l yX5_startBy wsX5_startBy 3 77 0 0 D [(cI, .int), (cJ, .long), (cO, .object "ShornHill$Sheet")] [.ref (b 0), .int ws] [(b 0, .inr (5, [.int fa, .int (nI h), .int (nI w), .int pc, .int br, .ref (b 1), .ref (b 2), .int ra, .int q1, .int q2, .int q3, .int q4, .ref (b 3), .int fw, .int ea, .int sn, .ref (b 4), .ref (b 5), .ref (b 6), .int mo, .int (nI rc), .ref (b 7), .ref (b 8), .ref (b 9), .ref (b 10), .ref (b 11), .ref (b 12), .ref (b 13), .ref (b 14), .int tr])), (b 1, .inl (cI, 16, .inl kd)), (b 2, .inl (cI, 16, .inl et)), (b 4, .inl (cI, 17, .inl pl)), (b 5, .inl (cI, 17, .inl nx)), (b 6, .inl (cI, 16, .inl rb))] (QI D (fun (r : Int32) (w1 : va_W) => ∃ (mo2 : Int32) (pl3 : Nat → Int32) (nx3 : Nat → Int32) (rb3 : Nat → Int32), r = ((staF h w (ripS pc br kd et ws (h * w)) (h * w)).2) ∧ w1 = [(b 0, .inr (5, [.int fa, .int (nI h), .int (nI w), .int pc, .int br, .ref (b 1), .ref (b 2), .int ra, .int q1, .int q2, .int q3, .int q4, .ref (b 3), .int fw, .int ea, .int sn, .ref (b 4), .ref (b 5), .ref (b 6), .int mo2, .int (nI rc), .ref (b 7), .ref (b 8), .ref (b 9), .ref (b 10), .ref (b 11), .ref (b 12), .ref (b 13), .ref (b 14), .int tr])), (b 1, .inl (cI, 16, .inl kd)), (b 2, .inl (cI, 16, .inl et)), (b 4, .inl (cI, 17, .inl pl3)), (b 5, .inl (cI, 17, .inl nx3)), (b 6, .inl (cI, 16, .inl rb3))])) := by
  refine MG.of (cc := cX5_startBy) (maxL := 6) (ret := (some .int)) (by decide) rfl (Nat.le_of_ble_eq_true rfl) ?_
  intro P_ E_ S_ M_ B_ T_ K_ hx hb hml hr hts hown hlk hnm A hA hP hK hD hS ls hl
  have hl : lv_has ls 6 [(0, .ref (b 0)), (1, .int ws)] := hl
  have hin5 : ∀ x ∈ u_ws RX5 TX5 30, x ∈ wsX5_startBy := iwX5_startBy_X5
  have hG16 := popN_le 16 (sN (ripS pc br kd et ws (h * w)))
  refine lv_aload_n hx hb dX5_startBy_0 rfl (lv_at hl 0 rfl) ?_
  refine lv_iload_n hx hb dX5_startBy_1 rfl (lv_at hl 1 rfl) ?_
  refine k_ri (run_RV (As := [.int ws]) (rest := []) ⟨hx, hb, hml, hown, hts⟩ (c_X5_ripeBy l D cI cJ cO b fa h w pc br ra q1 q2 q3 q4 fw ea sn mo rc tr kd et ws hn hkd het hbr) (cwV 1 hts gX5_startBy_X5_ripeBy rfl rfl rfl (by decide +kernel) ⟨Nat.le_of_ble_eq_true rfl, Nat.le_of_ble_eq_true rfl⟩) hP hK [0, 1, 2] rfl rfl rfl rfl rfl hl.1 rfl (Nat.le_of_ble_eq_true rfl) dX5_startBy_2 ⟨Nat.le_refl _, Nat.le_refl _⟩) (fun r_1 q_2 => ?_)
  obtain rfl := q_2
  refine lv_istore_n (lv' := [(2, .int (ripS pc br kd et ws (h * w))), (0, .ref (b 0)), (1, .int ws)]) hx hb dX5_startBy_5 rfl hl (by decide) rfl (fun ls hl => ?_)
  refine lv_bipush (v := (-9)) hx hb dX5_startBy_6 (by decide) ?_
  refine lv_istore_n (lv' := [(3, .int (-9)), (2, .int (ripS pc br kd et ws (h * w))), (0, .ref (b 0)), (1, .int ws)]) hx hb dX5_startBy_8 rfl hl (by decide) rfl (fun ls hl => ?_)
  refine lv_iconst (v := 0) hx hb dX5_startBy_9 (by decide) ?_
  refine lv_istore (lv' := [(4, .int 0), (3, .int (-9)), (2, .int (ripS pc br kd et ws (h * w))), (0, .ref (b 0)), (1, .int ws)]) hx hb dX5_startBy_10 hl (by decide) rfl (fun ls hl => ?_)
  refine lv_iconst (v := 0) hx hb dX5_startBy_12 (by decide) ?_
  refine lv_istore (lv' := [(5, .int 0), (4, .int 0), (3, .int (-9)), (2, .int (ripS pc br kd et ws (h * w))), (0, .ref (b 0)), (1, .int ws)]) hx hb dX5_startBy_13 hl (by decide) rfl (fun ls hl => ?_)
  have key_4 : ∀ (n_3 : Nat) (k : Nat) (mo2 : Int32) (pl3 : Nat → Int32) (nx3 : Nat → Int32) (rb3 : Nat → Int32) (q : Nat × Int32), (k ≤ h * w) → (staF h w (ripS pc br kd et ws (h * w)) k = q) → (q.1 ≤ 16) → h * w - k < n_3 → ∀ (H : Heap) (locs : List Loc), va_P D vwCl [(b 0, .inr (5, [.int fa, .int (nI h), .int (nI w), .int pc, .int br, .ref (b 1), .ref (b 2), .int ra, .int q1, .int q2, .int q3, .int q4, .ref (b 3), .int fw, .int ea, .int sn, .ref (b 4), .ref (b 5), .ref (b 6), .int mo2, .int (nI rc), .ref (b 7), .ref (b 8), .ref (b 9), .ref (b 10), .ref (b 11), .ref (b 12), .ref (b 13), .ref (b 14), .int tr])), (b 1, .inl (cI, 16, .inl kd)), (b 2, .inl (cI, 16, .inl et)), (b 4, .inl (cI, 17, .inl pl3)), (b 5, .inl (cI, 17, .inl nx3)), (b 6, .inl (cI, 16, .inl rb3))] H → va_D A [(b 0, .inr (5, [.int fa, .int (nI h), .int (nI w), .int pc, .int br, .ref (b 1), .ref (b 2), .int ra, .int q1, .int q2, .int q3, .int q4, .ref (b 3), .int fw, .int ea, .int sn, .ref (b 4), .ref (b 5), .ref (b 6), .int mo2, .int (nI rc), .ref (b 7), .ref (b 8), .ref (b 9), .ref (b 10), .ref (b 11), .ref (b 12), .ref (b 13), .ref (b 14), .int tr])), (b 1, .inl (cI, 16, .inl kd)), (b 2, .inl (cI, 16, .inl et)), (b 4, .inl (cI, 17, .inl pl3)), (b 5, .inl (cI, 17, .inl nx3)), (b 6, .inl (cI, 16, .inl rb3))] → va_S A S_.heap H locs → ∀ ls : Array Slot, lv_has ls 6 [(0, .ref (b 0)), (1, .int ws), (2, .int (ripS pc br kd et ws (h * w))), (3, .int q.2), (4, .int (nI q.1)), (5, .int (nI k))] → W P_ l E_ ({ frames := 3, cells := 0, slots := 0, locals := 77 } : Room) S_ M_ (([.ref (b 0), .int ws] : List Value).toArray) B_ T_ K_ H locs 0 0 (MQ B_ ((QI D (fun (r : Int32) (w1 : va_W) => ∃ (mo2 : Int32) (pl3 : Nat → Int32) (nx3 : Nat → Int32) (rb3 : Nat → Int32), r = ((staF h w (ripS pc br kd et ws (h * w)) (h * w)).2) ∧ w1 = [(b 0, .inr (5, [.int fa, .int (nI h), .int (nI w), .int pc, .int br, .ref (b 1), .ref (b 2), .int ra, .int q1, .int q2, .int q3, .int q4, .ref (b 3), .int fw, .int ea, .int sn, .ref (b 4), .ref (b 5), .ref (b 6), .int mo2, .int (nI rc), .ref (b 7), .ref (b 8), .ref (b 9), .ref (b 10), .ref (b 11), .ref (b 12), .ref (b 13), .ref (b 14), .int tr])), (b 1, .inl (cI, 16, .inl kd)), (b 2, .inl (cI, 16, .inl et)), (b 4, .inl (cI, 17, .inl pl3)), (b 5, .inl (cI, 17, .inl nx3)), (b 6, .inl (cI, 16, .inl rb3))])) A) (([.ref (b 0), .int ws] : List Value).toArray) S_ 0 0 A) (F0 M_ 15 ls []) := by
    intro n_3
    induction n_3 with
    | zero =>
      intro k mo2 pl3 nx3 rb3 q hk hq hq16 hmu_n_3
      exact absurd hmu_n_3 (Nat.not_lt_zero _)
    | succ n_3 ih_5 =>
      intro k mo2 pl3 nx3 rb3 q hk hq hq16 hmu_n_3 H locs hP hD hS ls hl
      have hl : lv_has ls 6 [(0, .ref (b 0)), (1, .int ws), (2, .int (ripS pc br kd et ws (h * w))), (3, .int q.2), (4, .int (nI q.1)), (5, .int (nI k))] := hl
      have hP : va_P D vwCl [(b 0, .inr (5, [.int fa, .int (nI h), .int (nI w), .int pc, .int br, .ref (b 1), .ref (b 2), .int ra, .int q1, .int q2, .int q3, .int q4, .ref (b 3), .int fw, .int ea, .int sn, .ref (b 4), .ref (b 5), .ref (b 6), .int mo2, .int (nI rc), .ref (b 7), .ref (b 8), .ref (b 9), .ref (b 10), .ref (b 11), .ref (b 12), .ref (b 13), .ref (b 14), .int tr])), (b 1, .inl (cI, 16, .inl kd)), (b 2, .inl (cI, 16, .inl et)), (b 4, .inl (cI, 17, .inl pl3)), (b 5, .inl (cI, 17, .inl nx3)), (b 6, .inl (cI, 16, .inl rb3))] H := hP
      have hD : va_D A [(b 0, .inr (5, [.int fa, .int (nI h), .int (nI w), .int pc, .int br, .ref (b 1), .ref (b 2), .int ra, .int q1, .int q2, .int q3, .int q4, .ref (b 3), .int fw, .int ea, .int sn, .ref (b 4), .ref (b 5), .ref (b 6), .int mo2, .int (nI rc), .ref (b 7), .ref (b 8), .ref (b 9), .ref (b 10), .ref (b 11), .ref (b 12), .ref (b 13), .ref (b 14), .int tr])), (b 1, .inl (cI, 16, .inl kd)), (b 2, .inl (cI, 16, .inl et)), (b 4, .inl (cI, 17, .inl pl3)), (b 5, .inl (cI, 17, .inl nx3)), (b 6, .inl (cI, 16, .inl rb3))] := hD
      refine lv_iload hx hb dX5_startBy_15 (lv_at hl 5 rfl) ?_
      refine lv_aload_n hx hb dX5_startBy_17 rfl (lv_at hl 0 rfl) ?_
      refine k_ri (run_RV (As := []) (rest := [.int (nI k)]) ⟨hx, hb, hml, hown, hts⟩ (c_X5_cells l D cI cJ cO b fa h w pc br ra q1 q2 q3 q4 fw ea sn mo2 rc tr) (cwV 0 hts gX5_startBy_X5_cells rfl rfl rfl (by decide +kernel) ⟨Nat.le_of_ble_eq_true rfl, Nat.le_of_ble_eq_true rfl⟩) hP hK [0] rfl rfl rfl rfl rfl hl.1 rfl (Nat.le_of_ble_eq_true rfl) dX5_startBy_18 ⟨Nat.le_refl _, Nat.le_refl _⟩) (fun r_6 q_7 => ?_)
      obtain rfl := q_7
      refine lv_icmp_ge (tgt := 91) hx hb dX5_startBy_21 (by decide) (fun c_8 => ?_) (fun c_8 => ?_)
      · have c_8 : h * w ≤ k := (nI_leI (a := h * w) (b := k) (by omega) (by omega)).mp c_8
        refine lv_iload_n hx hb dX5_startBy_91 rfl (lv_at hl 3 rfl) ?_
        refine mi_ret (v := q.2) hx hb hr hlk hP hD hS dX5_startBy_92 ?_
        obtain rfl : k = h * w := by omega
        refine ⟨mo2, pl3, nx3, rb3, ?_, rfl⟩
        rw [hq]
      · have c_8 : k < h * w := Nat.lt_of_not_le (fun z => c_8 ((nI_leI (a := h * w) (b := k) (by omega) (by omega)).mpr z))
        refine lv_iload_n hx hb dX5_startBy_24 rfl (lv_at hl 2 rfl) ?_
        refine lv_iload hx hb dX5_startBy_25 (lv_at hl 5 rfl) ?_
        refine k_ri (run_RS (As := [.int (ripS pc br kd et ws (h * w)), .int (nI k)]) (rest := []) ⟨hx, hb, hml, hown, hts⟩ (c_X5_isIn l D cI cJ cO (ripS pc br kd et ws (h * w)) (nI k) (nI_inN (by omega) (by decide))) (va_cwS 2 hts gX5_startBy_X5_isIn rfl rfl rfl (by decide +kernel) ⟨Nat.le_of_ble_eq_true rfl, Nat.le_of_ble_eq_true rfl⟩) hP hK [] rfl rfl hl.1 rfl (Nat.le_of_ble_eq_true rfl) dX5_startBy_27 ⟨Nat.le_refl _, Nat.le_refl _⟩) (fun r_9 q_10 => ?_)
        obtain rfl := q_10
        refine lv_if_eq (tgt := 85) hx hb dX5_startBy_30 (by decide) (fun c_11 => ?_) (fun c_11 => ?_)
        · have c_11 := b2_f c_11
          refine lv_iinc (v := (nI (k + 1))) (lv' := [(5, .int (nI (k + 1))), (0, .ref (b 0)), (1, .int ws), (2, .int (ripS pc br kd et ws (h * w))), (3, .int q.2), (4, .int (nI q.1))]) hx hb dX5_startBy_85 hl (k := 5) rfl (nI_add _ 1) (by decide) rfl (fun ls hl => ?_)
          refine lv_goto (tgt := 15) hx hb dX5_startBy_88 (by decide) ?_
          exact ih_5 (k + 1) mo2 pl3 nx3 rb3 q (by omega) (st_no hq c_11) hq16 (by omega) _ _ hP hD hS ls (lv_sub hl [1, 2, 3, 4, 5, 0] rfl)
        · have c_11 := b2_t c_11
          refine lv_iload hx hb dX5_startBy_33 (lv_at hl 4 rfl) ?_
          refine lv_iload_n hx hb dX5_startBy_35 rfl (lv_at hl 2 rfl) ?_
          refine k_ri (run_RS (As := [.int (ripS pc br kd et ws (h * w))]) (rest := [.int (nI q.1)]) ⟨hx, hb, hml, hown, hts⟩ (c_X5_bits l D cI cJ cO (ripS pc br kd et ws (h * w)) (sm_rip _ _ _ _ _ _ hn)) (va_cwS 1 hts gX5_startBy_X5_bits rfl rfl rfl (by decide +kernel) ⟨Nat.le_of_ble_eq_true rfl, Nat.le_of_ble_eq_true rfl⟩) hP hK [] rfl rfl hl.1 rfl (Nat.le_of_ble_eq_true rfl) dX5_startBy_36 ⟨Nat.le_refl _, Nat.le_refl _⟩) (fun r_12 q_13 => ?_)
          obtain rfl := q_13
          refine lv_icmp_ge (tgt := 85) hx hb dX5_startBy_39 (by decide) (fun c_14 => ?_) (fun c_14 => ?_)
          · have c_14 : popN 16 (sN (ripS pc br kd et ws (h * w))) ≤ q.1 := (nI_leI (a := popN 16 (sN (ripS pc br kd et ws (h * w)))) (b := q.1) (by omega) (by omega)).mp c_14
            refine lv_iinc (v := (nI (k + 1))) (lv' := [(5, .int (nI (k + 1))), (0, .ref (b 0)), (1, .int ws), (2, .int (ripS pc br kd et ws (h * w))), (3, .int q.2), (4, .int (nI q.1))]) hx hb dX5_startBy_85 hl (k := 5) rfl (nI_add _ 1) (by decide) rfl (fun ls hl => ?_)
            refine lv_goto (tgt := 15) hx hb dX5_startBy_88 (by decide) ?_
            exact ih_5 (k + 1) mo2 pl3 nx3 rb3 q (by omega) (st_ge hn (by omega) hq (by omega)) hq16 (by omega) _ _ hP hD hS ls (lv_sub hl [1, 2, 3, 4, 5, 0] rfl)
          · have c_14 : q.1 < popN 16 (sN (ripS pc br kd et ws (h * w))) := Nat.lt_of_not_le (fun z => c_14 ((nI_leI (a := popN 16 (sN (ripS pc br kd et ws (h * w)))) (b := q.1) (by omega) (by omega)).mpr z))
            refine lv_aload_n hx hb dX5_startBy_42 rfl (lv_at hl 0 rfl) ?_
            refine lv_iload_n hx hb dX5_startBy_43 rfl (lv_at hl 2 rfl) ?_
            refine lv_iload hx hb dX5_startBy_44 (lv_at hl 5 rfl) ?_
            refine k_mv (wr := [(b 1, .inl (cI, 16, .inl kd)), (b 2, .inl (cI, 16, .inl et))]) [0, 3, 4, 5] [1, 2] (run_MV (As := [.int (ripS pc br kd et ws (h * w)), .int (nI k)]) (rest := []) ⟨hx, hb, hml, hown, hts⟩ (c_X5_goFleece l D cI cJ cO b fa h w pc br ra q1 q2 q3 q4 fw ea sn mo2 rc tr pl3 nx3 rb3 (ripS pc br kd et ws (h * w)) k hn (sm_rip _ _ _ _ _ _ hn) (by omega) (by assumption)) (cwV 2 hts gX5_startBy_X5_goFleece rfl rfl rfl (by decide +kernel) ⟨Nat.le_of_ble_eq_true rfl, Nat.le_of_ble_eq_true rfl⟩) hP hK hD [0, 3, 4, 5] (by decide) rfl rfl rfl rfl rfl hl.1 rfl (Nat.le_of_ble_eq_true rfl) dX5_startBy_46 ⟨Nat.le_refl _, Nat.le_refl _⟩) hP hD hS hA rfl rfl (by decide) (by decide) (fun w_17 H locs q_16 hP hD hS => ?_)
            obtain ⟨pl3_18, nx3_19, rb3_20, hbs_21, rfl⟩ := q_16
            have hP : va_P D vwCl [(b 0, .inr (5, [.int fa, .int (nI h), .int (nI w), .int pc, .int br, .ref (b 1), .ref (b 2), .int ra, .int q1, .int q2, .int q3, .int q4, .ref (b 3), .int fw, .int ea, .int sn, .ref (b 4), .ref (b 5), .ref (b 6), .int (nI (msF h w k (ripS pc br kd et ws (h * w)))), .int (nI rc), .ref (b 7), .ref (b 8), .ref (b 9), .ref (b 10), .ref (b 11), .ref (b 12), .ref (b 13), .ref (b 14), .int tr])), (b 1, .inl (cI, 16, .inl kd)), (b 2, .inl (cI, 16, .inl et)), (b 4, .inl (cI, 17, .inl pl3_18)), (b 5, .inl (cI, 17, .inl nx3_19)), (b 6, .inl (cI, 16, .inl rb3_20))] H := hP.sub [2, 0, 1, 3, 4, 5] rfl
            have hD : va_D A [(b 0, .inr (5, [.int fa, .int (nI h), .int (nI w), .int pc, .int br, .ref (b 1), .ref (b 2), .int ra, .int q1, .int q2, .int q3, .int q4, .ref (b 3), .int fw, .int ea, .int sn, .ref (b 4), .ref (b 5), .ref (b 6), .int (nI (msF h w k (ripS pc br kd et ws (h * w)))), .int (nI rc), .ref (b 7), .ref (b 8), .ref (b 9), .ref (b 10), .ref (b 11), .ref (b 12), .ref (b 13), .ref (b 14), .int tr])), (b 1, .inl (cI, 16, .inl kd)), (b 2, .inl (cI, 16, .inl et)), (b 4, .inl (cI, 17, .inl pl3_18)), (b 5, .inl (cI, 17, .inl nx3_19)), (b 6, .inl (cI, 16, .inl rb3_20))] := hD.sub [2, 0, 1, 3, 4, 5] (by decide) rfl
            have hM16 := msF_le h w k (ripS pc br kd et ws (h * w))
            refine lv_aload_n hx hb dX5_startBy_49 rfl (lv_at hl 0 rfl) ?_
            refine va_get (D := D) (ci := 5) (v := .int (nI (msF h w k (ripS pc br kd et ws (h * w))))) (C := RX5) (T := TX5) (N := 30) hx hb hts hin5 hown hK.1 hP 0 rfl rfl 19 (by decide) (hts _ (List.mem_of_getElem? (i := 1) rfl)) (fun _ h9 => h9) rfl dX5_startBy_50 ?_
            refine lv_iload hx hb dX5_startBy_53 (lv_at hl 4 rfl) ?_
            refine lv_icmp_le (tgt := 63) hx hb dX5_startBy_55 (by decide) (fun c_22 => ?_) (fun c_22 => ?_)
            · have c_22 : msF h w k (ripS pc br kd et ws (h * w)) ≤ q.1 := (nI_leI (a := msF h w k (ripS pc br kd et ws (h * w))) (b := q.1) (by omega) (by omega)).mp c_22
              refine lv_iload_n hx hb dX5_startBy_63 rfl (lv_at hl 3 rfl) ?_
              refine lv_istore_n (lv' := [(3, .int q.2), (0, .ref (b 0)), (1, .int ws), (2, .int (ripS pc br kd et ws (h * w))), (4, .int (nI q.1)), (5, .int (nI k))]) hx hb dX5_startBy_64 rfl hl (by decide) rfl (fun ls hl => ?_)
              refine lv_aload_n hx hb dX5_startBy_65 rfl (lv_at hl 1 rfl) ?_
              refine va_get (D := D) (ci := 5) (v := .int (nI (msF h w k (ripS pc br kd et ws (h * w))))) (C := RX5) (T := TX5) (N := 30) hx hb hts hin5 hown hK.1 hP 0 rfl rfl 19 (by decide) (hts _ (List.mem_of_getElem? (i := 1) rfl)) (fun _ h9 => h9) rfl dX5_startBy_66 ?_
              refine lv_iload hx hb dX5_startBy_69 (lv_at hl 4 rfl) ?_
              refine lv_icmp_le (tgt := 81) hx hb dX5_startBy_71 (by decide) (fun c_23 => ?_) (fun c_23 => ?_)
              · have c_23 : msF h w k (ripS pc br kd et ws (h * w)) ≤ q.1 := (nI_leI (a := msF h w k (ripS pc br kd et ws (h * w))) (b := q.1) (by omega) (by omega)).mp c_23
                refine lv_iload hx hb dX5_startBy_81 (lv_at hl 4 rfl) ?_
                refine lv_istore (lv' := [(4, .int (nI q.1)), (3, .int q.2), (0, .ref (b 0)), (1, .int ws), (2, .int (ripS pc br kd et ws (h * w))), (5, .int (nI k))]) hx hb dX5_startBy_83 hl (by decide) rfl (fun ls hl => ?_)
                refine lv_iinc (v := (nI (k + 1))) (lv' := [(5, .int (nI (k + 1))), (4, .int (nI q.1)), (3, .int q.2), (0, .ref (b 0)), (1, .int ws), (2, .int (ripS pc br kd et ws (h * w)))]) hx hb dX5_startBy_85 hl (k := 5) rfl (nI_add _ 1) (by decide) rfl (fun ls hl => ?_)
                refine lv_goto (tgt := 15) hx hb dX5_startBy_88 (by decide) ?_
                exact ih_5 (k + 1) (nI (msF h w k (ripS pc br kd et ws (h * w)))) pl3_18 nx3_19 rb3_20 q (by omega) (st_le hq c_11 (by omega)) hq16 (by omega) _ _ hP hD hS ls (lv_sub hl [3, 4, 5, 2, 1, 0] rfl)
              · exact absurd ((nI_leI (a := msF h w k (ripS pc br kd et ws (h * w))) (b := q.1) (by omega) (by omega)).mpr c_22) c_23
            · have c_22 : q.1 < msF h w k (ripS pc br kd et ws (h * w)) := Nat.lt_of_not_le (fun z => c_22 ((nI_leI (a := msF h w k (ripS pc br kd et ws (h * w))) (b := q.1) (by omega) (by omega)).mpr z))
              refine lv_iload hx hb dX5_startBy_58 (lv_at hl 5 rfl) ?_
              refine lv_goto (tgt := 64) hx hb dX5_startBy_60 (by decide) ?_
              refine lv_istore_n (lv' := [(3, .int (nI k)), (0, .ref (b 0)), (1, .int ws), (2, .int (ripS pc br kd et ws (h * w))), (4, .int (nI q.1)), (5, .int (nI k))]) hx hb dX5_startBy_64 rfl hl (by decide) rfl (fun ls hl => ?_)
              refine lv_aload_n hx hb dX5_startBy_65 rfl (lv_at hl 1 rfl) ?_
              refine va_get (D := D) (ci := 5) (v := .int (nI (msF h w k (ripS pc br kd et ws (h * w))))) (C := RX5) (T := TX5) (N := 30) hx hb hts hin5 hown hK.1 hP 0 rfl rfl 19 (by decide) (hts _ (List.mem_of_getElem? (i := 1) rfl)) (fun _ h9 => h9) rfl dX5_startBy_66 ?_
              refine lv_iload hx hb dX5_startBy_69 (lv_at hl 4 rfl) ?_
              refine lv_icmp_le (tgt := 81) hx hb dX5_startBy_71 (by decide) (fun c_24 => ?_) (fun c_24 => ?_)
              · exact absurd c_24 (fun z => absurd ((nI_leI (a := msF h w k (ripS pc br kd et ws (h * w))) (b := q.1) (by omega) (by omega)).mp z) (by omega))
              · have c_24 : q.1 < msF h w k (ripS pc br kd et ws (h * w)) := Nat.lt_of_not_le (fun z => c_24 ((nI_leI (a := msF h w k (ripS pc br kd et ws (h * w))) (b := q.1) (by omega) (by omega)).mpr z))
                refine lv_aload_n hx hb dX5_startBy_74 rfl (lv_at hl 1 rfl) ?_
                refine va_get (D := D) (ci := 5) (v := .int (nI (msF h w k (ripS pc br kd et ws (h * w))))) (C := RX5) (T := TX5) (N := 30) hx hb hts hin5 hown hK.1 hP 0 rfl rfl 19 (by decide) (hts _ (List.mem_of_getElem? (i := 1) rfl)) (fun _ h9 => h9) rfl dX5_startBy_75 ?_
                refine lv_goto (tgt := 83) hx hb dX5_startBy_78 (by decide) ?_
                refine lv_istore (lv' := [(4, .int (nI (msF h w k (ripS pc br kd et ws (h * w))))), (3, .int (nI k)), (0, .ref (b 0)), (1, .int ws), (2, .int (ripS pc br kd et ws (h * w))), (5, .int (nI k))]) hx hb dX5_startBy_83 hl (by decide) rfl (fun ls hl => ?_)
                refine lv_iinc (v := (nI (k + 1))) (lv' := [(5, .int (nI (k + 1))), (4, .int (nI (msF h w k (ripS pc br kd et ws (h * w))))), (3, .int (nI k)), (0, .ref (b 0)), (1, .int ws), (2, .int (ripS pc br kd et ws (h * w)))]) hx hb dX5_startBy_85 hl (k := 5) rfl (nI_add _ 1) (by decide) rfl (fun ls hl => ?_)
                refine lv_goto (tgt := 15) hx hb dX5_startBy_88 (by decide) ?_
                exact ih_5 (k + 1) (nI (msF h w k (ripS pc br kd et ws (h * w)))) pl3_18 nx3_19 rb3_20 (msF h w k (ripS pc br kd et ws (h * w)), nI k) (by omega) (st_take hq c_11 (by omega)) (msF_le _ _ _ _) (by omega) _ _ hP hD hS ls (lv_sub hl [3, 4, 5, 2, 1, 0] rfl)
  exact key_4 _ 0 mo pl nx rb (0, -9) (by omega) rfl (by decide) (Nat.lt_succ_self _) _ _ hP hD hS ls (lv_sub hl [4, 5, 3, 2, 1, 0] rfl)
theorem iwX5_start_X5 : ∀ x ∈ wsX50, x ∈ wsX5_start := by decide +kernel
set_option maxRecDepth 100000 in
set_option maxHeartbeats 4000000 in
/-- X5_start -/
theorem c_X5_start (l : Launch) (D : va_G) (cI cJ cO : ClassId) (b : Nat → Nat) (fa : Int32) (h : Nat) (w : Nat) (pc : Int32) (br : Int32) (ra : Int32) (q1 : Int32) (q2 : Int32) (q3 : Int32) (q4 : Int32) (fw : Int32) (ea : Int32) (sn : Int32) (mo : Int32) (rc : Nat) (tr : Int32) (kd : Nat → Int32) (et : Nat → Int32) (pl : Nat → Int32) (nx : Nat → Int32) (rb : Nat → Int32) (ws : Int32) (hn : h * w ≤ 16) (hh : h ≤ 4) (hkd : ∀ k, k < 16 → kdOk (kd k)) (het : ∀ k, k < 16 → etOk (et k)) (hbr : 0 < h * w → 1 ≤ br.toInt) : MG l yX5_start wsX5_start 4 102 0 0 D [(cI, .int), (cJ, .long), (cO, .object "ShornHill$Sheet")] [.ref (b 0), .int ws] [(b 0, .inr (5, [.int fa, .int (nI h), .int (nI w), .int pc, .int br, .ref (b 1), .ref (b 2), .int ra, .int q1, .int q2, .int q3, .int q4, .ref (b 3), .int fw, .int ea, .int sn, .ref (b 4), .ref (b 5), .ref (b 6), .int mo, .int (nI rc), .ref (b 7), .ref (b 8), .ref (b 9), .ref (b 10), .ref (b 11), .ref (b 12), .ref (b 13), .ref (b 14), .int tr])), (b 1, .inl (cI, 16, .inl kd)), (b 2, .inl (cI, 16, .inl et)), (b 4, .inl (cI, 17, .inl pl)), (b 5, .inl (cI, 17, .inl nx)), (b 6, .inl (cI, 16, .inl rb))] (QI D (fun (r : Int32) (w1 : va_W) => ∃ (mo2 : Int32) (pl3 : Nat → Int32) (nx3 : Nat → Int32) (rb3 : Nat → Int32), r = (staR h (h * w) pc br kd et w ws) ∧ w1 = [(b 0, .inr (5, [.int fa, .int (nI h), .int (nI w), .int pc, .int br, .ref (b 1), .ref (b 2), .int ra, .int q1, .int q2, .int q3, .int q4, .ref (b 3), .int fw, .int ea, .int sn, .ref (b 4), .ref (b 5), .ref (b 6), .int mo2, .int (nI rc), .ref (b 7), .ref (b 8), .ref (b 9), .ref (b 10), .ref (b 11), .ref (b 12), .ref (b 13), .ref (b 14), .int tr])), (b 1, .inl (cI, 16, .inl kd)), (b 2, .inl (cI, 16, .inl et)), (b 4, .inl (cI, 17, .inl pl3)), (b 5, .inl (cI, 17, .inl nx3)), (b 6, .inl (cI, 16, .inl rb3))])) := by
  refine MG.of (cc := cX5_start) (maxL := 2) (ret := (some .int)) (by decide) rfl (Nat.le_of_ble_eq_true rfl) ?_
  intro P_ E_ S_ M_ B_ T_ K_ hx hb hml hr hts hown hlk hnm A hA hP hK hD hS ls hl
  have hl : lv_has ls 2 [(0, .ref (b 0)), (1, .int ws)] := hl
  have hin5 : ∀ x ∈ u_ws RX5 TX5 30, x ∈ wsX5_start := iwX5_start_X5
  refine lv_aload_n hx hb dX5_start_0 rfl (lv_at hl 0 rfl) ?_
  refine va_get (D := D) (ci := 5) (v := .int (nI h)) (C := RX5) (T := TX5) (N := 30) hx hb hts hin5 hown hK.1 hP 0 rfl rfl 1 (by decide) (hts _ (List.mem_of_getElem? (i := 1) rfl)) (fun _ h9 => h9) rfl dX5_start_1 ?_
  refine lv_if_ne (tgt := 10) hx hb dX5_start_4 (by decide) (fun c_1 => ?_) (fun c_1 => ?_)
  · have c_1 : ¬ h = 0 := fun z => c_1 ((nI_eq (a := h) (b := 0) (by omega) (by omega)).mpr z)
    refine lv_iload_n hx hb dX5_start_10 rfl (lv_at hl 1 rfl) ?_
    refine k_ri (run_RS (As := [.int ws]) (rest := []) ⟨hx, hb, hml, hown, hts⟩ (c_X5_noWeeks l D cI cJ cO ws) (va_cwS 1 hts gX5_start_X5_noWeeks rfl rfl rfl (by decide +kernel) ⟨Nat.le_of_ble_eq_true rfl, Nat.le_of_ble_eq_true rfl⟩) hP hK [] rfl rfl hl.1 rfl (Nat.le_of_ble_eq_true rfl) dX5_start_11 ⟨Nat.le_refl _, Nat.le_refl _⟩) (fun r_2 q_3 => ?_)
    obtain rfl := q_3
    refine lv_if_eq (tgt := 22) hx hb dX5_start_14 (by decide) (fun c_4 => ?_) (fun c_4 => ?_)
    · have c_4 := Decidable.not_not.mp (b2_f c_4)
      refine lv_aload_n hx hb dX5_start_22 rfl (lv_at hl 0 rfl) ?_
      refine lv_iload_n hx hb dX5_start_23 rfl (lv_at hl 1 rfl) ?_
      refine k_mi (wr := []) [0, 1, 2, 3, 4, 5] [] (run_MV (As := [.int ws]) (rest := []) ⟨hx, hb, hml, hown, hts⟩ (c_X5_startBy l D cI cJ cO b fa h w pc br ra q1 q2 q3 q4 fw ea sn mo rc tr kd et pl nx rb ws hn hkd het hbr) (cwV 1 hts gX5_start_X5_startBy rfl rfl rfl (by decide +kernel) ⟨Nat.le_of_ble_eq_true rfl, Nat.le_of_ble_eq_true rfl⟩) hP hK hD [0, 1, 2, 3, 4, 5] (by decide) rfl rfl rfl rfl rfl hl.1 rfl (Nat.le_of_ble_eq_true rfl) dX5_start_24 ⟨Nat.le_refl _, Nat.le_refl _⟩) hP hD hS hA rfl rfl (by decide) (by decide) (fun r_5 w_7 H locs q_6 hP hD hS => ?_)
      obtain ⟨mo2_8, pl3_9, nx3_10, rb3_11, rfl, rfl⟩ := q_6
      have hP : va_P D vwCl [(b 0, .inr (5, [.int fa, .int (nI h), .int (nI w), .int pc, .int br, .ref (b 1), .ref (b 2), .int ra, .int q1, .int q2, .int q3, .int q4, .ref (b 3), .int fw, .int ea, .int sn, .ref (b 4), .ref (b 5), .ref (b 6), .int mo2_8, .int (nI rc), .ref (b 7), .ref (b 8), .ref (b 9), .ref (b 10), .ref (b 11), .ref (b 12), .ref (b 13), .ref (b 14), .int tr])), (b 1, .inl (cI, 16, .inl kd)), (b 2, .inl (cI, 16, .inl et)), (b 4, .inl (cI, 17, .inl pl3_9)), (b 5, .inl (cI, 17, .inl nx3_10)), (b 6, .inl (cI, 16, .inl rb3_11))] H := hP.sub [0, 1, 2, 3, 4, 5] rfl
      have hD : va_D A [(b 0, .inr (5, [.int fa, .int (nI h), .int (nI w), .int pc, .int br, .ref (b 1), .ref (b 2), .int ra, .int q1, .int q2, .int q3, .int q4, .ref (b 3), .int fw, .int ea, .int sn, .ref (b 4), .ref (b 5), .ref (b 6), .int mo2_8, .int (nI rc), .ref (b 7), .ref (b 8), .ref (b 9), .ref (b 10), .ref (b 11), .ref (b 12), .ref (b 13), .ref (b 14), .int tr])), (b 1, .inl (cI, 16, .inl kd)), (b 2, .inl (cI, 16, .inl et)), (b 4, .inl (cI, 17, .inl pl3_9)), (b 5, .inl (cI, 17, .inl nx3_10)), (b 6, .inl (cI, 16, .inl rb3_11))] := hD.sub [0, 1, 2, 3, 4, 5] (by decide) rfl
      refine mi_ret (v := ((staF h w (ripS pc br kd et ws (h * w)) (h * w)).2)) hx hb hr hlk hP hD hS dX5_start_27 ?_
      refine ⟨mo2_8, pl3_9, nx3_10, rb3_11, ?_, rfl⟩
      rw [staR, if_neg c_1, if_pos c_4] <;> rfl
    · have c_4 := b2_t c_4
      refine lv_bipush (v := (-2)) hx hb dX5_start_17 (by decide) ?_
      refine lv_goto (tgt := 27) hx hb dX5_start_19 (by decide) ?_
      refine mi_ret (v := (-2)) hx hb hr hlk hP hD hS dX5_start_27 ?_
      refine ⟨mo, pl, nx, rb, ?_, rfl⟩
      rw [staR, if_neg c_1, if_neg c_4] <;> rfl
  · have c_1 : h = 0 := (nI_eq (a := h) (b := 0) (by omega) (by omega)).mp c_1
    refine lv_bipush (v := (-3)) hx hb dX5_start_7 (by decide) ?_
    refine mi_ret (v := (-3)) hx hb hr hlk hP hD hS dX5_start_9 ?_
    refine ⟨mo, pl, nx, rb, ?_, rfl⟩
    rw [staR, if_pos c_1] <;> rfl
