theorem iwX5_tell_X5 : ∀ x ∈ wsX50, x ∈ wsX5_tell := by decide +kernel
set_option maxRecDepth 100000 in
set_option maxHeartbeats 4000000 in
/-- X5_tell -/
theorem c_X5_tell (l : Launch) (D : va_G) (cI cJ cO : ClassId) (b : Nat → Nat) (fa : Int32) (h : Nat) (w : Nat) (pc : Int32) (br : Int32) (ra : Int32) (q1 : Int32) (q2 : Int32) (q3 : Int32) (q4 : Int32) (fw : Int32) (ea : Int32) (sn : Int32) (mo : Int32) (rc : Nat) (tr : Int32) (kd : Nat → Int32) (et : Nat → Int32) (c : Int32) (hn : h * w ≤ 16) (hkd : ∀ k, k < 16 → kdOk (kd k)) : MG l yX5_tell wsX5_tell 3 67 0 0 D [(cI, .int), (cJ, .long), (cO, .object "ShornHill$Sheet")] [.ref (b 0), .int c] [(b 0, .inr (5, [.int fa, .int (nI h), .int (nI w), .int pc, .int br, .ref (b 1), .ref (b 2), .int ra, .int q1, .int q2, .int q3, .int q4, .ref (b 3), .int fw, .int ea, .int sn, .ref (b 4), .ref (b 5), .ref (b 6), .int mo, .int (nI rc), .ref (b 7), .ref (b 8), .ref (b 9), .ref (b 10), .ref (b 11), .ref (b 12), .ref (b 13), .ref (b 14), .int tr])), (b 1, .inl (cI, 16, .inl kd)), (b 2, .inl (cI, 16, .inl et))] (QI D (fun (r : Int32) (w1 : va_W) => r = (teR (h * w) kd et c) ∧ w1 = [(b 0, .inr (5, [.int fa, .int (nI h), .int (nI w), .int pc, .int br, .ref (b 1), .ref (b 2), .int ra, .int q1, .int q2, .int q3, .int q4, .ref (b 3), .int fw, .int ea, .int sn, .ref (b 4), .ref (b 5), .ref (b 6), .int mo, .int (nI rc), .ref (b 7), .ref (b 8), .ref (b 9), .ref (b 10), .ref (b 11), .ref (b 12), .ref (b 13), .ref (b 14), .int (teT (h * w) kd tr c)])), (b 1, .inl (cI, 16, .inl kd)), (b 2, .inl (cI, 16, .inl et))])) := by
  refine MG.of (cc := cX5_tell) (maxL := 4) (ret := (some .int)) (by decide) rfl (Nat.le_of_ble_eq_true rfl) ?_
  intro P_ E_ S_ M_ B_ T_ K_ hx hb hml hr hts hown hlk hnm A hA hP hK hD hS ls hl
  have hl : lv_has ls 4 [(0, .ref (b 0)), (1, .int c)] := hl
  have hin5 : ∀ x ∈ u_ws RX5 TX5 30, x ∈ wsX5_tell := iwX5_tell_X5
  refine lv_aload_n hx hb dX5_tell_0 rfl (lv_at hl 0 rfl) ?_
  refine lv_iload_n hx hb dX5_tell_1 rfl (lv_at hl 1 rfl) ?_
  refine k_ri (run_RV (As := [.int c]) (rest := []) ⟨hx, hb, hml, hown, hts⟩ (c_X5_noGrass l D cI cJ cO b fa h w pc br ra q1 q2 q3 q4 fw ea sn mo rc tr kd c hn) (cwV 1 hts gX5_tell_X5_noGrass rfl rfl rfl (by decide +kernel) ⟨Nat.le_of_ble_eq_true rfl, Nat.le_of_ble_eq_true rfl⟩) hP hK [0, 1] rfl rfl rfl rfl rfl hl.1 rfl (Nat.le_of_ble_eq_true rfl) dX5_tell_2 ⟨Nat.le_refl _, Nat.le_refl _⟩) (fun r_1 q_2 => ?_)
  obtain rfl := q_2
  refine lv_if_eq (tgt := 10) hx hb dX5_tell_5 (by decide) (fun c_3 => ?_) (fun c_3 => ?_)
  · have c_3 := Decidable.not_not.mp (b2_f c_3)
    refine lv_aload_n hx hb dX5_tell_10 rfl (lv_at hl 0 rfl) ?_
    refine va_get (D := D) (ci := 5) (v := .ref (b 1)) (C := RX5) (T := TX5) (N := 30) hx hb hts hin5 hown hK.1 hP 0 rfl rfl 5 (by decide) (hts _ (List.mem_of_getElem? (i := 1) rfl)) (fun _ h9 => h9) rfl dX5_tell_11 ?_
    refine lv_iload_n hx hb dX5_tell_14 rfl (lv_at hl 1 rfl) ?_
    refine k_iald hx hb hK hP 1 0 rfl rfl (j := c.toNatClampNeg) (inN.vp c_3.1 (by omega)) rfl dX5_tell_15 ?_
    rcases hkd c.toNatClampNeg (by have := c_3.1.lt; omega) with hkc | hkc | hkc | hkc
    · refine k_top (y := 0) hkc ?_
      have hkn1 : ¬ kd c.toNatClampNeg = 1 := fun z => absurd (hkc.symm.trans z) (by decide)
      have hkn2 : ¬ kd c.toNatClampNeg = 2 := fun z => absurd (hkc.symm.trans z) (by decide)
      refine lv_istore_n (lv' := [(2, .int 0), (0, .ref (b 0)), (1, .int c)]) hx hb dX5_tell_16 rfl hl (by decide) rfl (fun ls hl => ?_)
      refine lv_iload_n hx hb dX5_tell_17 rfl (lv_at hl 0 rfl) ?_
      refine lv_iconst (v := 2) hx hb dX5_tell_18 (by decide) ?_
      refine lv_icmp_ne (tgt := 27) hx hb dX5_tell_19 (by decide) (fun c_4 => ?_) (fun c_4 => ?_)
      · refine lv_iload_n hx hb dX5_tell_27 rfl (lv_at hl 0 rfl) ?_
        refine lv_if_le (tgt := 36) hx hb dX5_tell_28 (by decide) (fun c_5 => ?_) (fun c_5 => ?_)
        · refine lv_aload_n hx hb dX5_tell_36 rfl (lv_at hl 1 rfl) ?_
          refine lv_iconst (v := 1) hx hb dX5_tell_37 (by decide) ?_
          refine k_mv (wr := [(b 1, .inl (cI, 16, .inl kd)), (b 2, .inl (cI, 16, .inl et))]) [0] [1, 2] (run_MV (As := [.int 1]) (rest := []) ⟨hx, hb, hml, hown, hts⟩ (c_X5_traced l D cI cJ cO b fa h w pc br ra q1 q2 q3 q4 fw ea sn mo rc tr 1) (cwV 1 hts gX5_tell_X5_traced rfl rfl rfl (by decide +kernel) ⟨Nat.le_of_ble_eq_true rfl, Nat.le_of_ble_eq_true rfl⟩) hP hK hD [0] (by decide) rfl rfl rfl rfl rfl hl.1 rfl (Nat.le_of_ble_eq_true rfl) dX5_tell_38 ⟨Nat.le_refl _, Nat.le_refl _⟩) hP hD hS hA rfl rfl (by decide) (by decide) (fun w_8 H locs q_7 hP hD hS => ?_)
          obtain rfl := q_7
          have hP : va_P D vwCl [(b 0, .inr (5, [.int fa, .int (nI h), .int (nI w), .int pc, .int br, .ref (b 1), .ref (b 2), .int ra, .int q1, .int q2, .int q3, .int q4, .ref (b 3), .int fw, .int ea, .int sn, .ref (b 4), .ref (b 5), .ref (b 6), .int mo, .int (nI rc), .ref (b 7), .ref (b 8), .ref (b 9), .ref (b 10), .ref (b 11), .ref (b 12), .ref (b 13), .ref (b 14), .int (beg tr 1)])), (b 1, .inl (cI, 16, .inl kd)), (b 2, .inl (cI, 16, .inl et))] H := hP.sub [2, 0, 1] rfl
          have hD : va_D A [(b 0, .inr (5, [.int fa, .int (nI h), .int (nI w), .int pc, .int br, .ref (b 1), .ref (b 2), .int ra, .int q1, .int q2, .int q3, .int q4, .ref (b 3), .int fw, .int ea, .int sn, .ref (b 4), .ref (b 5), .ref (b 6), .int mo, .int (nI rc), .ref (b 7), .ref (b 8), .ref (b 9), .ref (b 10), .ref (b 11), .ref (b 12), .ref (b 13), .ref (b 14), .int (beg tr 1)])), (b 1, .inl (cI, 16, .inl kd)), (b 2, .inl (cI, 16, .inl et))] := hD.sub [2, 0, 1] (by decide) rfl
          refine lv_iload_n hx hb dX5_tell_41 rfl (lv_at hl 0 rfl) ?_
          refine lv_iconst (v := 2) hx hb dX5_tell_42 (by decide) ?_
          refine lv_icmp_ne (tgt := 51) hx hb dX5_tell_43 (by decide) (fun c_9 => ?_) (fun c_9 => ?_)
          · refine lv_aload_n hx hb dX5_tell_51 rfl (lv_at hl 1 rfl) ?_
            refine va_get (D := D) (ci := 5) (v := .ref (b 2)) (C := RX5) (T := TX5) (N := 30) hx hb hts hin5 hown hK.1 hP 0 rfl rfl 6 (by decide) (hts _ (List.mem_of_getElem? (i := 2) rfl)) (fun _ h9 => h9) rfl dX5_tell_52 ?_
            refine lv_iload_n hx hb dX5_tell_55 rfl (lv_at hl 2 rfl) ?_
            refine k_iald hx hb hK hP 2 0 rfl rfl (j := c.toNatClampNeg) (inN.vp c_3.1 (by omega)) rfl dX5_tell_56 ?_
            refine lv_istore_n (lv' := [(3, .int (et c.toNatClampNeg)), (2, .int 0), (0, .ref (b 0)), (1, .int c)]) hx hb dX5_tell_57 rfl hl (by decide) rfl (fun ls hl => ?_)
            refine lv_iload_n hx hb dX5_tell_58 rfl (lv_at hl 1 rfl) ?_
            refine lv_if_ne (tgt := 66) hx hb dX5_tell_59 (by decide) (fun c_10 => ?_) (fun c_10 => ?_)
            · exact absurd c_10 (by decide)
            · refine lv_iload_n hx hb dX5_tell_62 rfl (lv_at hl 0 rfl) ?_
              refine lv_goto (tgt := 84) hx hb dX5_tell_63 (by decide) ?_
              refine mi_ret (v := (et c.toNatClampNeg)) hx hb hr hlk hP hD hS dX5_tell_84 ?_
              rw [show teT (h * w) kd tr c = _ from by rw [teT, if_pos c_3, if_neg hkn1, if_neg hkn2]]
              refine ⟨?_, rfl⟩
              rw [teR, if_pos c_3, if_neg hkn1, if_neg hkn2] <;> first | rfl | exact two_100 _
          · exact absurd c_9 (by decide)
        · exact absurd c_5 (by decide)
      · exact absurd c_4 (by decide)
    · refine k_top (y := 1) hkc ?_
      have hkn0 : ¬ kd c.toNatClampNeg = 0 := fun z => absurd (hkc.symm.trans z) (by decide)
      have hkn2 : ¬ kd c.toNatClampNeg = 2 := fun z => absurd (hkc.symm.trans z) (by decide)
      refine lv_istore_n (lv' := [(2, .int 1), (0, .ref (b 0)), (1, .int c)]) hx hb dX5_tell_16 rfl hl (by decide) rfl (fun ls hl => ?_)
      refine lv_iload_n hx hb dX5_tell_17 rfl (lv_at hl 0 rfl) ?_
      refine lv_iconst (v := 2) hx hb dX5_tell_18 (by decide) ?_
      refine lv_icmp_ne (tgt := 27) hx hb dX5_tell_19 (by decide) (fun c_11 => ?_) (fun c_11 => ?_)
      · refine lv_iload_n hx hb dX5_tell_27 rfl (lv_at hl 0 rfl) ?_
        refine lv_if_le (tgt := 36) hx hb dX5_tell_28 (by decide) (fun c_12 => ?_) (fun c_12 => ?_)
        · exact absurd c_12 (by decide)
        · refine lv_aload_n hx hb dX5_tell_31 rfl (lv_at hl 1 rfl) ?_
          refine lv_iconst (v := 2) hx hb dX5_tell_32 (by decide) ?_
          refine k_mv (wr := [(b 1, .inl (cI, 16, .inl kd)), (b 2, .inl (cI, 16, .inl et))]) [0] [1, 2] (run_MV (As := [.int 2]) (rest := []) ⟨hx, hb, hml, hown, hts⟩ (c_X5_traced l D cI cJ cO b fa h w pc br ra q1 q2 q3 q4 fw ea sn mo rc tr 2) (cwV 1 hts gX5_tell_X5_traced rfl rfl rfl (by decide +kernel) ⟨Nat.le_of_ble_eq_true rfl, Nat.le_of_ble_eq_true rfl⟩) hP hK hD [0] (by decide) rfl rfl rfl rfl rfl hl.1 rfl (Nat.le_of_ble_eq_true rfl) dX5_tell_33 ⟨Nat.le_refl _, Nat.le_refl _⟩) hP hD hS hA rfl rfl (by decide) (by decide) (fun w_15 H locs q_14 hP hD hS => ?_)
          obtain rfl := q_14
          have hP : va_P D vwCl [(b 0, .inr (5, [.int fa, .int (nI h), .int (nI w), .int pc, .int br, .ref (b 1), .ref (b 2), .int ra, .int q1, .int q2, .int q3, .int q4, .ref (b 3), .int fw, .int ea, .int sn, .ref (b 4), .ref (b 5), .ref (b 6), .int mo, .int (nI rc), .ref (b 7), .ref (b 8), .ref (b 9), .ref (b 10), .ref (b 11), .ref (b 12), .ref (b 13), .ref (b 14), .int (beg tr 2)])), (b 1, .inl (cI, 16, .inl kd)), (b 2, .inl (cI, 16, .inl et))] H := hP.sub [2, 0, 1] rfl
          have hD : va_D A [(b 0, .inr (5, [.int fa, .int (nI h), .int (nI w), .int pc, .int br, .ref (b 1), .ref (b 2), .int ra, .int q1, .int q2, .int q3, .int q4, .ref (b 3), .int fw, .int ea, .int sn, .ref (b 4), .ref (b 5), .ref (b 6), .int mo, .int (nI rc), .ref (b 7), .ref (b 8), .ref (b 9), .ref (b 10), .ref (b 11), .ref (b 12), .ref (b 13), .ref (b 14), .int (beg tr 2)])), (b 1, .inl (cI, 16, .inl kd)), (b 2, .inl (cI, 16, .inl et))] := hD.sub [2, 0, 1] (by decide) rfl
          refine lv_aload_n hx hb dX5_tell_36 rfl (lv_at hl 1 rfl) ?_
          refine lv_iconst (v := 1) hx hb dX5_tell_37 (by decide) ?_
          refine k_mv (wr := [(b 1, .inl (cI, 16, .inl kd)), (b 2, .inl (cI, 16, .inl et))]) [0] [1, 2] (run_MV (As := [.int 1]) (rest := []) ⟨hx, hb, hml, hown, hts⟩ (c_X5_traced l D cI cJ cO b fa h w pc br ra q1 q2 q3 q4 fw ea sn mo rc (beg tr 2) 1) (cwV 1 hts gX5_tell_X5_traced rfl rfl rfl (by decide +kernel) ⟨Nat.le_of_ble_eq_true rfl, Nat.le_of_ble_eq_true rfl⟩) hP hK hD [0] (by decide) rfl rfl rfl rfl rfl hl.1 rfl (Nat.le_of_ble_eq_true rfl) dX5_tell_38 ⟨Nat.le_refl _, Nat.le_refl _⟩) hP hD hS hA rfl rfl (by decide) (by decide) (fun w_18 H locs q_17 hP hD hS => ?_)
          obtain rfl := q_17
          have hP : va_P D vwCl [(b 0, .inr (5, [.int fa, .int (nI h), .int (nI w), .int pc, .int br, .ref (b 1), .ref (b 2), .int ra, .int q1, .int q2, .int q3, .int q4, .ref (b 3), .int fw, .int ea, .int sn, .ref (b 4), .ref (b 5), .ref (b 6), .int mo, .int (nI rc), .ref (b 7), .ref (b 8), .ref (b 9), .ref (b 10), .ref (b 11), .ref (b 12), .ref (b 13), .ref (b 14), .int (beg (beg tr 2) 1)])), (b 1, .inl (cI, 16, .inl kd)), (b 2, .inl (cI, 16, .inl et))] H := hP.sub [2, 0, 1] rfl
          have hD : va_D A [(b 0, .inr (5, [.int fa, .int (nI h), .int (nI w), .int pc, .int br, .ref (b 1), .ref (b 2), .int ra, .int q1, .int q2, .int q3, .int q4, .ref (b 3), .int fw, .int ea, .int sn, .ref (b 4), .ref (b 5), .ref (b 6), .int mo, .int (nI rc), .ref (b 7), .ref (b 8), .ref (b 9), .ref (b 10), .ref (b 11), .ref (b 12), .ref (b 13), .ref (b 14), .int (beg (beg tr 2) 1)])), (b 1, .inl (cI, 16, .inl kd)), (b 2, .inl (cI, 16, .inl et))] := hD.sub [2, 0, 1] (by decide) rfl
          refine lv_iload_n hx hb dX5_tell_41 rfl (lv_at hl 0 rfl) ?_
          refine lv_iconst (v := 2) hx hb dX5_tell_42 (by decide) ?_
          refine lv_icmp_ne (tgt := 51) hx hb dX5_tell_43 (by decide) (fun c_19 => ?_) (fun c_19 => ?_)
          · refine lv_aload_n hx hb dX5_tell_51 rfl (lv_at hl 1 rfl) ?_
            refine va_get (D := D) (ci := 5) (v := .ref (b 2)) (C := RX5) (T := TX5) (N := 30) hx hb hts hin5 hown hK.1 hP 0 rfl rfl 6 (by decide) (hts _ (List.mem_of_getElem? (i := 2) rfl)) (fun _ h9 => h9) rfl dX5_tell_52 ?_
            refine lv_iload_n hx hb dX5_tell_55 rfl (lv_at hl 2 rfl) ?_
            refine k_iald hx hb hK hP 2 0 rfl rfl (j := c.toNatClampNeg) (inN.vp c_3.1 (by omega)) rfl dX5_tell_56 ?_
            refine lv_istore_n (lv' := [(3, .int (et c.toNatClampNeg)), (2, .int 1), (0, .ref (b 0)), (1, .int c)]) hx hb dX5_tell_57 rfl hl (by decide) rfl (fun ls hl => ?_)
            refine lv_iload_n hx hb dX5_tell_58 rfl (lv_at hl 1 rfl) ?_
            refine lv_if_ne (tgt := 66) hx hb dX5_tell_59 (by decide) (fun c_20 => ?_) (fun c_20 => ?_)
            · refine lv_iload_n hx hb dX5_tell_66 rfl (lv_at hl 1 rfl) ?_
              refine lv_iconst (v := 1) hx hb dX5_tell_67 (by decide) ?_
              refine lv_icmp_ne (tgt := 78) hx hb dX5_tell_68 (by decide) (fun c_21 => ?_) (fun c_21 => ?_)
              · exact absurd c_21 (by decide)
              · refine lv_iload_n hx hb dX5_tell_71 rfl (lv_at hl 0 rfl) ?_
                refine lv_bipush (v := 100) hx hb dX5_tell_72 (by decide) ?_
                refine lv_iadd hx hb dX5_tell_74 ?_
                refine lv_goto (tgt := 84) hx hb dX5_tell_75 (by decide) ?_
                refine mi_ret (v := ((et c.toNatClampNeg) + 100)) hx hb hr hlk hP hD hS dX5_tell_84 ?_
                rw [show teT (h * w) kd tr c = _ from by rw [teT, if_pos c_3, if_pos hkc]]
                refine ⟨?_, rfl⟩
                rw [teR, if_pos c_3, if_pos hkc] <;> first | rfl | exact two_100 _
            · exact absurd c_20 (by decide)
          · exact absurd c_19 (by decide)
      · exact absurd c_11 (by decide)
    · refine k_top (y := 2) hkc ?_
      have hkn0 : ¬ kd c.toNatClampNeg = 0 := fun z => absurd (hkc.symm.trans z) (by decide)
      have hkn1 : ¬ kd c.toNatClampNeg = 1 := fun z => absurd (hkc.symm.trans z) (by decide)
      refine lv_istore_n (lv' := [(2, .int 2), (0, .ref (b 0)), (1, .int c)]) hx hb dX5_tell_16 rfl hl (by decide) rfl (fun ls hl => ?_)
      refine lv_iload_n hx hb dX5_tell_17 rfl (lv_at hl 0 rfl) ?_
      refine lv_iconst (v := 2) hx hb dX5_tell_18 (by decide) ?_
      refine lv_icmp_ne (tgt := 27) hx hb dX5_tell_19 (by decide) (fun c_22 => ?_) (fun c_22 => ?_)
      · exact absurd c_22 (by decide)
      · refine lv_aload_n hx hb dX5_tell_22 rfl (lv_at hl 1 rfl) ?_
        refine lv_iconst (v := 3) hx hb dX5_tell_23 (by decide) ?_
        refine k_mv (wr := [(b 1, .inl (cI, 16, .inl kd)), (b 2, .inl (cI, 16, .inl et))]) [0] [1, 2] (run_MV (As := [.int 3]) (rest := []) ⟨hx, hb, hml, hown, hts⟩ (c_X5_traced l D cI cJ cO b fa h w pc br ra q1 q2 q3 q4 fw ea sn mo rc tr 3) (cwV 1 hts gX5_tell_X5_traced rfl rfl rfl (by decide +kernel) ⟨Nat.le_of_ble_eq_true rfl, Nat.le_of_ble_eq_true rfl⟩) hP hK hD [0] (by decide) rfl rfl rfl rfl rfl hl.1 rfl (Nat.le_of_ble_eq_true rfl) dX5_tell_24 ⟨Nat.le_refl _, Nat.le_refl _⟩) hP hD hS hA rfl rfl (by decide) (by decide) (fun w_25 H locs q_24 hP hD hS => ?_)
        obtain rfl := q_24
        have hP : va_P D vwCl [(b 0, .inr (5, [.int fa, .int (nI h), .int (nI w), .int pc, .int br, .ref (b 1), .ref (b 2), .int ra, .int q1, .int q2, .int q3, .int q4, .ref (b 3), .int fw, .int ea, .int sn, .ref (b 4), .ref (b 5), .ref (b 6), .int mo, .int (nI rc), .ref (b 7), .ref (b 8), .ref (b 9), .ref (b 10), .ref (b 11), .ref (b 12), .ref (b 13), .ref (b 14), .int (beg tr 3)])), (b 1, .inl (cI, 16, .inl kd)), (b 2, .inl (cI, 16, .inl et))] H := hP.sub [2, 0, 1] rfl
        have hD : va_D A [(b 0, .inr (5, [.int fa, .int (nI h), .int (nI w), .int pc, .int br, .ref (b 1), .ref (b 2), .int ra, .int q1, .int q2, .int q3, .int q4, .ref (b 3), .int fw, .int ea, .int sn, .ref (b 4), .ref (b 5), .ref (b 6), .int mo, .int (nI rc), .ref (b 7), .ref (b 8), .ref (b 9), .ref (b 10), .ref (b 11), .ref (b 12), .ref (b 13), .ref (b 14), .int (beg tr 3)])), (b 1, .inl (cI, 16, .inl kd)), (b 2, .inl (cI, 16, .inl et))] := hD.sub [2, 0, 1] (by decide) rfl
        refine lv_iload_n hx hb dX5_tell_27 rfl (lv_at hl 0 rfl) ?_
        refine lv_if_le (tgt := 36) hx hb dX5_tell_28 (by decide) (fun c_26 => ?_) (fun c_26 => ?_)
        · exact absurd c_26 (by decide)
        · refine lv_aload_n hx hb dX5_tell_31 rfl (lv_at hl 1 rfl) ?_
          refine lv_iconst (v := 2) hx hb dX5_tell_32 (by decide) ?_
          refine k_mv (wr := [(b 1, .inl (cI, 16, .inl kd)), (b 2, .inl (cI, 16, .inl et))]) [0] [1, 2] (run_MV (As := [.int 2]) (rest := []) ⟨hx, hb, hml, hown, hts⟩ (c_X5_traced l D cI cJ cO b fa h w pc br ra q1 q2 q3 q4 fw ea sn mo rc (beg tr 3) 2) (cwV 1 hts gX5_tell_X5_traced rfl rfl rfl (by decide +kernel) ⟨Nat.le_of_ble_eq_true rfl, Nat.le_of_ble_eq_true rfl⟩) hP hK hD [0] (by decide) rfl rfl rfl rfl rfl hl.1 rfl (Nat.le_of_ble_eq_true rfl) dX5_tell_33 ⟨Nat.le_refl _, Nat.le_refl _⟩) hP hD hS hA rfl rfl (by decide) (by decide) (fun w_29 H locs q_28 hP hD hS => ?_)
          obtain rfl := q_28
          have hP : va_P D vwCl [(b 0, .inr (5, [.int fa, .int (nI h), .int (nI w), .int pc, .int br, .ref (b 1), .ref (b 2), .int ra, .int q1, .int q2, .int q3, .int q4, .ref (b 3), .int fw, .int ea, .int sn, .ref (b 4), .ref (b 5), .ref (b 6), .int mo, .int (nI rc), .ref (b 7), .ref (b 8), .ref (b 9), .ref (b 10), .ref (b 11), .ref (b 12), .ref (b 13), .ref (b 14), .int (beg (beg tr 3) 2)])), (b 1, .inl (cI, 16, .inl kd)), (b 2, .inl (cI, 16, .inl et))] H := hP.sub [2, 0, 1] rfl
          have hD : va_D A [(b 0, .inr (5, [.int fa, .int (nI h), .int (nI w), .int pc, .int br, .ref (b 1), .ref (b 2), .int ra, .int q1, .int q2, .int q3, .int q4, .ref (b 3), .int fw, .int ea, .int sn, .ref (b 4), .ref (b 5), .ref (b 6), .int mo, .int (nI rc), .ref (b 7), .ref (b 8), .ref (b 9), .ref (b 10), .ref (b 11), .ref (b 12), .ref (b 13), .ref (b 14), .int (beg (beg tr 3) 2)])), (b 1, .inl (cI, 16, .inl kd)), (b 2, .inl (cI, 16, .inl et))] := hD.sub [2, 0, 1] (by decide) rfl
          refine lv_aload_n hx hb dX5_tell_36 rfl (lv_at hl 1 rfl) ?_
          refine lv_iconst (v := 1) hx hb dX5_tell_37 (by decide) ?_
          refine k_mv (wr := [(b 1, .inl (cI, 16, .inl kd)), (b 2, .inl (cI, 16, .inl et))]) [0] [1, 2] (run_MV (As := [.int 1]) (rest := []) ⟨hx, hb, hml, hown, hts⟩ (c_X5_traced l D cI cJ cO b fa h w pc br ra q1 q2 q3 q4 fw ea sn mo rc (beg (beg tr 3) 2) 1) (cwV 1 hts gX5_tell_X5_traced rfl rfl rfl (by decide +kernel) ⟨Nat.le_of_ble_eq_true rfl, Nat.le_of_ble_eq_true rfl⟩) hP hK hD [0] (by decide) rfl rfl rfl rfl rfl hl.1 rfl (Nat.le_of_ble_eq_true rfl) dX5_tell_38 ⟨Nat.le_refl _, Nat.le_refl _⟩) hP hD hS hA rfl rfl (by decide) (by decide) (fun w_32 H locs q_31 hP hD hS => ?_)
          obtain rfl := q_31
          have hP : va_P D vwCl [(b 0, .inr (5, [.int fa, .int (nI h), .int (nI w), .int pc, .int br, .ref (b 1), .ref (b 2), .int ra, .int q1, .int q2, .int q3, .int q4, .ref (b 3), .int fw, .int ea, .int sn, .ref (b 4), .ref (b 5), .ref (b 6), .int mo, .int (nI rc), .ref (b 7), .ref (b 8), .ref (b 9), .ref (b 10), .ref (b 11), .ref (b 12), .ref (b 13), .ref (b 14), .int (beg (beg (beg tr 3) 2) 1)])), (b 1, .inl (cI, 16, .inl kd)), (b 2, .inl (cI, 16, .inl et))] H := hP.sub [2, 0, 1] rfl
          have hD : va_D A [(b 0, .inr (5, [.int fa, .int (nI h), .int (nI w), .int pc, .int br, .ref (b 1), .ref (b 2), .int ra, .int q1, .int q2, .int q3, .int q4, .ref (b 3), .int fw, .int ea, .int sn, .ref (b 4), .ref (b 5), .ref (b 6), .int mo, .int (nI rc), .ref (b 7), .ref (b 8), .ref (b 9), .ref (b 10), .ref (b 11), .ref (b 12), .ref (b 13), .ref (b 14), .int (beg (beg (beg tr 3) 2) 1)])), (b 1, .inl (cI, 16, .inl kd)), (b 2, .inl (cI, 16, .inl et))] := hD.sub [2, 0, 1] (by decide) rfl
          refine lv_iload_n hx hb dX5_tell_41 rfl (lv_at hl 0 rfl) ?_
          refine lv_iconst (v := 2) hx hb dX5_tell_42 (by decide) ?_
          refine lv_icmp_ne (tgt := 51) hx hb dX5_tell_43 (by decide) (fun c_33 => ?_) (fun c_33 => ?_)
          · exact absurd c_33 (by decide)
          · refine lv_aload_n hx hb dX5_tell_46 rfl (lv_at hl 1 rfl) ?_
            refine lv_iconst (v := 1) hx hb dX5_tell_47 (by decide) ?_
            refine k_mv (wr := [(b 1, .inl (cI, 16, .inl kd)), (b 2, .inl (cI, 16, .inl et))]) [0] [1, 2] (run_MV (As := [.int 1]) (rest := []) ⟨hx, hb, hml, hown, hts⟩ (c_X5_traced l D cI cJ cO b fa h w pc br ra q1 q2 q3 q4 fw ea sn mo rc (beg (beg (beg tr 3) 2) 1) 1) (cwV 1 hts gX5_tell_X5_traced rfl rfl rfl (by decide +kernel) ⟨Nat.le_of_ble_eq_true rfl, Nat.le_of_ble_eq_true rfl⟩) hP hK hD [0] (by decide) rfl rfl rfl rfl rfl hl.1 rfl (Nat.le_of_ble_eq_true rfl) dX5_tell_48 ⟨Nat.le_refl _, Nat.le_refl _⟩) hP hD hS hA rfl rfl (by decide) (by decide) (fun w_36 H locs q_35 hP hD hS => ?_)
            obtain rfl := q_35
            have hP : va_P D vwCl [(b 0, .inr (5, [.int fa, .int (nI h), .int (nI w), .int pc, .int br, .ref (b 1), .ref (b 2), .int ra, .int q1, .int q2, .int q3, .int q4, .ref (b 3), .int fw, .int ea, .int sn, .ref (b 4), .ref (b 5), .ref (b 6), .int mo, .int (nI rc), .ref (b 7), .ref (b 8), .ref (b 9), .ref (b 10), .ref (b 11), .ref (b 12), .ref (b 13), .ref (b 14), .int (beg (beg (beg (beg tr 3) 2) 1) 1)])), (b 1, .inl (cI, 16, .inl kd)), (b 2, .inl (cI, 16, .inl et))] H := hP.sub [2, 0, 1] rfl
            have hD : va_D A [(b 0, .inr (5, [.int fa, .int (nI h), .int (nI w), .int pc, .int br, .ref (b 1), .ref (b 2), .int ra, .int q1, .int q2, .int q3, .int q4, .ref (b 3), .int fw, .int ea, .int sn, .ref (b 4), .ref (b 5), .ref (b 6), .int mo, .int (nI rc), .ref (b 7), .ref (b 8), .ref (b 9), .ref (b 10), .ref (b 11), .ref (b 12), .ref (b 13), .ref (b 14), .int (beg (beg (beg (beg tr 3) 2) 1) 1)])), (b 1, .inl (cI, 16, .inl kd)), (b 2, .inl (cI, 16, .inl et))] := hD.sub [2, 0, 1] (by decide) rfl
            refine lv_aload_n hx hb dX5_tell_51 rfl (lv_at hl 1 rfl) ?_
            refine va_get (D := D) (ci := 5) (v := .ref (b 2)) (C := RX5) (T := TX5) (N := 30) hx hb hts hin5 hown hK.1 hP 0 rfl rfl 6 (by decide) (hts _ (List.mem_of_getElem? (i := 2) rfl)) (fun _ h9 => h9) rfl dX5_tell_52 ?_
            refine lv_iload_n hx hb dX5_tell_55 rfl (lv_at hl 2 rfl) ?_
            refine k_iald hx hb hK hP 2 0 rfl rfl (j := c.toNatClampNeg) (inN.vp c_3.1 (by omega)) rfl dX5_tell_56 ?_
            refine lv_istore_n (lv' := [(3, .int (et c.toNatClampNeg)), (2, .int 2), (0, .ref (b 0)), (1, .int c)]) hx hb dX5_tell_57 rfl hl (by decide) rfl (fun ls hl => ?_)
            refine lv_iload_n hx hb dX5_tell_58 rfl (lv_at hl 1 rfl) ?_
            refine lv_if_ne (tgt := 66) hx hb dX5_tell_59 (by decide) (fun c_37 => ?_) (fun c_37 => ?_)
            · refine lv_iload_n hx hb dX5_tell_66 rfl (lv_at hl 1 rfl) ?_
              refine lv_iconst (v := 1) hx hb dX5_tell_67 (by decide) ?_
              refine lv_icmp_ne (tgt := 78) hx hb dX5_tell_68 (by decide) (fun c_38 => ?_) (fun c_38 => ?_)
              · refine lv_iconst (v := 2) hx hb dX5_tell_78 (by decide) ?_
                refine lv_iload_n hx hb dX5_tell_79 rfl (lv_at hl 0 rfl) ?_
                refine lv_imul hx hb dX5_tell_80 ?_
                refine lv_bipush (v := 100) hx hb dX5_tell_81 (by decide) ?_
                refine lv_iadd hx hb dX5_tell_83 ?_
                refine mi_ret (v := ((2 * (et c.toNatClampNeg)) + 100)) hx hb hr hlk hP hD hS dX5_tell_84 ?_
                rw [show teT (h * w) kd tr c = _ from by rw [teT, if_pos c_3, if_neg hkn1, if_pos hkc]]
                refine ⟨?_, rfl⟩
                rw [teR, if_pos c_3, if_neg hkn1, if_pos hkc] <;> first | rfl | exact two_100 _
              · exact absurd c_38 (by decide)
            · exact absurd c_37 (by decide)
    · exact absurd hkc c_3.2
  · have c_3 := b2_t c_3
    refine lv_iconst (v := (-1)) hx hb dX5_tell_8 (by decide) ?_
    refine mi_ret (v := (-1)) hx hb hr hlk hP hD hS dX5_tell_9 ?_
    rw [show teT (h * w) kd tr c = _ from by rw [teT, if_neg c_3]]
    refine ⟨?_, rfl⟩
    rw [teR, if_neg c_3] <;> first | rfl | exact two_100 _
theorem iwX5_many_X5 : ∀ x ∈ wsX50, x ∈ wsX5_many := by decide +kernel
set_option maxRecDepth 100000 in
set_option maxHeartbeats 4000000 in
/-- X5_many -/
theorem c_X5_many (l : Launch) (D : va_G) (cI cJ cO : ClassId) (b : Nat → Nat) (fa : Int32) (h : Nat) (w : Nat) (pc : Int32) (br : Int32) (ra : Int32) (q1 : Int32) (q2 : Int32) (q3 : Int32) (q4 : Int32) (fw : Int32) (ea : Int32) (sn : Int32) (mo : Int32) (rc : Nat) (tr : Int32) (kd : Nat → Int32) (v : Int32) (hn : h * w ≤ 16) : RG l yX5_many wsX5_many 2 42 D [(cI, .int), (cJ, .long), (cO, .object "ShornHill$Sheet")] [.ref (b 0), .int v] [(b 0, .inr (5, [.int fa, .int (nI h), .int (nI w), .int pc, .int br, .ref (b 1), .ref (b 2), .int ra, .int q1, .int q2, .int q3, .int q4, .ref (b 3), .int fw, .int ea, .int sn, .ref (b 4), .ref (b 5), .ref (b 6), .int mo, .int (nI rc), .ref (b 7), .ref (b 8), .ref (b 9), .ref (b 10), .ref (b 11), .ref (b 12), .ref (b 13), .ref (b 14), .int tr])), (b 1, .inl (cI, 16, .inl kd))] (vp_Si (fun (r : Int32) => r = (maR h w pc br (popN 16 (sN (sofS kd (h * w)))) rc v))) := by
  refine RG.of (cc := cX5_many) (maxL := 2) (ret := (some .int)) (by decide) rfl (Nat.le_of_ble_eq_true rfl) ?_
  intro P_ E_ S_ M_ B_ T_ K_ hx hb hml hr hts hown hlk hP hK ls hl
  have hl : lv_has ls 2 [(0, .ref (b 0)), (1, .int v)] := hl
  have hin5 : ∀ x ∈ u_ws RX5 TX5 30, x ∈ wsX5_many := iwX5_many_X5
  refine lv_iload_n hx hb dX5_many_0 rfl (lv_at hl 1 rfl) ?_
  rcases sw6 (v) with c_1 | c_1 | c_1 | c_1 | c_1 | c_1 | c_1
  · refine lv_tableIn (off := 39) (tgt := 40) hx hb dX5_many_1 (by rw [c_1]; decide) (by rw [c_1]; decide) (by rw [c_1]; rfl) (by decide) ?_
    refine lv_aload_n hx hb dX5_many_40 rfl (lv_at hl 0 rfl) ?_
    refine k_ri (run_RV (As := []) (rest := []) ⟨hx, hb, hml, hown, hts⟩ (c_X5_cells l D cI cJ cO b fa h w pc br ra q1 q2 q3 q4 fw ea sn mo rc tr) (cwV 0 hts gX5_many_X5_cells rfl rfl rfl (by decide +kernel) ⟨Nat.le_of_ble_eq_true rfl, Nat.le_of_ble_eq_true rfl⟩) hP hK [0] rfl rfl rfl rfl rfl hl.1 rfl (Nat.le_of_ble_eq_true rfl) dX5_many_41 ⟨Nat.le_refl _, Nat.le_refl _⟩) (fun r_2 q_3 => ?_)
    obtain rfl := q_3
    refine ri_ret (v := (nI (h * w))) hx hb hr hlk dX5_many_44 ?_
    rw [maR, if_pos c_1] <;> rfl
  · refine lv_tableIn (off := 44) (tgt := 45) hx hb dX5_many_1 (by rw [c_1]; decide) (by rw [c_1]; decide) (by rw [c_1]; rfl) (by decide) ?_
    have cn0 : ¬ v = 0 := fun z => by rw [z] at c_1; exact absurd c_1 (by decide)
    refine lv_aload_n hx hb dX5_many_45 rfl (lv_at hl 0 rfl) ?_
    refine va_get (D := D) (ci := 5) (v := .int (nI w)) (C := RX5) (T := TX5) (N := 30) hx hb hts hin5 hown hK.1 hP 0 rfl rfl 2 (by decide) (hts _ (List.mem_of_getElem? (i := 1) rfl)) (fun _ h9 => h9) rfl dX5_many_46 ?_
    refine ri_ret (v := (nI w)) hx hb hr hlk dX5_many_49 ?_
    rw [maR, if_neg cn0, if_pos c_1] <;> rfl
  · refine lv_tableIn (off := 49) (tgt := 50) hx hb dX5_many_1 (by rw [c_1]; decide) (by rw [c_1]; decide) (by rw [c_1]; rfl) (by decide) ?_
    have cn0 : ¬ v = 0 := fun z => by rw [z] at c_1; exact absurd c_1 (by decide)
    have cn1 : ¬ v = 1 := fun z => by rw [z] at c_1; exact absurd c_1 (by decide)
    refine lv_aload_n hx hb dX5_many_50 rfl (lv_at hl 0 rfl) ?_
    refine va_get (D := D) (ci := 5) (v := .int pc) (C := RX5) (T := TX5) (N := 30) hx hb hts hin5 hown hK.1 hP 0 rfl rfl 3 (by decide) (hts _ (List.mem_of_getElem? (i := 2) rfl)) (fun _ h9 => h9) rfl dX5_many_51 ?_
    refine ri_ret (v := pc) hx hb hr hlk dX5_many_54 ?_
    rw [maR, if_neg cn0, if_neg cn1, if_pos c_1] <;> rfl
  · refine lv_tableIn (off := 54) (tgt := 55) hx hb dX5_many_1 (by rw [c_1]; decide) (by rw [c_1]; decide) (by rw [c_1]; rfl) (by decide) ?_
    have cn0 : ¬ v = 0 := fun z => by rw [z] at c_1; exact absurd c_1 (by decide)
    have cn1 : ¬ v = 1 := fun z => by rw [z] at c_1; exact absurd c_1 (by decide)
    have cn2 : ¬ v = 2 := fun z => by rw [z] at c_1; exact absurd c_1 (by decide)
    refine lv_aload_n hx hb dX5_many_55 rfl (lv_at hl 0 rfl) ?_
    refine va_get (D := D) (ci := 5) (v := .int br) (C := RX5) (T := TX5) (N := 30) hx hb hts hin5 hown hK.1 hP 0 rfl rfl 4 (by decide) (hts _ (List.mem_of_getElem? (i := 3) rfl)) (fun _ h9 => h9) rfl dX5_many_56 ?_
    refine ri_ret (v := br) hx hb hr hlk dX5_many_59 ?_
    rw [maR, if_neg cn0, if_neg cn1, if_neg cn2, if_pos c_1] <;> rfl
  · refine lv_tableIn (off := 59) (tgt := 60) hx hb dX5_many_1 (by rw [c_1]; decide) (by rw [c_1]; decide) (by rw [c_1]; rfl) (by decide) ?_
    have cn0 : ¬ v = 0 := fun z => by rw [z] at c_1; exact absurd c_1 (by decide)
    have cn1 : ¬ v = 1 := fun z => by rw [z] at c_1; exact absurd c_1 (by decide)
    have cn2 : ¬ v = 2 := fun z => by rw [z] at c_1; exact absurd c_1 (by decide)
    have cn3 : ¬ v = 3 := fun z => by rw [z] at c_1; exact absurd c_1 (by decide)
    refine lv_aload_n hx hb dX5_many_60 rfl (lv_at hl 0 rfl) ?_
    refine k_ri (run_RV (As := []) (rest := []) ⟨hx, hb, hml, hown, hts⟩ (c_X5_thornsNow l D cI cJ cO b fa h w pc br ra q1 q2 q3 q4 fw ea sn mo rc tr kd hn) (cwV 0 hts gX5_many_X5_thornsNow rfl rfl rfl (by decide +kernel) ⟨Nat.le_of_ble_eq_true rfl, Nat.le_of_ble_eq_true rfl⟩) hP hK [0, 1] rfl rfl rfl rfl rfl hl.1 rfl (Nat.le_of_ble_eq_true rfl) dX5_many_61 ⟨Nat.le_refl _, Nat.le_refl _⟩) (fun r_4 q_5 => ?_)
    obtain rfl := q_5
    refine ri_ret (v := (nI (thN kd (h * w)))) hx hb hr hlk dX5_many_64 ?_
    rw [maR, if_neg cn0, if_neg cn1, if_neg cn2, if_neg cn3, if_pos c_1]
    exact (many_4 kd hn).symm
  · refine lv_tableIn (off := 64) (tgt := 65) hx hb dX5_many_1 (by rw [c_1]; decide) (by rw [c_1]; decide) (by rw [c_1]; rfl) (by decide) ?_
    have cn0 : ¬ v = 0 := fun z => by rw [z] at c_1; exact absurd c_1 (by decide)
    have cn1 : ¬ v = 1 := fun z => by rw [z] at c_1; exact absurd c_1 (by decide)
    have cn2 : ¬ v = 2 := fun z => by rw [z] at c_1; exact absurd c_1 (by decide)
    have cn3 : ¬ v = 3 := fun z => by rw [z] at c_1; exact absurd c_1 (by decide)
    have cn4 : ¬ v = 4 := fun z => by rw [z] at c_1; exact absurd c_1 (by decide)
    refine lv_aload_n hx hb dX5_many_65 rfl (lv_at hl 0 rfl) ?_
    refine va_get (D := D) (ci := 5) (v := .int (nI rc)) (C := RX5) (T := TX5) (N := 30) hx hb hts hin5 hown hK.1 hP 0 rfl rfl 20 (by decide) (hts _ (List.mem_of_getElem? (i := 4) rfl)) (fun _ h9 => h9) rfl dX5_many_66 ?_
    refine ri_ret (v := (nI rc)) hx hb hr hlk dX5_many_69 ?_
    rw [maR, if_neg cn0, if_neg cn1, if_neg cn2, if_neg cn3, if_neg cn4, if_pos c_1] <;> rfl
  · refine lv_tableOut (tgt := 70) hx hb dX5_many_1 c_1 (by decide) ?_
    have cn0 : ¬ v = 0 := fun z => by rw [z] at c_1; exact absurd c_1 (by decide)
    have cn1 : ¬ v = 1 := fun z => by rw [z] at c_1; exact absurd c_1 (by decide)
    have cn2 : ¬ v = 2 := fun z => by rw [z] at c_1; exact absurd c_1 (by decide)
    have cn3 : ¬ v = 3 := fun z => by rw [z] at c_1; exact absurd c_1 (by decide)
    have cn4 : ¬ v = 4 := fun z => by rw [z] at c_1; exact absurd c_1 (by decide)
    have cn5 : ¬ v = 5 := fun z => by rw [z] at c_1; exact absurd c_1 (by decide)
    refine lv_bipush (v := (-2)) hx hb dX5_many_70 (by decide) ?_
    refine ri_ret (v := (-2)) hx hb hr hlk dX5_many_72 ?_
    rw [maR, if_neg cn0, if_neg cn1, if_neg cn2, if_neg cn3, if_neg cn4, if_neg cn5] <;> rfl
theorem iwX5_lose_X5 : ∀ x ∈ wsX50, x ∈ wsX5_lose := by decide +kernel
set_option maxRecDepth 100000 in
set_option maxHeartbeats 4000000 in
/-- X5_lose -/
theorem c_X5_lose (l : Launch) (D : va_G) (cI cJ cO : ClassId) (b : Nat → Nat) (fa : Int32) (h : Nat) (w : Nat) (pc : Int32) (br : Int32) (ra : Int32) (q1 : Int32) (q2 : Int32) (q3 : Int32) (q4 : Int32) (fw : Int32) (ea : Int32) (sn : Int32) (mo : Int32) (rc : Nat) (tr : Int32) (hs : Nat → Int32) (le : Nat → Nat) (k : Int32) (kj : Nat) (hle : ∀ z, z < 4 → le z ≤ 60) (hkj : k.toNatClampNeg = kj) : MG l yX5_lose wsX5_lose 2 45 0 0 D [(cI, .int), (cJ, .long), (cO, .object "ShornHill$Sheet")] [.ref (b 0), .int k] [(b 0, .inr (5, [.int fa, .int (nI h), .int (nI w), .int pc, .int br, .ref (b 1), .ref (b 2), .int ra, .int q1, .int q2, .int q3, .int q4, .ref (b 3), .int fw, .int ea, .int sn, .ref (b 4), .ref (b 5), .ref (b 6), .int mo, .int (nI rc), .ref (b 7), .ref (b 8), .ref (b 9), .ref (b 10), .ref (b 11), .ref (b 12), .ref (b 13), .ref (b 14), .int tr])), (b 11, .inl (cI, 4, .inl (zsF hs le)))] (QI D (fun (r : Int32) (w1 : va_W) => r = (loR hs k kj) ∧ w1 = [(b 0, .inr (5, [.int fa, .int (nI h), .int (nI w), .int pc, .int br, .ref (b 1), .ref (b 2), .int ra, .int q1, .int q2, .int q3, .int q4, .ref (b 3), .int fw, .int ea, .int sn, .ref (b 4), .ref (b 5), .ref (b 6), .int mo, .int (nI rc), .ref (b 7), .ref (b 8), .ref (b 9), .ref (b 10), .ref (b 11), .ref (b 12), .ref (b 13), .ref (b 14), .int tr])), (b 11, .inl (cI, 4, .inl (zsF (loH hs k kj) le)))])) := by
  refine MG.of (cc := cX5_lose) (maxL := 3) (ret := (some .int)) (by decide) rfl (Nat.le_of_ble_eq_true rfl) ?_
  intro P_ E_ S_ M_ B_ T_ K_ hx hb hml hr hts hown hlk hnm A hA hP hK hD hS ls hl
  have hl : lv_has ls 3 [(0, .ref (b 0)), (1, .int k)] := hl
  have hin5 : ∀ x ∈ u_ws RX5 TX5 30, x ∈ wsX5_lose := iwX5_lose_X5
  refine lv_iload_n hx hb dX5_lose_0 rfl (lv_at hl 1 rfl) ?_
  refine k_ri (run_RS (As := [.int k]) (rest := []) ⟨hx, hb, hml, hown, hts⟩ (c_X5_noSheet l D cI cJ cO k) (va_cwS 1 hts gX5_lose_X5_noSheet rfl rfl rfl (by decide +kernel) ⟨Nat.le_of_ble_eq_true rfl, Nat.le_of_ble_eq_true rfl⟩) hP hK [] rfl rfl hl.1 rfl (Nat.le_of_ble_eq_true rfl) dX5_lose_1 ⟨Nat.le_refl _, Nat.le_refl _⟩) (fun r_1 q_2 => ?_)
  obtain rfl := q_2
  refine lv_if_eq (tgt := 9) hx hb dX5_lose_4 (by decide) (fun c_3 => ?_) (fun c_3 => ?_)
  · have c_3 := Decidable.not_not.mp (b2_f c_3)
    have h4_kj : kj < 4 := by rw [← hkj]; exact (show inN k 4 by assumption).lt
    have h60_kj := hle kj h4_kj
    have e_kj : k = nI kj := by rw [← hkj]; exact (show inN k 4 by assumption).eq
    refine lv_aload_n hx hb dX5_lose_9 rfl (lv_at hl 0 rfl) ?_
    refine va_get (D := D) (ci := 5) (v := .ref (b 11)) (C := RX5) (T := TX5) (N := 30) hx hb hts hin5 hown hK.1 hP 0 rfl rfl 25 (by decide) (hts _ (List.mem_of_getElem? (i := 1) rfl)) (fun _ h9 => h9) rfl dX5_lose_10 ?_
    refine lv_iload_n hx hb dX5_lose_13 rfl (lv_at hl 1 rfl) ?_
    refine k_iald hx hb hK hP 1 0 rfl rfl (j := kj) (inN.vp c_3 (by omega)) hkj dX5_lose_14 ?_
    refine lv_if_ge (tgt := 22) hx hb dX5_lose_15 (by decide) (fun c_4 => ?_) (fun c_4 => ?_)
    · have c0_kj : ¬ hs kj = 0 := fun z => absurd c_4 (by rw [zs_0 z]; decide)
      refine lv_iconst (v := 1) hx hb dX5_lose_22 (by decide) ?_
      refine lv_istore_n (lv' := [(2, .int 1), (0, .ref (b 0)), (1, .int k)]) hx hb dX5_lose_23 rfl hl (by decide) rfl (fun ls hl => ?_)
      refine lv_aload_n hx hb dX5_lose_24 rfl (lv_at hl 1 rfl) ?_
      refine va_get (D := D) (ci := 5) (v := .ref (b 11)) (C := RX5) (T := TX5) (N := 30) hx hb hts hin5 hown hK.1 hP 0 rfl rfl 25 (by decide) (hts _ (List.mem_of_getElem? (i := 1) rfl)) (fun _ h9 => h9) rfl dX5_lose_25 ?_
      refine lv_iload_n hx hb dX5_lose_28 rfl (lv_at hl 2 rfl) ?_
      refine lv_iconst (v := (-1)) hx hb dX5_lose_29 (by decide) ?_
      refine k_iast hx hb hK hP hD hS 1 0 rfl rfl (j := kj) (inN.vp c_3 (by omega)) hkj dX5_lose_30 (fun H locs hP hD hS => ?_)
      have hP : va_P D vwCl [(b 0, .inr (5, [.int fa, .int (nI h), .int (nI w), .int pc, .int br, .ref (b 1), .ref (b 2), .int ra, .int q1, .int q2, .int q3, .int q4, .ref (b 3), .int fw, .int ea, .int sn, .ref (b 4), .ref (b 5), .ref (b 6), .int mo, .int (nI rc), .ref (b 7), .ref (b 8), .ref (b 9), .ref (b 10), .ref (b 11), .ref (b 12), .ref (b 13), .ref (b 14), .int tr])), (b 11, .inl (cI, 4, .inl (upd (zsF hs le) kj (-1))))] H := hP
      have hD : va_D A [(b 0, .inr (5, [.int fa, .int (nI h), .int (nI w), .int pc, .int br, .ref (b 1), .ref (b 2), .int ra, .int q1, .int q2, .int q3, .int q4, .ref (b 3), .int fw, .int ea, .int sn, .ref (b 4), .ref (b 5), .ref (b 6), .int mo, .int (nI rc), .ref (b 7), .ref (b 8), .ref (b 9), .ref (b 10), .ref (b 11), .ref (b 12), .ref (b 13), .ref (b 14), .int tr])), (b 11, .inl (cI, 4, .inl (upd (zsF hs le) kj (-1))))] := hD
      rw [show (upd (zsF hs le) kj (-1)) = (zsF (va_up hs kj 0) le) from (zs_lose hs le kj)] at hP hD
      refine lv_iload_n hx hb dX5_lose_31 rfl (lv_at hl 0 rfl) ?_
      refine mi_ret (v := 1) hx hb hr hlk hP hD hS dX5_lose_32 ?_
      rw [show loH hs k kj = _ from by rw [loH, if_pos c_3]]
      refine ⟨?_, rfl⟩
      rw [loR, if_pos c_3, if_neg c0_kj] <;> rfl
    · have c0_kj : hs kj = 0 := Decidable.byContradiction (fun z => c_4 (by rw [zs_1 z, Int32.le_iff_toInt_le, nI_toInt (by omega), ti_0]; omega))
      refine lv_iconst (v := 0) hx hb dX5_lose_18 (by decide) ?_
      refine lv_goto (tgt := 23) hx hb dX5_lose_19 (by decide) ?_
      refine lv_istore_n (lv' := [(2, .int 0), (0, .ref (b 0)), (1, .int k)]) hx hb dX5_lose_23 rfl hl (by decide) rfl (fun ls hl => ?_)
      refine lv_aload_n hx hb dX5_lose_24 rfl (lv_at hl 1 rfl) ?_
      refine va_get (D := D) (ci := 5) (v := .ref (b 11)) (C := RX5) (T := TX5) (N := 30) hx hb hts hin5 hown hK.1 hP 0 rfl rfl 25 (by decide) (hts _ (List.mem_of_getElem? (i := 1) rfl)) (fun _ h9 => h9) rfl dX5_lose_25 ?_
      refine lv_iload_n hx hb dX5_lose_28 rfl (lv_at hl 2 rfl) ?_
      refine lv_iconst (v := (-1)) hx hb dX5_lose_29 (by decide) ?_
      refine k_iast hx hb hK hP hD hS 1 0 rfl rfl (j := kj) (inN.vp c_3 (by omega)) hkj dX5_lose_30 (fun H locs hP hD hS => ?_)
      have hP : va_P D vwCl [(b 0, .inr (5, [.int fa, .int (nI h), .int (nI w), .int pc, .int br, .ref (b 1), .ref (b 2), .int ra, .int q1, .int q2, .int q3, .int q4, .ref (b 3), .int fw, .int ea, .int sn, .ref (b 4), .ref (b 5), .ref (b 6), .int mo, .int (nI rc), .ref (b 7), .ref (b 8), .ref (b 9), .ref (b 10), .ref (b 11), .ref (b 12), .ref (b 13), .ref (b 14), .int tr])), (b 11, .inl (cI, 4, .inl (upd (zsF hs le) kj (-1))))] H := hP
      have hD : va_D A [(b 0, .inr (5, [.int fa, .int (nI h), .int (nI w), .int pc, .int br, .ref (b 1), .ref (b 2), .int ra, .int q1, .int q2, .int q3, .int q4, .ref (b 3), .int fw, .int ea, .int sn, .ref (b 4), .ref (b 5), .ref (b 6), .int mo, .int (nI rc), .ref (b 7), .ref (b 8), .ref (b 9), .ref (b 10), .ref (b 11), .ref (b 12), .ref (b 13), .ref (b 14), .int tr])), (b 11, .inl (cI, 4, .inl (upd (zsF hs le) kj (-1))))] := hD
      rw [show (upd (zsF hs le) kj (-1)) = (zsF (va_up hs kj 0) le) from (zs_lose hs le kj)] at hP hD
      refine lv_iload_n hx hb dX5_lose_31 rfl (lv_at hl 0 rfl) ?_
      refine mi_ret (v := 0) hx hb hr hlk hP hD hS dX5_lose_32 ?_
      rw [show loH hs k kj = _ from by rw [loH, if_pos c_3]]
      refine ⟨?_, rfl⟩
      rw [loR, if_pos c_3, if_pos c0_kj] <;> rfl
  · have c_3 := b2_t c_3
    refine lv_iconst (v := (-1)) hx hb dX5_lose_7 (by decide) ?_
    refine mi_ret (v := (-1)) hx hb hr hlk hP hD hS dX5_lose_8 ?_
    rw [show loH hs k kj = _ from by rw [loH, if_neg c_3]]
    refine ⟨?_, rfl⟩
    rw [loR, if_neg c_3] <;> rfl
theorem iwX5_sheet_X5 : ∀ x ∈ wsX50, x ∈ wsX5_sheet := by decide +kernel
set_option maxRecDepth 100000 in
set_option maxHeartbeats 4000000 in
/-- X5_sheet -/
theorem c_X5_sheet (l : Launch) (D : va_G) (cI cJ cO : ClassId) (b : Nat → Nat) (fa : Int32) (h : Nat) (w : Nat) (pc : Int32) (br : Int32) (ra : Int32) (q1 : Int32) (q2 : Int32) (q3 : Int32) (q4 : Int32) (fw : Int32) (ea : Int32) (sn : Int32) (mo : Int32) (rc : Nat) (tr : Int32) (hs : Nat → Int32) (ln : Nat → Int32) (le : Nat → Nat) (rr : Nat → Nat → Int32) (k : Int32) (x : Int32) (n : Int32) (kj : Nat) (hle : ∀ z, z < 4 → le z ≤ 60) (hkj : k.toNatClampNeg = kj) : MG l yX5_sheet wsX5_sheet 2 45 0 0 D [(cI, .int), (cJ, .long), (cO, .object "ShornHill$Sheet")] [.ref (b 0), .int k, .int x, .int n] [(b 0, .inr (5, [.int fa, .int (nI h), .int (nI w), .int pc, .int br, .ref (b 1), .ref (b 2), .int ra, .int q1, .int q2, .int q3, .int q4, .ref (b 3), .int fw, .int ea, .int sn, .ref (b 4), .ref (b 5), .ref (b 6), .int mo, .int (nI rc), .ref (b 7), .ref (b 8), .ref (b 9), .ref (b 10), .ref (b 11), .ref (b 12), .ref (b 13), .ref (b 14), .int tr])), (b 11, .inl (cI, 4, .inl (zsF hs le))), (b 12, .inl (cI, 4, .inl ln)), (b 13, .inl (cI, 240, .inl (rwF rr)))] (QI D (fun (r : Int32) (w1 : va_W) => r = (shR k x n) ∧ w1 = [(b 0, .inr (5, [.int (shF k x n), .int (nI h), .int (nI w), .int pc, .int br, .ref (b 1), .ref (b 2), .int ra, .int q1, .int q2, .int q3, .int q4, .ref (b 3), .int fw, .int ea, .int sn, .ref (b 4), .ref (b 5), .ref (b 6), .int mo, .int (nI rc), .ref (b 7), .ref (b 8), .ref (b 9), .ref (b 10), .ref (b 11), .ref (b 12), .ref (b 13), .ref (b 14), .int tr])), (b 11, .inl (cI, 4, .inl (zsF (shU k x n kj hs 1) (shU k x n kj le n.toNatClampNeg)))), (b 12, .inl (cI, 4, .inl (shU k x n kj ln x))), (b 13, .inl (cI, 240, .inl (rwF (shU k x n kj rr (fil (fun _ => 0) (rr kj) n.toNatClampNeg)))))])) := by
  refine MG.of (cc := cX5_sheet) (maxL := 5) (ret := (some .int)) (by decide) rfl (Nat.le_of_ble_eq_true rfl) ?_
  intro P_ E_ S_ M_ B_ T_ K_ hx hb hml hr hts hown hlk hnm A hA hP hK hD hS ls hl
  have hl : lv_has ls 5 [(0, .ref (b 0)), (1, .int k), (2, .int x), (3, .int n)] := hl
  have hin5 : ∀ x ∈ u_ws RX5 TX5 30, x ∈ wsX5_sheet := iwX5_sheet_X5
  refine lv_iload_n hx hb dX5_sheet_0 rfl (lv_at hl 1 rfl) ?_
  refine k_ri (run_RS (As := [.int k]) (rest := []) ⟨hx, hb, hml, hown, hts⟩ (c_X5_noSheet l D cI cJ cO k) (va_cwS 1 hts gX5_sheet_X5_noSheet rfl rfl rfl (by decide +kernel) ⟨Nat.le_of_ble_eq_true rfl, Nat.le_of_ble_eq_true rfl⟩) hP hK [] rfl rfl hl.1 rfl (Nat.le_of_ble_eq_true rfl) dX5_sheet_1 ⟨Nat.le_refl _, Nat.le_refl _⟩) (fun r_1 q_2 => ?_)
  obtain rfl := q_2
  refine lv_if_eq (tgt := 13) hx hb dX5_sheet_4 (by decide) (fun c_3 => ?_) (fun c_3 => ?_)
  · have c_3 := Decidable.not_not.mp (b2_f c_3)
    have h4_kj : kj < 4 := by rw [← hkj]; exact (show inN k 4 by assumption).lt
    have h60_kj := hle kj h4_kj
    have e_kj : k = nI kj := by rw [← hkj]; exact (show inN k 4 by assumption).eq
    refine lv_iload_n hx hb dX5_sheet_13 rfl (lv_at hl 2 rfl) ?_
    refine lv_i2l (v := x.toInt64) hx hb dX5_sheet_14 rfl ?_
    refine lv_lconst (v := 0) hx hb dX5_sheet_15 (by decide) ?_
    refine lv_ldc2 (v := 2) hx hb hown (hts _ (List.mem_of_getElem? (i := 1) rfl)) dX5_sheet_16 ?_
    refine k_ri (run_RS (As := [.long x.toInt64, .long 0, .long 2]) (rest := []) ⟨hx, hb, hml, hown, hts⟩ (c_X5_in l D cI cJ cO x.toInt64 0 2) (va_cwS 3 hts gX5_sheet_X5_in rfl rfl rfl (by decide +kernel) ⟨Nat.le_of_ble_eq_true rfl, Nat.le_of_ble_eq_true rfl⟩) hP hK [] rfl rfl hl.1 rfl (Nat.le_of_ble_eq_true rfl) dX5_sheet_19 ⟨Nat.le_refl _, Nat.le_refl _⟩) (fun r_4 q_5 => ?_)
    obtain rfl := q_5
    refine k_top (y := (b2 (inN x 3))) (b2_cong (in_lit rfl rfl)) ?_
    refine lv_if_eq (tgt := 31) hx hb dX5_sheet_22 (by decide) (fun c_6 => ?_) (fun c_6 => ?_)
    · have c_6 := b2_f c_6
      refine lv_aload_n hx hb dX5_sheet_31 rfl (lv_at hl 0 rfl) ?_
      refine lv_bipush (v := (-2)) hx hb dX5_sheet_32 (by decide) ?_
      refine k_mi (wr := [(b 11, .inl (cI, 4, .inl (zsF hs le))), (b 12, .inl (cI, 4, .inl ln)), (b 13, .inl (cI, 240, .inl (rwF rr)))]) [0] [1, 2, 3] (run_MV (As := [.int (-2)]) (rest := []) ⟨hx, hb, hml, hown, hts⟩ (c_X5_refused l D cI cJ cO b fa h w pc br ra q1 q2 q3 q4 fw ea sn mo rc tr (-2)) (cwV 1 hts gX5_sheet_X5_refused rfl rfl rfl (by decide +kernel) ⟨Nat.le_of_ble_eq_true rfl, Nat.le_of_ble_eq_true rfl⟩) hP hK hD [0] (by decide) rfl rfl rfl rfl rfl hl.1 rfl (Nat.le_of_ble_eq_true rfl) dX5_sheet_34 ⟨Nat.le_refl _, Nat.le_refl _⟩) hP hD hS hA rfl rfl (by decide) (by decide) (fun r_7 w_9 H locs q_8 hP hD hS => ?_)
      obtain ⟨rfl, rfl⟩ := q_8
      have hP : va_P D vwCl [(b 0, .inr (5, [.int 0, .int (nI h), .int (nI w), .int pc, .int br, .ref (b 1), .ref (b 2), .int ra, .int q1, .int q2, .int q3, .int q4, .ref (b 3), .int fw, .int ea, .int sn, .ref (b 4), .ref (b 5), .ref (b 6), .int mo, .int (nI rc), .ref (b 7), .ref (b 8), .ref (b 9), .ref (b 10), .ref (b 11), .ref (b 12), .ref (b 13), .ref (b 14), .int tr])), (b 11, .inl (cI, 4, .inl (zsF hs le))), (b 12, .inl (cI, 4, .inl ln)), (b 13, .inl (cI, 240, .inl (rwF rr)))] H := hP.sub [3, 0, 1, 2] rfl
      have hD : va_D A [(b 0, .inr (5, [.int 0, .int (nI h), .int (nI w), .int pc, .int br, .ref (b 1), .ref (b 2), .int ra, .int q1, .int q2, .int q3, .int q4, .ref (b 3), .int fw, .int ea, .int sn, .ref (b 4), .ref (b 5), .ref (b 6), .int mo, .int (nI rc), .ref (b 7), .ref (b 8), .ref (b 9), .ref (b 10), .ref (b 11), .ref (b 12), .ref (b 13), .ref (b 14), .int tr])), (b 11, .inl (cI, 4, .inl (zsF hs le))), (b 12, .inl (cI, 4, .inl ln)), (b 13, .inl (cI, 240, .inl (rwF rr)))] := hD.sub [3, 0, 1, 2] (by decide) rfl
      refine mi_ret (v := (-2)) hx hb hr hlk hP hD hS dX5_sheet_37 ?_
      rw [show shF k x n = _ from by rw [shF, if_pos c_3, if_neg (fun z => c_6 z.1)]]
      rw [show shU k x n kj (hs) (1) = _ from by rw [shU, if_pos c_3, if_neg (fun z => c_6 z.1)]]
      rw [show shU k x n kj ln x = _ from by rw [shU, if_pos c_3, if_neg (fun z => c_6 z.1)]]
      rw [show shU k x n kj le n.toNatClampNeg = _ from by rw [shU, if_pos c_3, if_neg (fun z => c_6 z.1)]]
      rw [show shU k x n kj rr (fil (fun _ => 0) (rr kj) n.toNatClampNeg) = _ from by rw [shU, if_pos c_3, if_neg (fun z => c_6 z.1)]]
      refine ⟨?_, rfl⟩
      rw [shR, if_pos c_3, if_neg (fun z => c_6 z.1)] <;> rfl
    · have c_6 := b2_t c_6
      refine lv_iload_n hx hb dX5_sheet_25 rfl (lv_at hl 3 rfl) ?_
      refine lv_bipush (v := 60) hx hb dX5_sheet_26 (by decide) ?_
      refine lv_icmp_le (tgt := 38) hx hb dX5_sheet_28 (by decide) (fun c_10 => ?_) (fun c_10 => ?_)
      · have cn : n.toInt ≤ 60 := by have z := c_10; rw [Int32.le_iff_toInt_le, ti_60] at z; omega
        refine lv_iload_n hx hb dX5_sheet_38 rfl (lv_at hl 3 rfl) ?_
        refine lv_if_ge (tgt := 48) hx hb dX5_sheet_39 (by decide) (fun c_11 => ?_) (fun c_11 => ?_)
        · have c0 : ¬ n.toInt < 0 := by have z := c_11; rw [Int32.le_iff_toInt_le, ti_0] at z; omega
          have hnn : n = nI n.toNatClampNeg := inN.eq (n := 61) ⟨by omega, by omega⟩
          have hn60 : n.toNatClampNeg ≤ 60 := by have := inN.lt (x := n) (n := 61) ⟨by omega, by omega⟩; omega
          have hxx : x.toNatClampNeg = x.toNatClampNeg := rfl
          refine lv_aload_n hx hb dX5_sheet_48 rfl (lv_at hl 0 rfl) ?_
          refine va_get (D := D) (ci := 5) (v := .ref (b 11)) (C := RX5) (T := TX5) (N := 30) hx hb hts hin5 hown hK.1 hP 0 rfl rfl 25 (by decide) (hts _ (List.mem_of_getElem? (i := 2) rfl)) (fun _ h9 => h9) rfl dX5_sheet_49 ?_
          refine lv_iload_n hx hb dX5_sheet_52 rfl (lv_at hl 1 rfl) ?_
          refine lv_iload_n hx hb dX5_sheet_53 rfl (lv_at hl 3 rfl) ?_
          refine k_iast hx hb hK hP hD hS 1 0 rfl rfl (j := kj) (inN.vp c_3 (by omega)) hkj dX5_sheet_54 (fun H locs hP hD hS => ?_)
          have hP : va_P D vwCl [(b 0, .inr (5, [.int fa, .int (nI h), .int (nI w), .int pc, .int br, .ref (b 1), .ref (b 2), .int ra, .int q1, .int q2, .int q3, .int q4, .ref (b 3), .int fw, .int ea, .int sn, .ref (b 4), .ref (b 5), .ref (b 6), .int mo, .int (nI rc), .ref (b 7), .ref (b 8), .ref (b 9), .ref (b 10), .ref (b 11), .ref (b 12), .ref (b 13), .ref (b 14), .int tr])), (b 11, .inl (cI, 4, .inl (upd (zsF hs le) kj n))), (b 12, .inl (cI, 4, .inl ln)), (b 13, .inl (cI, 240, .inl (rwF rr)))] H := hP
          have hD : va_D A [(b 0, .inr (5, [.int fa, .int (nI h), .int (nI w), .int pc, .int br, .ref (b 1), .ref (b 2), .int ra, .int q1, .int q2, .int q3, .int q4, .ref (b 3), .int fw, .int ea, .int sn, .ref (b 4), .ref (b 5), .ref (b 6), .int mo, .int (nI rc), .ref (b 7), .ref (b 8), .ref (b 9), .ref (b 10), .ref (b 11), .ref (b 12), .ref (b 13), .ref (b 14), .int tr])), (b 11, .inl (cI, 4, .inl (upd (zsF hs le) kj n))), (b 12, .inl (cI, 4, .inl ln)), (b 13, .inl (cI, 240, .inl (rwF rr)))] := hD
          rw [show (upd (zsF hs le) kj n) = (zsF (va_up hs kj 1) (va_up le kj n.toNatClampNeg)) from (by rw [← zs_new, ← hnn])] at hP hD
          refine lv_aload_n hx hb dX5_sheet_55 rfl (lv_at hl 0 rfl) ?_
          refine va_get (D := D) (ci := 5) (v := .ref (b 12)) (C := RX5) (T := TX5) (N := 30) hx hb hts hin5 hown hK.1 hP 0 rfl rfl 26 (by decide) (hts _ (List.mem_of_getElem? (i := 3) rfl)) (fun _ h9 => h9) rfl dX5_sheet_56 ?_
          refine lv_iload_n hx hb dX5_sheet_59 rfl (lv_at hl 1 rfl) ?_
          refine lv_iload_n hx hb dX5_sheet_60 rfl (lv_at hl 2 rfl) ?_
          refine k_iast hx hb hK hP hD hS 2 0 rfl rfl (j := kj) (inN.vp c_3 (by omega)) hkj dX5_sheet_61 (fun H locs hP hD hS => ?_)
          have hP : va_P D vwCl [(b 0, .inr (5, [.int fa, .int (nI h), .int (nI w), .int pc, .int br, .ref (b 1), .ref (b 2), .int ra, .int q1, .int q2, .int q3, .int q4, .ref (b 3), .int fw, .int ea, .int sn, .ref (b 4), .ref (b 5), .ref (b 6), .int mo, .int (nI rc), .ref (b 7), .ref (b 8), .ref (b 9), .ref (b 10), .ref (b 11), .ref (b 12), .ref (b 13), .ref (b 14), .int tr])), (b 11, .inl (cI, 4, .inl (zsF (va_up hs kj 1) (va_up le kj n.toNatClampNeg)))), (b 12, .inl (cI, 4, .inl (upd ln kj x))), (b 13, .inl (cI, 240, .inl (rwF rr)))] H := hP
          have hD : va_D A [(b 0, .inr (5, [.int fa, .int (nI h), .int (nI w), .int pc, .int br, .ref (b 1), .ref (b 2), .int ra, .int q1, .int q2, .int q3, .int q4, .ref (b 3), .int fw, .int ea, .int sn, .ref (b 4), .ref (b 5), .ref (b 6), .int mo, .int (nI rc), .ref (b 7), .ref (b 8), .ref (b 9), .ref (b 10), .ref (b 11), .ref (b 12), .ref (b 13), .ref (b 14), .int tr])), (b 11, .inl (cI, 4, .inl (zsF (va_up hs kj 1) (va_up le kj n.toNatClampNeg)))), (b 12, .inl (cI, 4, .inl (upd ln kj x))), (b 13, .inl (cI, 240, .inl (rwF rr)))] := hD
          rw [show (upd ln kj x) = (va_up ln kj x) from rfl] at hP hD
          refine lv_iconst (v := 0) hx hb dX5_sheet_62 (by decide) ?_
          refine lv_istore (lv' := [(4, .int 0), (0, .ref (b 0)), (1, .int k), (2, .int x), (3, .int n)]) hx hb dX5_sheet_63 hl (by decide) rfl (fun ls hl => ?_)
          have key_13 : ∀ (n_12 : Nat) (q : Nat) (g : Nat → Int32), (q ≤ n.toNatClampNeg) → g = (rwF (va_up rr kj (fil (fun _ => 0) (rr kj) q))) → n.toNatClampNeg - q < n_12 → ∀ (H : Heap) (locs : List Loc), va_P D vwCl [(b 0, .inr (5, [.int fa, .int (nI h), .int (nI w), .int pc, .int br, .ref (b 1), .ref (b 2), .int ra, .int q1, .int q2, .int q3, .int q4, .ref (b 3), .int fw, .int ea, .int sn, .ref (b 4), .ref (b 5), .ref (b 6), .int mo, .int (nI rc), .ref (b 7), .ref (b 8), .ref (b 9), .ref (b 10), .ref (b 11), .ref (b 12), .ref (b 13), .ref (b 14), .int tr])), (b 11, .inl (cI, 4, .inl (zsF (va_up hs kj 1) (va_up le kj n.toNatClampNeg)))), (b 12, .inl (cI, 4, .inl (va_up ln kj x))), (b 13, .inl (cI, 240, .inl g))] H → va_D A [(b 0, .inr (5, [.int fa, .int (nI h), .int (nI w), .int pc, .int br, .ref (b 1), .ref (b 2), .int ra, .int q1, .int q2, .int q3, .int q4, .ref (b 3), .int fw, .int ea, .int sn, .ref (b 4), .ref (b 5), .ref (b 6), .int mo, .int (nI rc), .ref (b 7), .ref (b 8), .ref (b 9), .ref (b 10), .ref (b 11), .ref (b 12), .ref (b 13), .ref (b 14), .int tr])), (b 11, .inl (cI, 4, .inl (zsF (va_up hs kj 1) (va_up le kj n.toNatClampNeg)))), (b 12, .inl (cI, 4, .inl (va_up ln kj x))), (b 13, .inl (cI, 240, .inl g))] → va_S A S_.heap H locs → ∀ ls : Array Slot, lv_has ls 5 [(0, .ref (b 0)), (1, .int k), (3, .int n), (4, .int (nI q))] → W P_ l E_ ({ frames := 2, cells := 0, slots := 0, locals := 45 } : Room) S_ M_ (([.ref (b 0), .int k, .int x, .int n] : List Value).toArray) B_ T_ K_ H locs 0 0 (MQ B_ ((QI D (fun (r : Int32) (w1 : va_W) => r = (shR k x n) ∧ w1 = [(b 0, .inr (5, [.int (shF k x n), .int (nI h), .int (nI w), .int pc, .int br, .ref (b 1), .ref (b 2), .int ra, .int q1, .int q2, .int q3, .int q4, .ref (b 3), .int fw, .int ea, .int sn, .ref (b 4), .ref (b 5), .ref (b 6), .int mo, .int (nI rc), .ref (b 7), .ref (b 8), .ref (b 9), .ref (b 10), .ref (b 11), .ref (b 12), .ref (b 13), .ref (b 14), .int tr])), (b 11, .inl (cI, 4, .inl (zsF (shU k x n kj hs 1) (shU k x n kj le n.toNatClampNeg)))), (b 12, .inl (cI, 4, .inl (shU k x n kj ln x))), (b 13, .inl (cI, 240, .inl (rwF (shU k x n kj rr (fil (fun _ => 0) (rr kj) n.toNatClampNeg)))))])) A) (([.ref (b 0), .int k, .int x, .int n] : List Value).toArray) S_ 0 0 A) (F0 M_ 65 ls []) := by
            intro n_12
            induction n_12 with
            | zero =>
              intro q g hq e_g hmu_n_12
              exact absurd hmu_n_12 (Nat.not_lt_zero _)
            | succ n_12 ih_14 =>
              intro q g hq e_g hmu_n_12 H locs hP hD hS ls hl
              subst e_g
              have hl : lv_has ls 5 [(0, .ref (b 0)), (1, .int k), (3, .int n), (4, .int (nI q))] := hl
              have hP : va_P D vwCl [(b 0, .inr (5, [.int fa, .int (nI h), .int (nI w), .int pc, .int br, .ref (b 1), .ref (b 2), .int ra, .int q1, .int q2, .int q3, .int q4, .ref (b 3), .int fw, .int ea, .int sn, .ref (b 4), .ref (b 5), .ref (b 6), .int mo, .int (nI rc), .ref (b 7), .ref (b 8), .ref (b 9), .ref (b 10), .ref (b 11), .ref (b 12), .ref (b 13), .ref (b 14), .int tr])), (b 11, .inl (cI, 4, .inl (zsF (va_up hs kj 1) (va_up le kj n.toNatClampNeg)))), (b 12, .inl (cI, 4, .inl (va_up ln kj x))), (b 13, .inl (cI, 240, .inl (rwF (va_up rr kj (fil (fun _ => 0) (rr kj) q)))))] H := hP
              have hD : va_D A [(b 0, .inr (5, [.int fa, .int (nI h), .int (nI w), .int pc, .int br, .ref (b 1), .ref (b 2), .int ra, .int q1, .int q2, .int q3, .int q4, .ref (b 3), .int fw, .int ea, .int sn, .ref (b 4), .ref (b 5), .ref (b 6), .int mo, .int (nI rc), .ref (b 7), .ref (b 8), .ref (b 9), .ref (b 10), .ref (b 11), .ref (b 12), .ref (b 13), .ref (b 14), .int tr])), (b 11, .inl (cI, 4, .inl (zsF (va_up hs kj 1) (va_up le kj n.toNatClampNeg)))), (b 12, .inl (cI, 4, .inl (va_up ln kj x))), (b 13, .inl (cI, 240, .inl (rwF (va_up rr kj (fil (fun _ => 0) (rr kj) q)))))] := hD
              refine lv_iload hx hb dX5_sheet_65 (lv_at hl 3 rfl) ?_
              refine lv_iload_n hx hb dX5_sheet_67 rfl (lv_at hl 2 rfl) ?_
              refine k_top (y := (nI n.toNatClampNeg)) hnn ?_
              refine lv_icmp_ge (tgt := 90) hx hb dX5_sheet_68 (by decide) (fun c_15 => ?_) (fun c_15 => ?_)
              · have c_15 : n.toNatClampNeg ≤ q := (nI_leI (a := n.toNatClampNeg) (b := q) (by omega) (by omega)).mp c_15
                refine lv_aload_n hx hb dX5_sheet_90 rfl (lv_at hl 0 rfl) ?_
                refine lv_iconst (v := 1) hx hb dX5_sheet_91 (by decide) ?_
                refine k_mi (wr := [(b 11, .inl (cI, 4, .inl (zsF (va_up hs kj 1) (va_up le kj n.toNatClampNeg)))), (b 12, .inl (cI, 4, .inl (va_up ln kj x))), (b 13, .inl (cI, 240, .inl (rwF (va_up rr kj (fil (fun _ => 0) (rr kj) q)))))]) [0] [1, 2, 3] (run_MV (As := [.int 1]) (rest := []) ⟨hx, hb, hml, hown, hts⟩ (c_X5_refused l D cI cJ cO b fa h w pc br ra q1 q2 q3 q4 fw ea sn mo rc tr 1) (cwV 1 hts gX5_sheet_X5_refused rfl rfl rfl (by decide +kernel) ⟨Nat.le_of_ble_eq_true rfl, Nat.le_of_ble_eq_true rfl⟩) hP hK hD [0] (by decide) rfl rfl rfl rfl rfl hl.1 rfl (Nat.le_of_ble_eq_true rfl) dX5_sheet_92 ⟨Nat.le_refl _, Nat.le_refl _⟩) hP hD hS hA rfl rfl (by decide) (by decide) (fun r_16 w_18 H locs q_17 hP hD hS => ?_)
                obtain ⟨rfl, rfl⟩ := q_17
                have hP : va_P D vwCl [(b 0, .inr (5, [.int 0, .int (nI h), .int (nI w), .int pc, .int br, .ref (b 1), .ref (b 2), .int ra, .int q1, .int q2, .int q3, .int q4, .ref (b 3), .int fw, .int ea, .int sn, .ref (b 4), .ref (b 5), .ref (b 6), .int mo, .int (nI rc), .ref (b 7), .ref (b 8), .ref (b 9), .ref (b 10), .ref (b 11), .ref (b 12), .ref (b 13), .ref (b 14), .int tr])), (b 11, .inl (cI, 4, .inl (zsF (va_up hs kj 1) (va_up le kj n.toNatClampNeg)))), (b 12, .inl (cI, 4, .inl (va_up ln kj x))), (b 13, .inl (cI, 240, .inl (rwF (va_up rr kj (fil (fun _ => 0) (rr kj) q)))))] H := hP.sub [3, 0, 1, 2] rfl
                have hD : va_D A [(b 0, .inr (5, [.int 0, .int (nI h), .int (nI w), .int pc, .int br, .ref (b 1), .ref (b 2), .int ra, .int q1, .int q2, .int q3, .int q4, .ref (b 3), .int fw, .int ea, .int sn, .ref (b 4), .ref (b 5), .ref (b 6), .int mo, .int (nI rc), .ref (b 7), .ref (b 8), .ref (b 9), .ref (b 10), .ref (b 11), .ref (b 12), .ref (b 13), .ref (b 14), .int tr])), (b 11, .inl (cI, 4, .inl (zsF (va_up hs kj 1) (va_up le kj n.toNatClampNeg)))), (b 12, .inl (cI, 4, .inl (va_up ln kj x))), (b 13, .inl (cI, 240, .inl (rwF (va_up rr kj (fil (fun _ => 0) (rr kj) q)))))] := hD.sub [3, 0, 1, 2] (by decide) rfl
                refine mi_ret (v := 1) hx hb hr hlk hP hD hS dX5_sheet_95 ?_
                obtain rfl : q = n.toNatClampNeg := by omega
                rw [show shF k x n = _ from by rw [shF, if_pos c_3, if_pos ⟨c_6, cn⟩, if_neg c0]]
                rw [show shU k x n kj (hs) (1) = _ from by rw [shU, if_pos c_3, if_pos ⟨c_6, cn⟩, if_neg c0]]
                rw [show shU k x n kj ln x = _ from by rw [shU, if_pos c_3, if_pos ⟨c_6, cn⟩, if_neg c0]]
                rw [show shU k x n kj le n.toNatClampNeg = _ from by rw [shU, if_pos c_3, if_pos ⟨c_6, cn⟩, if_neg c0]]
                rw [show shU k x n kj rr (fil (fun _ => 0) (rr kj) n.toNatClampNeg) = _ from by rw [shU, if_pos c_3, if_pos ⟨c_6, cn⟩, if_neg c0]]
                refine ⟨?_, rfl⟩
                rw [shR, if_pos c_3, if_pos ⟨c_6, cn⟩, if_neg c0] <;> rfl
              · have c_15 : q < n.toNatClampNeg := Nat.lt_of_not_le (fun z => c_15 ((nI_leI (a := n.toNatClampNeg) (b := q) (by omega) (by omega)).mpr z))
                refine lv_aload_n hx hb dX5_sheet_71 rfl (lv_at hl 0 rfl) ?_
                refine va_get (D := D) (ci := 5) (v := .ref (b 13)) (C := RX5) (T := TX5) (N := 30) hx hb hts hin5 hown hK.1 hP 0 rfl rfl 27 (by decide) (hts _ (List.mem_of_getElem? (i := 4) rfl)) (fun _ h9 => h9) rfl dX5_sheet_72 ?_
                refine lv_bipush (v := 60) hx hb dX5_sheet_75 (by decide) ?_
                refine lv_iload_n hx hb dX5_sheet_77 rfl (lv_at hl 1 rfl) ?_
                refine k_top (y := (nI kj)) e_kj ?_
                refine lv_imul hx hb dX5_sheet_78 ?_
                refine k_top (y := (nI (60 * kj))) (pk_mul 60 _) ?_
                refine lv_iload hx hb dX5_sheet_79 (lv_at hl 3 rfl) ?_
                refine lv_iadd hx hb dX5_sheet_81 ?_
                refine k_top (y := (nI ((60 * kj) + q))) (nI_add _ _) ?_
                refine lv_iconst (v := 0) hx hb dX5_sheet_82 (by decide) ?_
                refine k_iast hx hb hK hP hD hS 3 0 rfl rfl (j := (60 * kj) + q) (vp_in_nI (show (60 * kj) + q < 240 by omega) (by decide)) (nI_clamp (by omega)) dX5_sheet_83 (fun H locs hP hD hS => ?_)
                have hP : va_P D vwCl [(b 0, .inr (5, [.int fa, .int (nI h), .int (nI w), .int pc, .int br, .ref (b 1), .ref (b 2), .int ra, .int q1, .int q2, .int q3, .int q4, .ref (b 3), .int fw, .int ea, .int sn, .ref (b 4), .ref (b 5), .ref (b 6), .int mo, .int (nI rc), .ref (b 7), .ref (b 8), .ref (b 9), .ref (b 10), .ref (b 11), .ref (b 12), .ref (b 13), .ref (b 14), .int tr])), (b 11, .inl (cI, 4, .inl (zsF (va_up hs kj 1) (va_up le kj n.toNatClampNeg)))), (b 12, .inl (cI, 4, .inl (va_up ln kj x))), (b 13, .inl (cI, 240, .inl (upd (rwF (va_up rr kj (fil (fun _ => 0) (rr kj) q))) ((60 * kj) + q) 0)))] H := hP
                have hD : va_D A [(b 0, .inr (5, [.int fa, .int (nI h), .int (nI w), .int pc, .int br, .ref (b 1), .ref (b 2), .int ra, .int q1, .int q2, .int q3, .int q4, .ref (b 3), .int fw, .int ea, .int sn, .ref (b 4), .ref (b 5), .ref (b 6), .int mo, .int (nI rc), .ref (b 7), .ref (b 8), .ref (b 9), .ref (b 10), .ref (b 11), .ref (b 12), .ref (b 13), .ref (b 14), .int tr])), (b 11, .inl (cI, 4, .inl (zsF (va_up hs kj 1) (va_up le kj n.toNatClampNeg)))), (b 12, .inl (cI, 4, .inl (va_up ln kj x))), (b 13, .inl (cI, 240, .inl (upd (rwF (va_up rr kj (fil (fun _ => 0) (rr kj) q))) ((60 * kj) + q) 0)))] := hD
                refine lv_iinc (v := (nI (q + 1))) (lv' := [(4, .int (nI (q + 1))), (0, .ref (b 0)), (1, .int k), (3, .int n)]) hx hb dX5_sheet_84 hl (k := 3) rfl (nI_add _ 1) (by decide) rfl (fun ls hl => ?_)
                refine lv_goto (tgt := 65) hx hb dX5_sheet_87 (by decide) ?_
                exact ih_14 (q + 1) (upd (rwF (va_up rr kj (fil (fun _ => 0) (rr kj) q))) ((60 * kj) + q) 0) (by omega) (rw_step rr _ _ (by omega) 0 (fil_upd (fun _ => 0) (rr kj) q rfl)) (by omega) _ _ hP hD hS ls (lv_sub hl [1, 2, 3, 0] rfl)
          exact key_13 _ 0 (rwF rr) (by omega) (by rw [fil_0, up_self]) (Nat.lt_succ_self _) _ _ hP hD hS ls (lv_sub hl [1, 2, 4, 0] rfl)
        · have c0 : n.toInt < 0 := by have z := c_11; rw [Int32.le_iff_toInt_le, ti_0] at z; omega
          refine lv_aload_n hx hb dX5_sheet_42 rfl (lv_at hl 0 rfl) ?_
          refine lv_iconst (v := 4) hx hb dX5_sheet_43 (by decide) ?_
          refine k_mi (wr := [(b 11, .inl (cI, 4, .inl (zsF hs le))), (b 12, .inl (cI, 4, .inl ln)), (b 13, .inl (cI, 240, .inl (rwF rr)))]) [0] [1, 2, 3] (run_MV (As := [.int 4]) (rest := []) ⟨hx, hb, hml, hown, hts⟩ (c_X5_failed l D cI cJ cO b fa h w pc br ra q1 q2 q3 q4 fw ea sn mo rc tr 4) (cwV 1 hts gX5_sheet_X5_failed rfl rfl rfl (by decide +kernel) ⟨Nat.le_of_ble_eq_true rfl, Nat.le_of_ble_eq_true rfl⟩) hP hK hD [0] (by decide) rfl rfl rfl rfl rfl hl.1 rfl (Nat.le_of_ble_eq_true rfl) dX5_sheet_44 ⟨Nat.le_refl _, Nat.le_refl _⟩) hP hD hS hA rfl rfl (by decide) (by decide) (fun r_19 w_21 H locs q_20 hP hD hS => ?_)
          obtain ⟨rfl, rfl⟩ := q_20
          have hP : va_P D vwCl [(b 0, .inr (5, [.int 4, .int (nI h), .int (nI w), .int pc, .int br, .ref (b 1), .ref (b 2), .int ra, .int q1, .int q2, .int q3, .int q4, .ref (b 3), .int fw, .int ea, .int sn, .ref (b 4), .ref (b 5), .ref (b 6), .int mo, .int (nI rc), .ref (b 7), .ref (b 8), .ref (b 9), .ref (b 10), .ref (b 11), .ref (b 12), .ref (b 13), .ref (b 14), .int tr])), (b 11, .inl (cI, 4, .inl (zsF hs le))), (b 12, .inl (cI, 4, .inl ln)), (b 13, .inl (cI, 240, .inl (rwF rr)))] H := hP.sub [3, 0, 1, 2] rfl
          have hD : va_D A [(b 0, .inr (5, [.int 4, .int (nI h), .int (nI w), .int pc, .int br, .ref (b 1), .ref (b 2), .int ra, .int q1, .int q2, .int q3, .int q4, .ref (b 3), .int fw, .int ea, .int sn, .ref (b 4), .ref (b 5), .ref (b 6), .int mo, .int (nI rc), .ref (b 7), .ref (b 8), .ref (b 9), .ref (b 10), .ref (b 11), .ref (b 12), .ref (b 13), .ref (b 14), .int tr])), (b 11, .inl (cI, 4, .inl (zsF hs le))), (b 12, .inl (cI, 4, .inl ln)), (b 13, .inl (cI, 240, .inl (rwF rr)))] := hD.sub [3, 0, 1, 2] (by decide) rfl
          refine mi_ret (v := (-10 - 4)) hx hb hr hlk hP hD hS dX5_sheet_47 ?_
          rw [show shF k x n = _ from by rw [shF, if_pos c_3, if_pos ⟨c_6, cn⟩, if_pos c0]]
          rw [show shU k x n kj (hs) (1) = _ from by rw [shU, if_pos c_3, if_pos ⟨c_6, cn⟩, if_pos c0]]
          rw [show shU k x n kj ln x = _ from by rw [shU, if_pos c_3, if_pos ⟨c_6, cn⟩, if_pos c0]]
          rw [show shU k x n kj le n.toNatClampNeg = _ from by rw [shU, if_pos c_3, if_pos ⟨c_6, cn⟩, if_pos c0]]
          rw [show shU k x n kj rr (fil (fun _ => 0) (rr kj) n.toNatClampNeg) = _ from by rw [shU, if_pos c_3, if_pos ⟨c_6, cn⟩, if_pos c0]]
          refine ⟨?_, rfl⟩
          rw [shR, if_pos c_3, if_pos ⟨c_6, cn⟩, if_pos c0] <;> rfl
      · have cn : ¬ n.toInt ≤ 60 := by have z := c_10; rw [Int32.le_iff_toInt_le, ti_60] at z; omega
        refine lv_aload_n hx hb dX5_sheet_31 rfl (lv_at hl 0 rfl) ?_
        refine lv_bipush (v := (-2)) hx hb dX5_sheet_32 (by decide) ?_
        refine k_mi (wr := [(b 11, .inl (cI, 4, .inl (zsF hs le))), (b 12, .inl (cI, 4, .inl ln)), (b 13, .inl (cI, 240, .inl (rwF rr)))]) [0] [1, 2, 3] (run_MV (As := [.int (-2)]) (rest := []) ⟨hx, hb, hml, hown, hts⟩ (c_X5_refused l D cI cJ cO b fa h w pc br ra q1 q2 q3 q4 fw ea sn mo rc tr (-2)) (cwV 1 hts gX5_sheet_X5_refused rfl rfl rfl (by decide +kernel) ⟨Nat.le_of_ble_eq_true rfl, Nat.le_of_ble_eq_true rfl⟩) hP hK hD [0] (by decide) rfl rfl rfl rfl rfl hl.1 rfl (Nat.le_of_ble_eq_true rfl) dX5_sheet_34 ⟨Nat.le_refl _, Nat.le_refl _⟩) hP hD hS hA rfl rfl (by decide) (by decide) (fun r_22 w_24 H locs q_23 hP hD hS => ?_)
        obtain ⟨rfl, rfl⟩ := q_23
        have hP : va_P D vwCl [(b 0, .inr (5, [.int 0, .int (nI h), .int (nI w), .int pc, .int br, .ref (b 1), .ref (b 2), .int ra, .int q1, .int q2, .int q3, .int q4, .ref (b 3), .int fw, .int ea, .int sn, .ref (b 4), .ref (b 5), .ref (b 6), .int mo, .int (nI rc), .ref (b 7), .ref (b 8), .ref (b 9), .ref (b 10), .ref (b 11), .ref (b 12), .ref (b 13), .ref (b 14), .int tr])), (b 11, .inl (cI, 4, .inl (zsF hs le))), (b 12, .inl (cI, 4, .inl ln)), (b 13, .inl (cI, 240, .inl (rwF rr)))] H := hP.sub [3, 0, 1, 2] rfl
        have hD : va_D A [(b 0, .inr (5, [.int 0, .int (nI h), .int (nI w), .int pc, .int br, .ref (b 1), .ref (b 2), .int ra, .int q1, .int q2, .int q3, .int q4, .ref (b 3), .int fw, .int ea, .int sn, .ref (b 4), .ref (b 5), .ref (b 6), .int mo, .int (nI rc), .ref (b 7), .ref (b 8), .ref (b 9), .ref (b 10), .ref (b 11), .ref (b 12), .ref (b 13), .ref (b 14), .int tr])), (b 11, .inl (cI, 4, .inl (zsF hs le))), (b 12, .inl (cI, 4, .inl ln)), (b 13, .inl (cI, 240, .inl (rwF rr)))] := hD.sub [3, 0, 1, 2] (by decide) rfl
        refine mi_ret (v := (-2)) hx hb hr hlk hP hD hS dX5_sheet_37 ?_
        rw [show shF k x n = _ from by rw [shF, if_pos c_3, if_neg (fun z => cn z.2)]]
        rw [show shU k x n kj (hs) (1) = _ from by rw [shU, if_pos c_3, if_neg (fun z => cn z.2)]]
        rw [show shU k x n kj ln x = _ from by rw [shU, if_pos c_3, if_neg (fun z => cn z.2)]]
        rw [show shU k x n kj le n.toNatClampNeg = _ from by rw [shU, if_pos c_3, if_neg (fun z => cn z.2)]]
        rw [show shU k x n kj rr (fil (fun _ => 0) (rr kj) n.toNatClampNeg) = _ from by rw [shU, if_pos c_3, if_neg (fun z => cn z.2)]]
        refine ⟨?_, rfl⟩
        rw [shR, if_pos c_3, if_neg (fun z => cn z.2)] <;> rfl
  · have c_3 := b2_t c_3
    refine lv_aload_n hx hb dX5_sheet_7 rfl (lv_at hl 0 rfl) ?_
    refine lv_iconst (v := (-1)) hx hb dX5_sheet_8 (by decide) ?_
    refine k_mi (wr := [(b 11, .inl (cI, 4, .inl (zsF hs le))), (b 12, .inl (cI, 4, .inl ln)), (b 13, .inl (cI, 240, .inl (rwF rr)))]) [0] [1, 2, 3] (run_MV (As := [.int (-1)]) (rest := []) ⟨hx, hb, hml, hown, hts⟩ (c_X5_refused l D cI cJ cO b fa h w pc br ra q1 q2 q3 q4 fw ea sn mo rc tr (-1)) (cwV 1 hts gX5_sheet_X5_refused rfl rfl rfl (by decide +kernel) ⟨Nat.le_of_ble_eq_true rfl, Nat.le_of_ble_eq_true rfl⟩) hP hK hD [0] (by decide) rfl rfl rfl rfl rfl hl.1 rfl (Nat.le_of_ble_eq_true rfl) dX5_sheet_9 ⟨Nat.le_refl _, Nat.le_refl _⟩) hP hD hS hA rfl rfl (by decide) (by decide) (fun r_25 w_27 H locs q_26 hP hD hS => ?_)
    obtain ⟨rfl, rfl⟩ := q_26
    have hP : va_P D vwCl [(b 0, .inr (5, [.int 0, .int (nI h), .int (nI w), .int pc, .int br, .ref (b 1), .ref (b 2), .int ra, .int q1, .int q2, .int q3, .int q4, .ref (b 3), .int fw, .int ea, .int sn, .ref (b 4), .ref (b 5), .ref (b 6), .int mo, .int (nI rc), .ref (b 7), .ref (b 8), .ref (b 9), .ref (b 10), .ref (b 11), .ref (b 12), .ref (b 13), .ref (b 14), .int tr])), (b 11, .inl (cI, 4, .inl (zsF hs le))), (b 12, .inl (cI, 4, .inl ln)), (b 13, .inl (cI, 240, .inl (rwF rr)))] H := hP.sub [3, 0, 1, 2] rfl
    have hD : va_D A [(b 0, .inr (5, [.int 0, .int (nI h), .int (nI w), .int pc, .int br, .ref (b 1), .ref (b 2), .int ra, .int q1, .int q2, .int q3, .int q4, .ref (b 3), .int fw, .int ea, .int sn, .ref (b 4), .ref (b 5), .ref (b 6), .int mo, .int (nI rc), .ref (b 7), .ref (b 8), .ref (b 9), .ref (b 10), .ref (b 11), .ref (b 12), .ref (b 13), .ref (b 14), .int tr])), (b 11, .inl (cI, 4, .inl (zsF hs le))), (b 12, .inl (cI, 4, .inl ln)), (b 13, .inl (cI, 240, .inl (rwF rr)))] := hD.sub [3, 0, 1, 2] (by decide) rfl
    refine mi_ret (v := (-1)) hx hb hr hlk hP hD hS dX5_sheet_12 ?_
    rw [show shF k x n = _ from by rw [shF, if_neg c_3]]
    rw [show shU k x n kj (hs) (1) = _ from by rw [shU, if_neg c_3]]
    rw [show shU k x n kj ln x = _ from by rw [shU, if_neg c_3]]
    rw [show shU k x n kj le n.toNatClampNeg = _ from by rw [shU, if_neg c_3]]
    rw [show shU k x n kj rr (fil (fun _ => 0) (rr kj) n.toNatClampNeg) = _ from by rw [shU, if_neg c_3]]
    refine ⟨?_, rfl⟩
    rw [shR, if_neg c_3] <;> rfl
theorem iwX5_noCell_X5 : ∀ x ∈ wsX50, x ∈ wsX5_noCell := by decide +kernel
set_option maxRecDepth 100000 in
set_option maxHeartbeats 4000000 in
/-- X5_noCell -/
theorem c_X5_noCell (l : Launch) (D : va_G) (cI cJ cO : ClassId) (b : Nat → Nat) (fa : Int32) (h : Nat) (w : Nat) (pc : Int32) (br : Int32) (ra : Int32) (q1 : Int32) (q2 : Int32) (q3 : Int32) (q4 : Int32) (fw : Int32) (ea : Int32) (sn : Int32) (mo : Int32) (rc : Nat) (tr : Int32) (hs : Nat → Int32) (le : Nat → Nat) (k : Int32) (i : Int32) (kj : Nat) (hle : ∀ z, z < 4 → le z ≤ 60) (hv_k : vp_in k 4) (hj_k : k.toNatClampNeg = kj) : RG l yX5_noCell wsX5_noCell 1 25 D [(cI, .int), (cJ, .long), (cO, .object "ShornHill$Sheet")] [.ref (b 0), .int k, .int i] [(b 0, .inr (5, [.int fa, .int (nI h), .int (nI w), .int pc, .int br, .ref (b 1), .ref (b 2), .int ra, .int q1, .int q2, .int q3, .int q4, .ref (b 3), .int fw, .int ea, .int sn, .ref (b 4), .ref (b 5), .ref (b 6), .int mo, .int (nI rc), .ref (b 7), .ref (b 8), .ref (b 9), .ref (b 10), .ref (b 11), .ref (b 12), .ref (b 13), .ref (b 14), .int tr])), (b 11, .inl (cI, 4, .inl (zsF hs le)))] (vp_Si (fun (r : Int32) => r = (ncF hs le i kj))) := by
  refine RG.of (cc := cX5_noCell) (maxL := 3) (ret := (some .int)) (by decide) rfl (Nat.le_of_ble_eq_true rfl) ?_
  intro P_ E_ S_ M_ B_ T_ K_ hx hb hml hr hts hown hlk hP hK ls hl
  have hl : lv_has ls 3 [(0, .ref (b 0)), (1, .int k), (2, .int i)] := hl
  have hin5 : ∀ x ∈ u_ws RX5 TX5 30, x ∈ wsX5_noCell := iwX5_noCell_X5
  have h4_kj : kj < 4 := by rw [← hj_k]; exact (inN_vp.mpr hv_k).lt
  have h60_kj := hle kj h4_kj
  refine lv_aload_n hx hb dX5_noCell_0 rfl (lv_at hl 0 rfl) ?_
  refine va_get (D := D) (ci := 5) (v := .ref (b 11)) (C := RX5) (T := TX5) (N := 30) hx hb hts hin5 hown hK.1 hP 0 rfl rfl 25 (by decide) (hts _ (List.mem_of_getElem? (i := 1) rfl)) (fun _ h9 => h9) rfl dX5_noCell_1 ?_
  refine lv_iload_n hx hb dX5_noCell_4 rfl (lv_at hl 1 rfl) ?_
  refine k_iald hx hb hK hP 1 0 rfl rfl (j := kj) hv_k hj_k dX5_noCell_5 ?_
  refine lv_if_ge (tgt := 13) hx hb dX5_noCell_6 (by decide) (fun c_1 => ?_) (fun c_1 => ?_)
  · have c0_kj : ¬ hs kj = 0 := fun z => absurd c_1 (by rw [zs_0 z]; decide)
    refine lv_iload_n hx hb dX5_noCell_13 rfl (lv_at hl 2 rfl) ?_
    refine lv_i2l (v := i.toInt64) hx hb dX5_noCell_14 rfl ?_
    refine lv_lconst (v := 0) hx hb dX5_noCell_15 (by decide) ?_
    refine lv_aload_n hx hb dX5_noCell_16 rfl (lv_at hl 0 rfl) ?_
    refine va_get (D := D) (ci := 5) (v := .ref (b 11)) (C := RX5) (T := TX5) (N := 30) hx hb hts hin5 hown hK.1 hP 0 rfl rfl 25 (by decide) (hts _ (List.mem_of_getElem? (i := 1) rfl)) (fun _ h9 => h9) rfl dX5_noCell_17 ?_
    refine lv_iload_n hx hb dX5_noCell_20 rfl (lv_at hl 1 rfl) ?_
    refine k_iald hx hb hK hP 1 0 rfl rfl (j := kj) hv_k hj_k dX5_noCell_21 ?_
    refine k_top (y := (nI (le kj))) (zs_1 c0_kj) ?_
    refine lv_i2l (v := (nI (le kj)).toInt64) hx hb dX5_noCell_22 rfl ?_
    refine lv_lconst (v := 1) hx hb dX5_noCell_23 (by decide) ?_
    refine lv_lsub hx hb dX5_noCell_24 ?_
    refine k_ri (run_RS (As := [.long i.toInt64, .long 0, .long (((nI (le kj)).toInt64) - 1)]) (rest := []) ⟨hx, hb, hml, hown, hts⟩ (c_X5_in l D cI cJ cO i.toInt64 0 (((nI (le kj)).toInt64) - 1)) (va_cwS 3 hts gX5_noCell_X5_in rfl rfl rfl (by decide +kernel) ⟨Nat.le_of_ble_eq_true rfl, Nat.le_of_ble_eq_true rfl⟩) hP hK [] rfl rfl hl.1 rfl (Nat.le_of_ble_eq_true rfl) dX5_noCell_25 ⟨Nat.le_refl _, Nat.le_refl _⟩) (fun r_2 q_3 => ?_)
    obtain rfl := q_3
    refine k_top (y := (b2 (inN i (le kj)))) (b2_cong (in_m1 (by omega))) ?_
    refine lv_if_eq (tgt := 35) hx hb dX5_noCell_28 (by decide) (fun c_4 => ?_) (fun c_4 => ?_)
    · have c_4 := b2_f c_4
      refine lv_iconst (v := 3) hx hb dX5_noCell_35 (by decide) ?_
      refine ri_ret (v := 3) hx hb hr hlk dX5_noCell_36 ?_
      rw [ncF, if_neg c0_kj, if_neg c_4] <;> rfl
    · have c_4 := b2_t c_4
      refine lv_iconst (v := 0) hx hb dX5_noCell_31 (by decide) ?_
      refine lv_goto (tgt := 36) hx hb dX5_noCell_32 (by decide) ?_
      refine ri_ret (v := 0) hx hb hr hlk dX5_noCell_36 ?_
      rw [ncF, if_neg c0_kj, if_pos c_4] <;> rfl
  · have c0_kj : hs kj = 0 := Decidable.byContradiction (fun z => c_1 (by rw [zs_1 z, Int32.le_iff_toInt_le, nI_toInt (by omega), ti_0]; omega))
    refine lv_iconst (v := 1) hx hb dX5_noCell_9 (by decide) ?_
    refine lv_goto (tgt := 36) hx hb dX5_noCell_10 (by decide) ?_
    refine ri_ret (v := 1) hx hb hr hlk dX5_noCell_36 ?_
    rw [ncF, if_pos c0_kj] <;> rfl
theorem iwX5_put_X5 : ∀ x ∈ wsX50, x ∈ wsX5_put := by decide +kernel
set_option maxRecDepth 100000 in
set_option maxHeartbeats 4000000 in
/-- X5_put -/
theorem c_X5_put (l : Launch) (D : va_G) (cI cJ cO : ClassId) (b : Nat → Nat) (fa : Int32) (h : Nat) (w : Nat) (pc : Int32) (br : Int32) (ra : Int32) (q1 : Int32) (q2 : Int32) (q3 : Int32) (q4 : Int32) (fw : Int32) (ea : Int32) (sn : Int32) (mo : Int32) (rc : Nat) (tr : Int32) (hs : Nat → Int32) (ln : Nat → Int32) (le : Nat → Nat) (rr : Nat → Nat → Int32) (k : Int32) (i : Int32) (v : Int32) (kj : Nat) (hle : ∀ z, z < 4 → le z ≤ 60) (hkj : k.toNatClampNeg = kj) : MG l yX5_put wsX5_put 2 47 0 0 D [(cI, .int), (cJ, .long), (cO, .object "ShornHill$Sheet")] [.ref (b 0), .int k, .int i, .int v] [(b 0, .inr (5, [.int fa, .int (nI h), .int (nI w), .int pc, .int br, .ref (b 1), .ref (b 2), .int ra, .int q1, .int q2, .int q3, .int q4, .ref (b 3), .int fw, .int ea, .int sn, .ref (b 4), .ref (b 5), .ref (b 6), .int mo, .int (nI rc), .ref (b 7), .ref (b 8), .ref (b 9), .ref (b 10), .ref (b 11), .ref (b 12), .ref (b 13), .ref (b 14), .int tr])), (b 11, .inl (cI, 4, .inl (zsF hs le))), (b 12, .inl (cI, 4, .inl ln)), (b 13, .inl (cI, 240, .inl (rwF rr)))] (QI D (fun (r : Int32) (w1 : va_W) => r = (puR hs le k i kj) ∧ w1 = [(b 0, .inr (5, [.int (puF hs le k i kj), .int (nI h), .int (nI w), .int pc, .int br, .ref (b 1), .ref (b 2), .int ra, .int q1, .int q2, .int q3, .int q4, .ref (b 3), .int fw, .int ea, .int sn, .ref (b 4), .ref (b 5), .ref (b 6), .int mo, .int (nI rc), .ref (b 7), .ref (b 8), .ref (b 9), .ref (b 10), .ref (b 11), .ref (b 12), .ref (b 13), .ref (b 14), .int tr])), (b 11, .inl (cI, 4, .inl (zsF hs le))), (b 12, .inl (cI, 4, .inl ln)), (b 13, .inl (cI, 240, .inl (rwF (puS hs ln le rr k i v kj))))])) := by
  refine MG.of (cc := cX5_put) (maxL := 4) (ret := (some .int)) (by decide) rfl (Nat.le_of_ble_eq_true rfl) ?_
  intro P_ E_ S_ M_ B_ T_ K_ hx hb hml hr hts hown hlk hnm A hA hP hK hD hS ls hl
  have hl : lv_has ls 4 [(0, .ref (b 0)), (1, .int k), (2, .int i), (3, .int v)] := hl
  have hin5 : ∀ x ∈ u_ws RX5 TX5 30, x ∈ wsX5_put := iwX5_put_X5
  refine lv_iload_n hx hb dX5_put_0 rfl (lv_at hl 1 rfl) ?_
  refine k_ri (run_RS (As := [.int k]) (rest := []) ⟨hx, hb, hml, hown, hts⟩ (c_X5_noSheet l D cI cJ cO k) (va_cwS 1 hts gX5_put_X5_noSheet rfl rfl rfl (by decide +kernel) ⟨Nat.le_of_ble_eq_true rfl, Nat.le_of_ble_eq_true rfl⟩) hP hK [] rfl rfl hl.1 rfl (Nat.le_of_ble_eq_true rfl) dX5_put_1 ⟨Nat.le_refl _, Nat.le_refl _⟩) (fun r_1 q_2 => ?_)
  obtain rfl := q_2
  refine lv_if_eq (tgt := 13) hx hb dX5_put_4 (by decide) (fun c_3 => ?_) (fun c_3 => ?_)
  · have c_3 := Decidable.not_not.mp (b2_f c_3)
    have h4_kj : kj < 4 := by rw [← hkj]; exact (show inN k 4 by assumption).lt
    have h60_kj := hle kj h4_kj
    have e_kj : k = nI kj := by rw [← hkj]; exact (show inN k 4 by assumption).eq
    rcases nc_c hs le i kj with ⟨hc1, hc2⟩ | ⟨hc1, hc2, hc3⟩ | ⟨hc1, hc2, hc3⟩
    · have hcv : ncF hs le i kj = 1 := hc2
      refine lv_aload_n hx hb dX5_put_13 rfl (lv_at hl 0 rfl) ?_
      refine lv_iload_n hx hb dX5_put_14 rfl (lv_at hl 1 rfl) ?_
      refine lv_iload_n hx hb dX5_put_15 rfl (lv_at hl 2 rfl) ?_
      refine k_ri (run_RV (As := [.int k, .int i]) (rest := []) ⟨hx, hb, hml, hown, hts⟩ (c_X5_noCell l D cI cJ cO b fa h w pc br ra q1 q2 q3 q4 fw ea sn mo rc tr hs le k i kj hle (inN.vp c_3 (by omega)) hkj) (cwV 2 hts gX5_put_X5_noCell rfl rfl rfl (by decide +kernel) ⟨Nat.le_of_ble_eq_true rfl, Nat.le_of_ble_eq_true rfl⟩) hP hK [0, 1] rfl rfl rfl rfl rfl hl.1 rfl (Nat.le_of_ble_eq_true rfl) dX5_put_16 ⟨Nat.le_refl _, Nat.le_refl _⟩) (fun r_4 q_5 => ?_)
      obtain rfl := q_5
      refine k_top (y := 1) hcv ?_
      refine lv_if_le (tgt := 33) hx hb dX5_put_19 (by decide) (fun c_6 => ?_) (fun c_6 => ?_)
      · exact absurd c_6 (by decide)
      · refine lv_aload_n hx hb dX5_put_22 rfl (lv_at hl 0 rfl) ?_
        refine lv_aload_n hx hb dX5_put_23 rfl (lv_at hl 0 rfl) ?_
        refine lv_iload_n hx hb dX5_put_24 rfl (lv_at hl 1 rfl) ?_
        refine lv_iload_n hx hb dX5_put_25 rfl (lv_at hl 2 rfl) ?_
        refine k_ri (run_RV (As := [.int k, .int i]) (rest := [.ref (b 0)]) ⟨hx, hb, hml, hown, hts⟩ (c_X5_noCell l D cI cJ cO b fa h w pc br ra q1 q2 q3 q4 fw ea sn mo rc tr hs le k i kj hle (inN.vp c_3 (by omega)) hkj) (cwV 2 hts gX5_put_X5_noCell rfl rfl rfl (by decide +kernel) ⟨Nat.le_of_ble_eq_true rfl, Nat.le_of_ble_eq_true rfl⟩) hP hK [0, 1] rfl rfl rfl rfl rfl hl.1 rfl (Nat.le_of_ble_eq_true rfl) dX5_put_26 ⟨Nat.le_refl _, Nat.le_refl _⟩) (fun r_7 q_8 => ?_)
        obtain rfl := q_8
        refine k_top (y := 1) hcv ?_
        refine k_mi (wr := [(b 11, .inl (cI, 4, .inl (zsF hs le))), (b 12, .inl (cI, 4, .inl ln)), (b 13, .inl (cI, 240, .inl (rwF rr)))]) [0] [1, 2, 3] (run_MV (As := [.int 1]) (rest := []) ⟨hx, hb, hml, hown, hts⟩ (c_X5_failed l D cI cJ cO b fa h w pc br ra q1 q2 q3 q4 fw ea sn mo rc tr 1) (cwV 1 hts gX5_put_X5_failed rfl rfl rfl (by decide +kernel) ⟨Nat.le_of_ble_eq_true rfl, Nat.le_of_ble_eq_true rfl⟩) hP hK hD [0] (by decide) rfl rfl rfl rfl rfl hl.1 rfl (Nat.le_of_ble_eq_true rfl) dX5_put_29 ⟨Nat.le_refl _, Nat.le_refl _⟩) hP hD hS hA rfl rfl (by decide) (by decide) (fun r_9 w_11 H locs q_10 hP hD hS => ?_)
        obtain ⟨rfl, rfl⟩ := q_10
        have hP : va_P D vwCl [(b 0, .inr (5, [.int 1, .int (nI h), .int (nI w), .int pc, .int br, .ref (b 1), .ref (b 2), .int ra, .int q1, .int q2, .int q3, .int q4, .ref (b 3), .int fw, .int ea, .int sn, .ref (b 4), .ref (b 5), .ref (b 6), .int mo, .int (nI rc), .ref (b 7), .ref (b 8), .ref (b 9), .ref (b 10), .ref (b 11), .ref (b 12), .ref (b 13), .ref (b 14), .int tr])), (b 11, .inl (cI, 4, .inl (zsF hs le))), (b 12, .inl (cI, 4, .inl ln)), (b 13, .inl (cI, 240, .inl (rwF rr)))] H := hP.sub [3, 0, 1, 2] rfl
        have hD : va_D A [(b 0, .inr (5, [.int 1, .int (nI h), .int (nI w), .int pc, .int br, .ref (b 1), .ref (b 2), .int ra, .int q1, .int q2, .int q3, .int q4, .ref (b 3), .int fw, .int ea, .int sn, .ref (b 4), .ref (b 5), .ref (b 6), .int mo, .int (nI rc), .ref (b 7), .ref (b 8), .ref (b 9), .ref (b 10), .ref (b 11), .ref (b 12), .ref (b 13), .ref (b 14), .int tr])), (b 11, .inl (cI, 4, .inl (zsF hs le))), (b 12, .inl (cI, 4, .inl ln)), (b 13, .inl (cI, 240, .inl (rwF rr)))] := hD.sub [3, 0, 1, 2] (by decide) rfl
        refine mi_ret (v := (-10 - 1)) hx hb hr hlk hP hD hS dX5_put_32 ?_
        rw [show puF hs le k i kj = _ from by rw [puF, if_pos c_3, if_pos hc1]]
        rw [show puS hs ln le rr k i v kj = _ from by rw [puS, if_pos c_3, if_pos hc1]]
        refine ⟨?_, rfl⟩
        rw [puR, if_pos c_3, if_pos hc1] <;> rfl
    · have hcv : ncF hs le i kj = 0 := hc3
      have ei : i = nI i.toNatClampNeg := hc2.eq
      have li := hc2.lt
      refine lv_aload_n hx hb dX5_put_13 rfl (lv_at hl 0 rfl) ?_
      refine lv_iload_n hx hb dX5_put_14 rfl (lv_at hl 1 rfl) ?_
      refine lv_iload_n hx hb dX5_put_15 rfl (lv_at hl 2 rfl) ?_
      refine k_ri (run_RV (As := [.int k, .int i]) (rest := []) ⟨hx, hb, hml, hown, hts⟩ (c_X5_noCell l D cI cJ cO b fa h w pc br ra q1 q2 q3 q4 fw ea sn mo rc tr hs le k i kj hle (inN.vp c_3 (by omega)) hkj) (cwV 2 hts gX5_put_X5_noCell rfl rfl rfl (by decide +kernel) ⟨Nat.le_of_ble_eq_true rfl, Nat.le_of_ble_eq_true rfl⟩) hP hK [0, 1] rfl rfl rfl rfl rfl hl.1 rfl (Nat.le_of_ble_eq_true rfl) dX5_put_16 ⟨Nat.le_refl _, Nat.le_refl _⟩) (fun r_12 q_13 => ?_)
      obtain rfl := q_13
      refine k_top (y := 0) hcv ?_
      refine lv_if_le (tgt := 33) hx hb dX5_put_19 (by decide) (fun c_14 => ?_) (fun c_14 => ?_)
      · refine lv_aload_n hx hb dX5_put_33 rfl (lv_at hl 0 rfl) ?_
        refine va_get (D := D) (ci := 5) (v := .ref (b 13)) (C := RX5) (T := TX5) (N := 30) hx hb hts hin5 hown hK.1 hP 0 rfl rfl 27 (by decide) (hts _ (List.mem_of_getElem? (i := 1) rfl)) (fun _ h9 => h9) rfl dX5_put_34 ?_
        refine lv_bipush (v := 60) hx hb dX5_put_37 (by decide) ?_
        refine lv_iload_n hx hb dX5_put_39 rfl (lv_at hl 1 rfl) ?_
        refine k_top (y := (nI kj)) e_kj ?_
        refine lv_imul hx hb dX5_put_40 ?_
        refine k_top (y := (nI (60 * kj))) (pk_mul 60 _) ?_
        refine lv_iload_n hx hb dX5_put_41 rfl (lv_at hl 2 rfl) ?_
        refine k_top (y := (nI i.toNatClampNeg)) ei ?_
        refine lv_iadd hx hb dX5_put_42 ?_
        refine k_top (y := (nI ((60 * kj) + i.toNatClampNeg))) (nI_add _ _) ?_
        refine lv_aload_n hx hb dX5_put_43 rfl (lv_at hl 0 rfl) ?_
        refine va_get (D := D) (ci := 5) (v := .ref (b 12)) (C := RX5) (T := TX5) (N := 30) hx hb hts hin5 hown hK.1 hP 0 rfl rfl 26 (by decide) (hts _ (List.mem_of_getElem? (i := 2) rfl)) (fun _ h9 => h9) rfl dX5_put_44 ?_
        refine lv_iload_n hx hb dX5_put_47 rfl (lv_at hl 1 rfl) ?_
        refine k_iald hx hb hK hP 2 0 rfl rfl (j := kj) (inN.vp c_3 (by omega)) hkj dX5_put_48 ?_
        refine lv_if_ne (tgt := 57) hx hb dX5_put_49 (by decide) (fun c_15 => ?_) (fun c_15 => ?_)
        · refine lv_aload_n hx hb dX5_put_57 rfl (lv_at hl 0 rfl) ?_
          refine va_get (D := D) (ci := 5) (v := .ref (b 12)) (C := RX5) (T := TX5) (N := 30) hx hb hts hin5 hown hK.1 hP 0 rfl rfl 26 (by decide) (hts _ (List.mem_of_getElem? (i := 2) rfl)) (fun _ h9 => h9) rfl dX5_put_58 ?_
          refine lv_iload_n hx hb dX5_put_61 rfl (lv_at hl 1 rfl) ?_
          refine k_iald hx hb hK hP 2 0 rfl rfl (j := kj) (inN.vp c_3 (by omega)) hkj dX5_put_62 ?_
          refine lv_iconst (v := 1) hx hb dX5_put_63 (by decide) ?_
          refine lv_icmp_ne (tgt := 72) hx hb dX5_put_64 (by decide) (fun c_16 => ?_) (fun c_16 => ?_)
          · refine lv_iload_n hx hb dX5_put_72 rfl (lv_at hl 3 rfl) ?_
            refine k_iast hx hb hK hP hD hS 3 0 rfl rfl (j := (60 * kj) + i.toNatClampNeg) (vp_in_nI (show (60 * kj) + i.toNatClampNeg < 240 by omega) (by decide)) (nI_clamp (by omega)) dX5_put_73 (fun H locs hP hD hS => ?_)
            have hP : va_P D vwCl [(b 0, .inr (5, [.int fa, .int (nI h), .int (nI w), .int pc, .int br, .ref (b 1), .ref (b 2), .int ra, .int q1, .int q2, .int q3, .int q4, .ref (b 3), .int fw, .int ea, .int sn, .ref (b 4), .ref (b 5), .ref (b 6), .int mo, .int (nI rc), .ref (b 7), .ref (b 8), .ref (b 9), .ref (b 10), .ref (b 11), .ref (b 12), .ref (b 13), .ref (b 14), .int tr])), (b 11, .inl (cI, 4, .inl (zsF hs le))), (b 12, .inl (cI, 4, .inl ln)), (b 13, .inl (cI, 240, .inl (upd (rwF rr) ((60 * kj) + i.toNatClampNeg) v)))] H := hP
            have hD : va_D A [(b 0, .inr (5, [.int fa, .int (nI h), .int (nI w), .int pc, .int br, .ref (b 1), .ref (b 2), .int ra, .int q1, .int q2, .int q3, .int q4, .ref (b 3), .int fw, .int ea, .int sn, .ref (b 4), .ref (b 5), .ref (b 6), .int mo, .int (nI rc), .ref (b 7), .ref (b 8), .ref (b 9), .ref (b 10), .ref (b 11), .ref (b 12), .ref (b 13), .ref (b 14), .int tr])), (b 11, .inl (cI, 4, .inl (zsF hs le))), (b 12, .inl (cI, 4, .inl ln)), (b 13, .inl (cI, 240, .inl (upd (rwF rr) ((60 * kj) + i.toNatClampNeg) v)))] := hD
            rw [show (upd (rwF rr) ((60 * kj) + i.toNatClampNeg) v) = (rwF (va_up rr kj (upd (rr kj) i.toNatClampNeg (cutF (ln kj) v)))) from (by rw [rw_up _ (by omega)]; rw [show cutF (ln kj) v = _ from by rw [cutF, if_neg c_15, if_neg c_16]])] at hP hD
            refine lv_aload_n hx hb dX5_put_74 rfl (lv_at hl 0 rfl) ?_
            refine lv_iconst (v := 1) hx hb dX5_put_75 (by decide) ?_
            refine k_mi (wr := [(b 11, .inl (cI, 4, .inl (zsF hs le))), (b 12, .inl (cI, 4, .inl ln)), (b 13, .inl (cI, 240, .inl (rwF (va_up rr kj (upd (rr kj) i.toNatClampNeg (cutF (ln kj) v))))))]) [0] [1, 2, 3] (run_MV (As := [.int 1]) (rest := []) ⟨hx, hb, hml, hown, hts⟩ (c_X5_refused l D cI cJ cO b fa h w pc br ra q1 q2 q3 q4 fw ea sn mo rc tr 1) (cwV 1 hts gX5_put_X5_refused rfl rfl rfl (by decide +kernel) ⟨Nat.le_of_ble_eq_true rfl, Nat.le_of_ble_eq_true rfl⟩) hP hK hD [0] (by decide) rfl rfl rfl rfl rfl hl.1 rfl (Nat.le_of_ble_eq_true rfl) dX5_put_76 ⟨Nat.le_refl _, Nat.le_refl _⟩) hP hD hS hA rfl rfl (by decide) (by decide) (fun r_17 w_19 H locs q_18 hP hD hS => ?_)
            obtain ⟨rfl, rfl⟩ := q_18
            have hP : va_P D vwCl [(b 0, .inr (5, [.int 0, .int (nI h), .int (nI w), .int pc, .int br, .ref (b 1), .ref (b 2), .int ra, .int q1, .int q2, .int q3, .int q4, .ref (b 3), .int fw, .int ea, .int sn, .ref (b 4), .ref (b 5), .ref (b 6), .int mo, .int (nI rc), .ref (b 7), .ref (b 8), .ref (b 9), .ref (b 10), .ref (b 11), .ref (b 12), .ref (b 13), .ref (b 14), .int tr])), (b 11, .inl (cI, 4, .inl (zsF hs le))), (b 12, .inl (cI, 4, .inl ln)), (b 13, .inl (cI, 240, .inl (rwF (va_up rr kj (upd (rr kj) i.toNatClampNeg (cutF (ln kj) v))))))] H := hP.sub [3, 0, 1, 2] rfl
            have hD : va_D A [(b 0, .inr (5, [.int 0, .int (nI h), .int (nI w), .int pc, .int br, .ref (b 1), .ref (b 2), .int ra, .int q1, .int q2, .int q3, .int q4, .ref (b 3), .int fw, .int ea, .int sn, .ref (b 4), .ref (b 5), .ref (b 6), .int mo, .int (nI rc), .ref (b 7), .ref (b 8), .ref (b 9), .ref (b 10), .ref (b 11), .ref (b 12), .ref (b 13), .ref (b 14), .int tr])), (b 11, .inl (cI, 4, .inl (zsF hs le))), (b 12, .inl (cI, 4, .inl ln)), (b 13, .inl (cI, 240, .inl (rwF (va_up rr kj (upd (rr kj) i.toNatClampNeg (cutF (ln kj) v))))))] := hD.sub [3, 0, 1, 2] (by decide) rfl
            refine mi_ret (v := 1) hx hb hr hlk hP hD hS dX5_put_79 ?_
            rw [show puF hs le k i kj = _ from by rw [puF, if_pos c_3, if_neg hc1, if_pos hc2]]
            rw [show puS hs ln le rr k i v kj = _ from by rw [puS, if_pos c_3, if_neg hc1, if_pos hc2]]
            refine ⟨?_, rfl⟩
            rw [puR, if_pos c_3, if_neg hc1, if_pos hc2] <;> rfl
          · refine lv_iload_n hx hb dX5_put_67 rfl (lv_at hl 3 rfl) ?_
            refine lv_i2s (v := v.toInt16.toInt32) hx hb dX5_put_68 rfl ?_
            refine lv_goto (tgt := 73) hx hb dX5_put_69 (by decide) ?_
            refine k_iast hx hb hK hP hD hS 3 0 rfl rfl (j := (60 * kj) + i.toNatClampNeg) (vp_in_nI (show (60 * kj) + i.toNatClampNeg < 240 by omega) (by decide)) (nI_clamp (by omega)) dX5_put_73 (fun H locs hP hD hS => ?_)
            have hP : va_P D vwCl [(b 0, .inr (5, [.int fa, .int (nI h), .int (nI w), .int pc, .int br, .ref (b 1), .ref (b 2), .int ra, .int q1, .int q2, .int q3, .int q4, .ref (b 3), .int fw, .int ea, .int sn, .ref (b 4), .ref (b 5), .ref (b 6), .int mo, .int (nI rc), .ref (b 7), .ref (b 8), .ref (b 9), .ref (b 10), .ref (b 11), .ref (b 12), .ref (b 13), .ref (b 14), .int tr])), (b 11, .inl (cI, 4, .inl (zsF hs le))), (b 12, .inl (cI, 4, .inl ln)), (b 13, .inl (cI, 240, .inl (upd (rwF rr) ((60 * kj) + i.toNatClampNeg) v.toInt16.toInt32)))] H := hP
            have hD : va_D A [(b 0, .inr (5, [.int fa, .int (nI h), .int (nI w), .int pc, .int br, .ref (b 1), .ref (b 2), .int ra, .int q1, .int q2, .int q3, .int q4, .ref (b 3), .int fw, .int ea, .int sn, .ref (b 4), .ref (b 5), .ref (b 6), .int mo, .int (nI rc), .ref (b 7), .ref (b 8), .ref (b 9), .ref (b 10), .ref (b 11), .ref (b 12), .ref (b 13), .ref (b 14), .int tr])), (b 11, .inl (cI, 4, .inl (zsF hs le))), (b 12, .inl (cI, 4, .inl ln)), (b 13, .inl (cI, 240, .inl (upd (rwF rr) ((60 * kj) + i.toNatClampNeg) v.toInt16.toInt32)))] := hD
            rw [show (upd (rwF rr) ((60 * kj) + i.toNatClampNeg) v.toInt16.toInt32) = (rwF (va_up rr kj (upd (rr kj) i.toNatClampNeg (cutF (ln kj) v)))) from (by rw [rw_up _ (by omega)]; rw [show cutF (ln kj) v = _ from by rw [cutF, if_neg c_15, if_pos c_16]])] at hP hD
            refine lv_aload_n hx hb dX5_put_74 rfl (lv_at hl 0 rfl) ?_
            refine lv_iconst (v := 1) hx hb dX5_put_75 (by decide) ?_
            refine k_mi (wr := [(b 11, .inl (cI, 4, .inl (zsF hs le))), (b 12, .inl (cI, 4, .inl ln)), (b 13, .inl (cI, 240, .inl (rwF (va_up rr kj (upd (rr kj) i.toNatClampNeg (cutF (ln kj) v))))))]) [0] [1, 2, 3] (run_MV (As := [.int 1]) (rest := []) ⟨hx, hb, hml, hown, hts⟩ (c_X5_refused l D cI cJ cO b fa h w pc br ra q1 q2 q3 q4 fw ea sn mo rc tr 1) (cwV 1 hts gX5_put_X5_refused rfl rfl rfl (by decide +kernel) ⟨Nat.le_of_ble_eq_true rfl, Nat.le_of_ble_eq_true rfl⟩) hP hK hD [0] (by decide) rfl rfl rfl rfl rfl hl.1 rfl (Nat.le_of_ble_eq_true rfl) dX5_put_76 ⟨Nat.le_refl _, Nat.le_refl _⟩) hP hD hS hA rfl rfl (by decide) (by decide) (fun r_20 w_22 H locs q_21 hP hD hS => ?_)
            obtain ⟨rfl, rfl⟩ := q_21
            have hP : va_P D vwCl [(b 0, .inr (5, [.int 0, .int (nI h), .int (nI w), .int pc, .int br, .ref (b 1), .ref (b 2), .int ra, .int q1, .int q2, .int q3, .int q4, .ref (b 3), .int fw, .int ea, .int sn, .ref (b 4), .ref (b 5), .ref (b 6), .int mo, .int (nI rc), .ref (b 7), .ref (b 8), .ref (b 9), .ref (b 10), .ref (b 11), .ref (b 12), .ref (b 13), .ref (b 14), .int tr])), (b 11, .inl (cI, 4, .inl (zsF hs le))), (b 12, .inl (cI, 4, .inl ln)), (b 13, .inl (cI, 240, .inl (rwF (va_up rr kj (upd (rr kj) i.toNatClampNeg (cutF (ln kj) v))))))] H := hP.sub [3, 0, 1, 2] rfl
            have hD : va_D A [(b 0, .inr (5, [.int 0, .int (nI h), .int (nI w), .int pc, .int br, .ref (b 1), .ref (b 2), .int ra, .int q1, .int q2, .int q3, .int q4, .ref (b 3), .int fw, .int ea, .int sn, .ref (b 4), .ref (b 5), .ref (b 6), .int mo, .int (nI rc), .ref (b 7), .ref (b 8), .ref (b 9), .ref (b 10), .ref (b 11), .ref (b 12), .ref (b 13), .ref (b 14), .int tr])), (b 11, .inl (cI, 4, .inl (zsF hs le))), (b 12, .inl (cI, 4, .inl ln)), (b 13, .inl (cI, 240, .inl (rwF (va_up rr kj (upd (rr kj) i.toNatClampNeg (cutF (ln kj) v))))))] := hD.sub [3, 0, 1, 2] (by decide) rfl
            refine mi_ret (v := 1) hx hb hr hlk hP hD hS dX5_put_79 ?_
            rw [show puF hs le k i kj = _ from by rw [puF, if_pos c_3, if_neg hc1, if_pos hc2]]
            rw [show puS hs ln le rr k i v kj = _ from by rw [puS, if_pos c_3, if_neg hc1, if_pos hc2]]
            refine ⟨?_, rfl⟩
            rw [puR, if_pos c_3, if_neg hc1, if_pos hc2] <;> rfl
        · refine lv_iload_n hx hb dX5_put_52 rfl (lv_at hl 3 rfl) ?_
          refine lv_i2b (v := v.toInt8.toInt32) hx hb dX5_put_53 rfl ?_
          refine lv_goto (tgt := 73) hx hb dX5_put_54 (by decide) ?_
          refine k_iast hx hb hK hP hD hS 3 0 rfl rfl (j := (60 * kj) + i.toNatClampNeg) (vp_in_nI (show (60 * kj) + i.toNatClampNeg < 240 by omega) (by decide)) (nI_clamp (by omega)) dX5_put_73 (fun H locs hP hD hS => ?_)
          have hP : va_P D vwCl [(b 0, .inr (5, [.int fa, .int (nI h), .int (nI w), .int pc, .int br, .ref (b 1), .ref (b 2), .int ra, .int q1, .int q2, .int q3, .int q4, .ref (b 3), .int fw, .int ea, .int sn, .ref (b 4), .ref (b 5), .ref (b 6), .int mo, .int (nI rc), .ref (b 7), .ref (b 8), .ref (b 9), .ref (b 10), .ref (b 11), .ref (b 12), .ref (b 13), .ref (b 14), .int tr])), (b 11, .inl (cI, 4, .inl (zsF hs le))), (b 12, .inl (cI, 4, .inl ln)), (b 13, .inl (cI, 240, .inl (upd (rwF rr) ((60 * kj) + i.toNatClampNeg) v.toInt8.toInt32)))] H := hP
          have hD : va_D A [(b 0, .inr (5, [.int fa, .int (nI h), .int (nI w), .int pc, .int br, .ref (b 1), .ref (b 2), .int ra, .int q1, .int q2, .int q3, .int q4, .ref (b 3), .int fw, .int ea, .int sn, .ref (b 4), .ref (b 5), .ref (b 6), .int mo, .int (nI rc), .ref (b 7), .ref (b 8), .ref (b 9), .ref (b 10), .ref (b 11), .ref (b 12), .ref (b 13), .ref (b 14), .int tr])), (b 11, .inl (cI, 4, .inl (zsF hs le))), (b 12, .inl (cI, 4, .inl ln)), (b 13, .inl (cI, 240, .inl (upd (rwF rr) ((60 * kj) + i.toNatClampNeg) v.toInt8.toInt32)))] := hD
          rw [show (upd (rwF rr) ((60 * kj) + i.toNatClampNeg) v.toInt8.toInt32) = (rwF (va_up rr kj (upd (rr kj) i.toNatClampNeg (cutF (ln kj) v)))) from (by rw [rw_up _ (by omega)]; rw [show cutF (ln kj) v = _ from by rw [cutF, if_pos c_15]])] at hP hD
          refine lv_aload_n hx hb dX5_put_74 rfl (lv_at hl 0 rfl) ?_
          refine lv_iconst (v := 1) hx hb dX5_put_75 (by decide) ?_
          refine k_mi (wr := [(b 11, .inl (cI, 4, .inl (zsF hs le))), (b 12, .inl (cI, 4, .inl ln)), (b 13, .inl (cI, 240, .inl (rwF (va_up rr kj (upd (rr kj) i.toNatClampNeg (cutF (ln kj) v))))))]) [0] [1, 2, 3] (run_MV (As := [.int 1]) (rest := []) ⟨hx, hb, hml, hown, hts⟩ (c_X5_refused l D cI cJ cO b fa h w pc br ra q1 q2 q3 q4 fw ea sn mo rc tr 1) (cwV 1 hts gX5_put_X5_refused rfl rfl rfl (by decide +kernel) ⟨Nat.le_of_ble_eq_true rfl, Nat.le_of_ble_eq_true rfl⟩) hP hK hD [0] (by decide) rfl rfl rfl rfl rfl hl.1 rfl (Nat.le_of_ble_eq_true rfl) dX5_put_76 ⟨Nat.le_refl _, Nat.le_refl _⟩) hP hD hS hA rfl rfl (by decide) (by decide) (fun r_23 w_25 H locs q_24 hP hD hS => ?_)
          obtain ⟨rfl, rfl⟩ := q_24
          have hP : va_P D vwCl [(b 0, .inr (5, [.int 0, .int (nI h), .int (nI w), .int pc, .int br, .ref (b 1), .ref (b 2), .int ra, .int q1, .int q2, .int q3, .int q4, .ref (b 3), .int fw, .int ea, .int sn, .ref (b 4), .ref (b 5), .ref (b 6), .int mo, .int (nI rc), .ref (b 7), .ref (b 8), .ref (b 9), .ref (b 10), .ref (b 11), .ref (b 12), .ref (b 13), .ref (b 14), .int tr])), (b 11, .inl (cI, 4, .inl (zsF hs le))), (b 12, .inl (cI, 4, .inl ln)), (b 13, .inl (cI, 240, .inl (rwF (va_up rr kj (upd (rr kj) i.toNatClampNeg (cutF (ln kj) v))))))] H := hP.sub [3, 0, 1, 2] rfl
          have hD : va_D A [(b 0, .inr (5, [.int 0, .int (nI h), .int (nI w), .int pc, .int br, .ref (b 1), .ref (b 2), .int ra, .int q1, .int q2, .int q3, .int q4, .ref (b 3), .int fw, .int ea, .int sn, .ref (b 4), .ref (b 5), .ref (b 6), .int mo, .int (nI rc), .ref (b 7), .ref (b 8), .ref (b 9), .ref (b 10), .ref (b 11), .ref (b 12), .ref (b 13), .ref (b 14), .int tr])), (b 11, .inl (cI, 4, .inl (zsF hs le))), (b 12, .inl (cI, 4, .inl ln)), (b 13, .inl (cI, 240, .inl (rwF (va_up rr kj (upd (rr kj) i.toNatClampNeg (cutF (ln kj) v))))))] := hD.sub [3, 0, 1, 2] (by decide) rfl
          refine mi_ret (v := 1) hx hb hr hlk hP hD hS dX5_put_79 ?_
          rw [show puF hs le k i kj = _ from by rw [puF, if_pos c_3, if_neg hc1, if_pos hc2]]
          rw [show puS hs ln le rr k i v kj = _ from by rw [puS, if_pos c_3, if_neg hc1, if_pos hc2]]
          refine ⟨?_, rfl⟩
          rw [puR, if_pos c_3, if_neg hc1, if_pos hc2] <;> rfl
      · exact absurd c_14 (by decide)
    · have hcv : ncF hs le i kj = 3 := hc3
      refine lv_aload_n hx hb dX5_put_13 rfl (lv_at hl 0 rfl) ?_
      refine lv_iload_n hx hb dX5_put_14 rfl (lv_at hl 1 rfl) ?_
      refine lv_iload_n hx hb dX5_put_15 rfl (lv_at hl 2 rfl) ?_
      refine k_ri (run_RV (As := [.int k, .int i]) (rest := []) ⟨hx, hb, hml, hown, hts⟩ (c_X5_noCell l D cI cJ cO b fa h w pc br ra q1 q2 q3 q4 fw ea sn mo rc tr hs le k i kj hle (inN.vp c_3 (by omega)) hkj) (cwV 2 hts gX5_put_X5_noCell rfl rfl rfl (by decide +kernel) ⟨Nat.le_of_ble_eq_true rfl, Nat.le_of_ble_eq_true rfl⟩) hP hK [0, 1] rfl rfl rfl rfl rfl hl.1 rfl (Nat.le_of_ble_eq_true rfl) dX5_put_16 ⟨Nat.le_refl _, Nat.le_refl _⟩) (fun r_26 q_27 => ?_)
      obtain rfl := q_27
      refine k_top (y := 3) hcv ?_
      refine lv_if_le (tgt := 33) hx hb dX5_put_19 (by decide) (fun c_28 => ?_) (fun c_28 => ?_)
      · exact absurd c_28 (by decide)
      · refine lv_aload_n hx hb dX5_put_22 rfl (lv_at hl 0 rfl) ?_
        refine lv_aload_n hx hb dX5_put_23 rfl (lv_at hl 0 rfl) ?_
        refine lv_iload_n hx hb dX5_put_24 rfl (lv_at hl 1 rfl) ?_
        refine lv_iload_n hx hb dX5_put_25 rfl (lv_at hl 2 rfl) ?_
        refine k_ri (run_RV (As := [.int k, .int i]) (rest := [.ref (b 0)]) ⟨hx, hb, hml, hown, hts⟩ (c_X5_noCell l D cI cJ cO b fa h w pc br ra q1 q2 q3 q4 fw ea sn mo rc tr hs le k i kj hle (inN.vp c_3 (by omega)) hkj) (cwV 2 hts gX5_put_X5_noCell rfl rfl rfl (by decide +kernel) ⟨Nat.le_of_ble_eq_true rfl, Nat.le_of_ble_eq_true rfl⟩) hP hK [0, 1] rfl rfl rfl rfl rfl hl.1 rfl (Nat.le_of_ble_eq_true rfl) dX5_put_26 ⟨Nat.le_refl _, Nat.le_refl _⟩) (fun r_29 q_30 => ?_)
        obtain rfl := q_30
        refine k_top (y := 3) hcv ?_
        refine k_mi (wr := [(b 11, .inl (cI, 4, .inl (zsF hs le))), (b 12, .inl (cI, 4, .inl ln)), (b 13, .inl (cI, 240, .inl (rwF rr)))]) [0] [1, 2, 3] (run_MV (As := [.int 3]) (rest := []) ⟨hx, hb, hml, hown, hts⟩ (c_X5_failed l D cI cJ cO b fa h w pc br ra q1 q2 q3 q4 fw ea sn mo rc tr 3) (cwV 1 hts gX5_put_X5_failed rfl rfl rfl (by decide +kernel) ⟨Nat.le_of_ble_eq_true rfl, Nat.le_of_ble_eq_true rfl⟩) hP hK hD [0] (by decide) rfl rfl rfl rfl rfl hl.1 rfl (Nat.le_of_ble_eq_true rfl) dX5_put_29 ⟨Nat.le_refl _, Nat.le_refl _⟩) hP hD hS hA rfl rfl (by decide) (by decide) (fun r_31 w_33 H locs q_32 hP hD hS => ?_)
        obtain ⟨rfl, rfl⟩ := q_32
        have hP : va_P D vwCl [(b 0, .inr (5, [.int 3, .int (nI h), .int (nI w), .int pc, .int br, .ref (b 1), .ref (b 2), .int ra, .int q1, .int q2, .int q3, .int q4, .ref (b 3), .int fw, .int ea, .int sn, .ref (b 4), .ref (b 5), .ref (b 6), .int mo, .int (nI rc), .ref (b 7), .ref (b 8), .ref (b 9), .ref (b 10), .ref (b 11), .ref (b 12), .ref (b 13), .ref (b 14), .int tr])), (b 11, .inl (cI, 4, .inl (zsF hs le))), (b 12, .inl (cI, 4, .inl ln)), (b 13, .inl (cI, 240, .inl (rwF rr)))] H := hP.sub [3, 0, 1, 2] rfl
        have hD : va_D A [(b 0, .inr (5, [.int 3, .int (nI h), .int (nI w), .int pc, .int br, .ref (b 1), .ref (b 2), .int ra, .int q1, .int q2, .int q3, .int q4, .ref (b 3), .int fw, .int ea, .int sn, .ref (b 4), .ref (b 5), .ref (b 6), .int mo, .int (nI rc), .ref (b 7), .ref (b 8), .ref (b 9), .ref (b 10), .ref (b 11), .ref (b 12), .ref (b 13), .ref (b 14), .int tr])), (b 11, .inl (cI, 4, .inl (zsF hs le))), (b 12, .inl (cI, 4, .inl ln)), (b 13, .inl (cI, 240, .inl (rwF rr)))] := hD.sub [3, 0, 1, 2] (by decide) rfl
        refine mi_ret (v := (-10 - 3)) hx hb hr hlk hP hD hS dX5_put_32 ?_
        rw [show puF hs le k i kj = _ from by rw [puF, if_pos c_3, if_neg hc1, if_neg hc2]]
        rw [show puS hs ln le rr k i v kj = _ from by rw [puS, if_pos c_3, if_neg hc1, if_neg hc2]]
        refine ⟨?_, rfl⟩
        rw [puR, if_pos c_3, if_neg hc1, if_neg hc2] <;> rfl
  · have c_3 := b2_t c_3
    refine lv_aload_n hx hb dX5_put_7 rfl (lv_at hl 0 rfl) ?_
    refine lv_iconst (v := (-1)) hx hb dX5_put_8 (by decide) ?_
    refine k_mi (wr := [(b 11, .inl (cI, 4, .inl (zsF hs le))), (b 12, .inl (cI, 4, .inl ln)), (b 13, .inl (cI, 240, .inl (rwF rr)))]) [0] [1, 2, 3] (run_MV (As := [.int (-1)]) (rest := []) ⟨hx, hb, hml, hown, hts⟩ (c_X5_refused l D cI cJ cO b fa h w pc br ra q1 q2 q3 q4 fw ea sn mo rc tr (-1)) (cwV 1 hts gX5_put_X5_refused rfl rfl rfl (by decide +kernel) ⟨Nat.le_of_ble_eq_true rfl, Nat.le_of_ble_eq_true rfl⟩) hP hK hD [0] (by decide) rfl rfl rfl rfl rfl hl.1 rfl (Nat.le_of_ble_eq_true rfl) dX5_put_9 ⟨Nat.le_refl _, Nat.le_refl _⟩) hP hD hS hA rfl rfl (by decide) (by decide) (fun r_34 w_36 H locs q_35 hP hD hS => ?_)
    obtain ⟨rfl, rfl⟩ := q_35
    have hP : va_P D vwCl [(b 0, .inr (5, [.int 0, .int (nI h), .int (nI w), .int pc, .int br, .ref (b 1), .ref (b 2), .int ra, .int q1, .int q2, .int q3, .int q4, .ref (b 3), .int fw, .int ea, .int sn, .ref (b 4), .ref (b 5), .ref (b 6), .int mo, .int (nI rc), .ref (b 7), .ref (b 8), .ref (b 9), .ref (b 10), .ref (b 11), .ref (b 12), .ref (b 13), .ref (b 14), .int tr])), (b 11, .inl (cI, 4, .inl (zsF hs le))), (b 12, .inl (cI, 4, .inl ln)), (b 13, .inl (cI, 240, .inl (rwF rr)))] H := hP.sub [3, 0, 1, 2] rfl
    have hD : va_D A [(b 0, .inr (5, [.int 0, .int (nI h), .int (nI w), .int pc, .int br, .ref (b 1), .ref (b 2), .int ra, .int q1, .int q2, .int q3, .int q4, .ref (b 3), .int fw, .int ea, .int sn, .ref (b 4), .ref (b 5), .ref (b 6), .int mo, .int (nI rc), .ref (b 7), .ref (b 8), .ref (b 9), .ref (b 10), .ref (b 11), .ref (b 12), .ref (b 13), .ref (b 14), .int tr])), (b 11, .inl (cI, 4, .inl (zsF hs le))), (b 12, .inl (cI, 4, .inl ln)), (b 13, .inl (cI, 240, .inl (rwF rr)))] := hD.sub [3, 0, 1, 2] (by decide) rfl
    refine mi_ret (v := (-1)) hx hb hr hlk hP hD hS dX5_put_12 ?_
    rw [show puF hs le k i kj = _ from by rw [puF, if_neg c_3]]
    rw [show puS hs ln le rr k i v kj = _ from by rw [puS, if_neg c_3]]
    refine ⟨?_, rfl⟩
    rw [puR, if_neg c_3] <;> rfl
theorem iwX5_cell_X5 : ∀ x ∈ wsX50, x ∈ wsX5_cell := by decide +kernel
set_option maxRecDepth 100000 in
set_option maxHeartbeats 4000000 in
/-- X5_cell -/
theorem c_X5_cell (l : Launch) (D : va_G) (cI cJ cO : ClassId) (b : Nat → Nat) (fa : Int32) (h : Nat) (w : Nat) (pc : Int32) (br : Int32) (ra : Int32) (q1 : Int32) (q2 : Int32) (q3 : Int32) (q4 : Int32) (fw : Int32) (ea : Int32) (sn : Int32) (mo : Int32) (rc : Nat) (tr : Int32) (hs : Nat → Int32) (ln : Nat → Int32) (le : Nat → Nat) (rr : Nat → Nat → Int32) (k : Int32) (i : Int32) (x : Int32) (kj : Nat) (hle : ∀ z, z < 4 → le z ≤ 60) (hkj : k.toNatClampNeg = kj) : MG l yX5_cell wsX5_cell 2 47 0 0 D [(cI, .int), (cJ, .long), (cO, .object "ShornHill$Sheet")] [.ref (b 0), .int k, .int i, .int x] [(b 0, .inr (5, [.int fa, .int (nI h), .int (nI w), .int pc, .int br, .ref (b 1), .ref (b 2), .int ra, .int q1, .int q2, .int q3, .int q4, .ref (b 3), .int fw, .int ea, .int sn, .ref (b 4), .ref (b 5), .ref (b 6), .int mo, .int (nI rc), .ref (b 7), .ref (b 8), .ref (b 9), .ref (b 10), .ref (b 11), .ref (b 12), .ref (b 13), .ref (b 14), .int tr])), (b 11, .inl (cI, 4, .inl (zsF hs le))), (b 12, .inl (cI, 4, .inl ln)), (b 13, .inl (cI, 240, .inl (rwF rr)))] (QL D (fun (r : Int64) (w1 : va_W) => r = ceR hs ln le rr k i x kj ∧ w1 = [(b 0, .inr (5, [.int (ceF hs ln le k i x kj), .int (nI h), .int (nI w), .int pc, .int br, .ref (b 1), .ref (b 2), .int ra, .int q1, .int q2, .int q3, .int q4, .ref (b 3), .int fw, .int ea, .int sn, .ref (b 4), .ref (b 5), .ref (b 6), .int mo, .int (nI rc), .ref (b 7), .ref (b 8), .ref (b 9), .ref (b 10), .ref (b 11), .ref (b 12), .ref (b 13), .ref (b 14), .int tr])), (b 11, .inl (cI, 4, .inl (zsF hs le))), (b 12, .inl (cI, 4, .inl ln)), (b 13, .inl (cI, 240, .inl (rwF rr)))])) := by
  refine MG.of (cc := cX5_cell) (maxL := 4) (ret := (some .long)) (by decide) rfl (Nat.le_of_ble_eq_true rfl) ?_
  intro P_ E_ S_ M_ B_ T_ K_ hx hb hml hr hts hown hlk hnm A hA hP hK hD hS ls hl
  have hl : lv_has ls 4 [(0, .ref (b 0)), (1, .int k), (2, .int i), (3, .int x)] := hl
  have hin5 : ∀ x ∈ u_ws RX5 TX5 30, x ∈ wsX5_cell := iwX5_cell_X5
  refine lv_aload_n hx hb dX5_cell_0 rfl (lv_at hl 0 rfl) ?_
  refine lv_iconst (v := 0) hx hb dX5_cell_1 (by decide) ?_
  refine va_put (D := D) (ci := 5) (v := .int 0) (ty := .int) (C := RX5) (T := TX5) (N := 30) hx hb hts hin5 tyX5 tyX5_ok nmX5 hown hK.1 hP hD hS 0 rfl rfl 0 (by decide) (hts _ (List.mem_of_getElem? (i := 1) rfl)) (fun _ h9 => h9) rfl (by decide +kernel) rfl rfl (Nat.le_of_ble_eq_true rfl) dX5_cell_2 (fun H locs hP hD hS => ?_)
  have hP : va_P D vwCl [(b 0, .inr (5, [.int 0, .int (nI h), .int (nI w), .int pc, .int br, .ref (b 1), .ref (b 2), .int ra, .int q1, .int q2, .int q3, .int q4, .ref (b 3), .int fw, .int ea, .int sn, .ref (b 4), .ref (b 5), .ref (b 6), .int mo, .int (nI rc), .ref (b 7), .ref (b 8), .ref (b 9), .ref (b 10), .ref (b 11), .ref (b 12), .ref (b 13), .ref (b 14), .int tr])), (b 11, .inl (cI, 4, .inl (zsF hs le))), (b 12, .inl (cI, 4, .inl ln)), (b 13, .inl (cI, 240, .inl (rwF rr)))] H := hP
  have hD : va_D A [(b 0, .inr (5, [.int 0, .int (nI h), .int (nI w), .int pc, .int br, .ref (b 1), .ref (b 2), .int ra, .int q1, .int q2, .int q3, .int q4, .ref (b 3), .int fw, .int ea, .int sn, .ref (b 4), .ref (b 5), .ref (b 6), .int mo, .int (nI rc), .ref (b 7), .ref (b 8), .ref (b 9), .ref (b 10), .ref (b 11), .ref (b 12), .ref (b 13), .ref (b 14), .int tr])), (b 11, .inl (cI, 4, .inl (zsF hs le))), (b 12, .inl (cI, 4, .inl ln)), (b 13, .inl (cI, 240, .inl (rwF rr)))] := hD
  refine lv_iload_n hx hb dX5_cell_5 rfl (lv_at hl 1 rfl) ?_
  refine k_ri (run_RS (As := [.int k]) (rest := []) ⟨hx, hb, hml, hown, hts⟩ (c_X5_noSheet l D cI cJ cO k) (va_cwS 1 hts gX5_cell_X5_noSheet rfl rfl rfl (by decide +kernel) ⟨Nat.le_of_ble_eq_true rfl, Nat.le_of_ble_eq_true rfl⟩) hP hK [] rfl rfl hl.1 rfl (Nat.le_of_ble_eq_true rfl) dX5_cell_6 ⟨Nat.le_refl _, Nat.le_refl _⟩) (fun r_1 q_2 => ?_)
  obtain rfl := q_2
  refine lv_if_ne (tgt := 24) hx hb dX5_cell_9 (by decide) (fun c_3 => ?_) (fun c_3 => ?_)
  · have c_3 := b2_t c_3
    refine k_rl (run_RS (As := []) (rest := []) ⟨hx, hb, hml, hown, hts⟩ (c_X5_lost l D cI cJ cO) (va_cwS 0 hts gX5_cell_X5_lost rfl rfl rfl (by decide +kernel) ⟨Nat.le_of_ble_eq_true rfl, Nat.le_of_ble_eq_true rfl⟩) hP hK [] rfl rfl hl.1 rfl (Nat.le_of_ble_eq_true rfl) dX5_cell_24 ⟨Nat.le_refl _, Nat.le_refl _⟩) (fun r_4 q_5 => ?_)
    obtain rfl := q_5
    refine ml_ret hx hb hr hlk hP hD hS dX5_cell_27 ?_
    rw [show ceF hs ln le k i x kj = _ from by rw [ceF, if_neg c_3]]
    refine ⟨?_, rfl⟩
    rw [ceR, if_neg c_3] <;> rfl
  · have c_3 := Decidable.not_not.mp (b2_f c_3)
    refine lv_iload_n hx hb dX5_cell_12 rfl (lv_at hl 3 rfl) ?_
    refine lv_i2l (v := x.toInt64) hx hb dX5_cell_13 rfl ?_
    refine lv_lconst (v := 0) hx hb dX5_cell_14 (by decide) ?_
    refine lv_ldc2 (v := 2) hx hb hown (hts _ (List.mem_of_getElem? (i := 2) rfl)) dX5_cell_15 ?_
    refine k_ri (run_RS (As := [.long x.toInt64, .long 0, .long 2]) (rest := []) ⟨hx, hb, hml, hown, hts⟩ (c_X5_in l D cI cJ cO x.toInt64 0 2) (va_cwS 3 hts gX5_cell_X5_in rfl rfl rfl (by decide +kernel) ⟨Nat.le_of_ble_eq_true rfl, Nat.le_of_ble_eq_true rfl⟩) hP hK [] rfl rfl hl.1 rfl (Nat.le_of_ble_eq_true rfl) dX5_cell_18 ⟨Nat.le_refl _, Nat.le_refl _⟩) (fun r_6 q_7 => ?_)
    obtain rfl := q_7
    refine k_top (y := (b2 (inN x 3))) (b2_cong (in_lit rfl rfl)) ?_
    refine lv_if_ne (tgt := 28) hx hb dX5_cell_21 (by decide) (fun c_8 => ?_) (fun c_8 => ?_)
    · have c_8 := b2_t c_8
      have h4_kj : kj < 4 := by rw [← hkj]; exact (show inN k 4 by assumption).lt
      have h60_kj := hle kj h4_kj
      have e_kj : k = nI kj := by rw [← hkj]; exact (show inN k 4 by assumption).eq
      rcases (show hs kj = 0 ∨ (¬ hs kj = 0 ∧ ¬ ln kj = x) ∨ (¬ hs kj = 0 ∧ ln kj = x ∧ inN i (le kj)) ∨ (¬ hs kj = 0 ∧ ln kj = x ∧ ¬ inN i (le kj)) from if hc1 : hs kj = 0 then Or.inl hc1 else if hl1 : ln kj = x then if hc2 : inN i (le kj) then Or.inr (Or.inr (Or.inl ⟨hc1, hl1, hc2⟩)) else Or.inr (Or.inr (Or.inr ⟨hc1, hl1, hc2⟩)) else Or.inr (Or.inl ⟨hc1, hl1⟩)) with hc1 | ⟨hc1, hl1⟩ | ⟨hc1, hl1, hc2⟩ | ⟨hc1, hl1, hc2⟩
      · have hfl : fltF (hs kj) (ln kj) x = 1 := by rw [fltF, if_pos hc1]
        have hf0 : ¬ fltF (hs kj) (ln kj) x = 0 := fun z => absurd (hfl.symm.trans z) (by decide)
        have hzl : (zsF hs le) kj < 0 := (zs_lt h60_kj).mpr hc1
        have hcv : ncF hs le i kj = 1 := by rw [ncF, if_pos hc1]
        refine lv_aload_n hx hb dX5_cell_28 rfl (lv_at hl 0 rfl) ?_
        refine va_get (D := D) (ci := 5) (v := .ref (b 11)) (C := RX5) (T := TX5) (N := 30) hx hb hts hin5 hown hK.1 hP 0 rfl rfl 25 (by decide) (hts _ (List.mem_of_getElem? (i := 3) rfl)) (fun _ h9 => h9) rfl dX5_cell_29 ?_
        refine lv_iload_n hx hb dX5_cell_32 rfl (lv_at hl 1 rfl) ?_
        refine k_iald hx hb hK hP 1 0 rfl rfl (j := kj) (inN.vp c_3 (by omega)) hkj dX5_cell_33 ?_
        refine lv_if_lt (tgt := 53) hx hb dX5_cell_34 (by decide) (fun c_9 => ?_) (fun c_9 => ?_)
        · refine lv_aload_n hx hb dX5_cell_53 rfl (lv_at hl 0 rfl) ?_
          refine lv_iload_n hx hb dX5_cell_54 rfl (lv_at hl 1 rfl) ?_
          refine lv_iload_n hx hb dX5_cell_55 rfl (lv_at hl 2 rfl) ?_
          refine k_ri (run_RV (As := [.int k, .int i]) (rest := []) ⟨hx, hb, hml, hown, hts⟩ (c_X5_noCell l D cI cJ cO b 0 h w pc br ra q1 q2 q3 q4 fw ea sn mo rc tr hs le k i kj hle (inN.vp c_3 (by omega)) hkj) (cwV 2 hts gX5_cell_X5_noCell rfl rfl rfl (by decide +kernel) ⟨Nat.le_of_ble_eq_true rfl, Nat.le_of_ble_eq_true rfl⟩) hP hK [0, 1] rfl rfl rfl rfl rfl hl.1 rfl (Nat.le_of_ble_eq_true rfl) dX5_cell_56 ⟨Nat.le_refl _, Nat.le_refl _⟩) (fun r_10 q_11 => ?_)
          obtain rfl := q_11
          refine k_top (y := 1) hcv ?_
          refine lv_if_le (tgt := 75) hx hb dX5_cell_59 (by decide) (fun c_12 => ?_) (fun c_12 => ?_)
          · exact absurd c_12 (by decide)
          · refine lv_aload_n hx hb dX5_cell_62 rfl (lv_at hl 0 rfl) ?_
            refine lv_aload_n hx hb dX5_cell_63 rfl (lv_at hl 0 rfl) ?_
            refine lv_iload_n hx hb dX5_cell_64 rfl (lv_at hl 1 rfl) ?_
            refine lv_iload_n hx hb dX5_cell_65 rfl (lv_at hl 2 rfl) ?_
            refine k_ri (run_RV (As := [.int k, .int i]) (rest := [.ref (b 0)]) ⟨hx, hb, hml, hown, hts⟩ (c_X5_noCell l D cI cJ cO b 0 h w pc br ra q1 q2 q3 q4 fw ea sn mo rc tr hs le k i kj hle (inN.vp c_3 (by omega)) hkj) (cwV 2 hts gX5_cell_X5_noCell rfl rfl rfl (by decide +kernel) ⟨Nat.le_of_ble_eq_true rfl, Nat.le_of_ble_eq_true rfl⟩) hP hK [0, 1] rfl rfl rfl rfl rfl hl.1 rfl (Nat.le_of_ble_eq_true rfl) dX5_cell_66 ⟨Nat.le_refl _, Nat.le_refl _⟩) (fun r_13 q_14 => ?_)
            obtain rfl := q_14
            refine k_top (y := 1) hcv ?_
            refine k_ml (wr := [(b 11, .inl (cI, 4, .inl (zsF hs le))), (b 12, .inl (cI, 4, .inl ln)), (b 13, .inl (cI, 240, .inl (rwF rr)))]) [0] [1, 2, 3] (run_MV (As := [.int 1]) (rest := []) ⟨hx, hb, hml, hown, hts⟩ (c_X5_failedLong l D cI cJ cO b 0 h w pc br ra q1 q2 q3 q4 fw ea sn mo rc tr 1) (cwV 1 hts gX5_cell_X5_failedLong rfl rfl rfl (by decide +kernel) ⟨Nat.le_of_ble_eq_true rfl, Nat.le_of_ble_eq_true rfl⟩) hP hK hD [0] (by decide) rfl rfl rfl rfl rfl hl.1 rfl (Nat.le_of_ble_eq_true rfl) dX5_cell_69 ⟨Nat.le_refl _, Nat.le_refl _⟩) hP hD hS hA rfl rfl (by decide) (by decide) (fun r_15 w_17 H locs q_16 hP hD hS => ?_)
            obtain ⟨rfl, rfl⟩ := q_16
            have hP : va_P D vwCl [(b 0, .inr (5, [.int 1, .int (nI h), .int (nI w), .int pc, .int br, .ref (b 1), .ref (b 2), .int ra, .int q1, .int q2, .int q3, .int q4, .ref (b 3), .int fw, .int ea, .int sn, .ref (b 4), .ref (b 5), .ref (b 6), .int mo, .int (nI rc), .ref (b 7), .ref (b 8), .ref (b 9), .ref (b 10), .ref (b 11), .ref (b 12), .ref (b 13), .ref (b 14), .int tr])), (b 11, .inl (cI, 4, .inl (zsF hs le))), (b 12, .inl (cI, 4, .inl ln)), (b 13, .inl (cI, 240, .inl (rwF rr)))] H := hP.sub [3, 0, 1, 2] rfl
            have hD : va_D A [(b 0, .inr (5, [.int 1, .int (nI h), .int (nI w), .int pc, .int br, .ref (b 1), .ref (b 2), .int ra, .int q1, .int q2, .int q3, .int q4, .ref (b 3), .int fw, .int ea, .int sn, .ref (b 4), .ref (b 5), .ref (b 6), .int mo, .int (nI rc), .ref (b 7), .ref (b 8), .ref (b 9), .ref (b 10), .ref (b 11), .ref (b 12), .ref (b 13), .ref (b 14), .int tr])), (b 11, .inl (cI, 4, .inl (zsF hs le))), (b 12, .inl (cI, 4, .inl ln)), (b 13, .inl (cI, 240, .inl (rwF rr)))] := hD.sub [3, 0, 1, 2] (by decide) rfl
            refine lv_goto (tgt := 87) hx hb dX5_cell_72 (by decide) ?_
            refine ml_ret hx hb hr hlk hP hD hS dX5_cell_87 ?_
            rw [show ceF hs ln le k i x kj = 1 from by rw [ceF, if_pos c_3, if_pos c_8, if_neg hf0]; exact hfl]
            refine ⟨?_, rfl⟩
            rw [ceR, if_pos c_3, if_pos c_8, if_neg hf0] <;> rfl
        · exact absurd hzl c_9
      · have hfl : fltF (hs kj) (ln kj) x = 2 := by rw [fltF, if_neg hc1, if_neg hl1]
        have hf0 : ¬ fltF (hs kj) (ln kj) x = 0 := fun z => absurd (hfl.symm.trans z) (by decide)
        have hzl : ¬ (zsF hs le) kj < 0 := fun z => hc1 ((zs_lt h60_kj).mp z)
        refine lv_aload_n hx hb dX5_cell_28 rfl (lv_at hl 0 rfl) ?_
        refine va_get (D := D) (ci := 5) (v := .ref (b 11)) (C := RX5) (T := TX5) (N := 30) hx hb hts hin5 hown hK.1 hP 0 rfl rfl 25 (by decide) (hts _ (List.mem_of_getElem? (i := 3) rfl)) (fun _ h9 => h9) rfl dX5_cell_29 ?_
        refine lv_iload_n hx hb dX5_cell_32 rfl (lv_at hl 1 rfl) ?_
        refine k_iald hx hb hK hP 1 0 rfl rfl (j := kj) (inN.vp c_3 (by omega)) hkj dX5_cell_33 ?_
        refine lv_if_lt (tgt := 53) hx hb dX5_cell_34 (by decide) (fun c_18 => ?_) (fun c_18 => ?_)
        · exact absurd c_18 hzl
        · refine lv_aload_n hx hb dX5_cell_37 rfl (lv_at hl 0 rfl) ?_
          refine va_get (D := D) (ci := 5) (v := .ref (b 12)) (C := RX5) (T := TX5) (N := 30) hx hb hts hin5 hown hK.1 hP 0 rfl rfl 26 (by decide) (hts _ (List.mem_of_getElem? (i := 4) rfl)) (fun _ h9 => h9) rfl dX5_cell_38 ?_
          refine lv_iload_n hx hb dX5_cell_41 rfl (lv_at hl 1 rfl) ?_
          refine k_iald hx hb hK hP 2 0 rfl rfl (j := kj) (inN.vp c_3 (by omega)) hkj dX5_cell_42 ?_
          refine lv_iload_n hx hb dX5_cell_43 rfl (lv_at hl 3 rfl) ?_
          refine lv_icmp_eq (tgt := 53) hx hb dX5_cell_44 (by decide) (fun c_19 => ?_) (fun c_19 => ?_)
          · exact absurd c_19 hl1
          · refine lv_aload_n hx hb dX5_cell_47 rfl (lv_at hl 0 rfl) ?_
            refine lv_iconst (v := 2) hx hb dX5_cell_48 (by decide) ?_
            refine k_ml (wr := [(b 11, .inl (cI, 4, .inl (zsF hs le))), (b 12, .inl (cI, 4, .inl ln)), (b 13, .inl (cI, 240, .inl (rwF rr)))]) [0] [1, 2, 3] (run_MV (As := [.int 2]) (rest := []) ⟨hx, hb, hml, hown, hts⟩ (c_X5_failedLong l D cI cJ cO b 0 h w pc br ra q1 q2 q3 q4 fw ea sn mo rc tr 2) (cwV 1 hts gX5_cell_X5_failedLong rfl rfl rfl (by decide +kernel) ⟨Nat.le_of_ble_eq_true rfl, Nat.le_of_ble_eq_true rfl⟩) hP hK hD [0] (by decide) rfl rfl rfl rfl rfl hl.1 rfl (Nat.le_of_ble_eq_true rfl) dX5_cell_49 ⟨Nat.le_refl _, Nat.le_refl _⟩) hP hD hS hA rfl rfl (by decide) (by decide) (fun r_20 w_22 H locs q_21 hP hD hS => ?_)
            obtain ⟨rfl, rfl⟩ := q_21
            have hP : va_P D vwCl [(b 0, .inr (5, [.int 2, .int (nI h), .int (nI w), .int pc, .int br, .ref (b 1), .ref (b 2), .int ra, .int q1, .int q2, .int q3, .int q4, .ref (b 3), .int fw, .int ea, .int sn, .ref (b 4), .ref (b 5), .ref (b 6), .int mo, .int (nI rc), .ref (b 7), .ref (b 8), .ref (b 9), .ref (b 10), .ref (b 11), .ref (b 12), .ref (b 13), .ref (b 14), .int tr])), (b 11, .inl (cI, 4, .inl (zsF hs le))), (b 12, .inl (cI, 4, .inl ln)), (b 13, .inl (cI, 240, .inl (rwF rr)))] H := hP.sub [3, 0, 1, 2] rfl
            have hD : va_D A [(b 0, .inr (5, [.int 2, .int (nI h), .int (nI w), .int pc, .int br, .ref (b 1), .ref (b 2), .int ra, .int q1, .int q2, .int q3, .int q4, .ref (b 3), .int fw, .int ea, .int sn, .ref (b 4), .ref (b 5), .ref (b 6), .int mo, .int (nI rc), .ref (b 7), .ref (b 8), .ref (b 9), .ref (b 10), .ref (b 11), .ref (b 12), .ref (b 13), .ref (b 14), .int tr])), (b 11, .inl (cI, 4, .inl (zsF hs le))), (b 12, .inl (cI, 4, .inl ln)), (b 13, .inl (cI, 240, .inl (rwF rr)))] := hD.sub [3, 0, 1, 2] (by decide) rfl
            refine ml_ret hx hb hr hlk hP hD hS dX5_cell_52 ?_
            rw [show ceF hs ln le k i x kj = 2 from by rw [ceF, if_pos c_3, if_pos c_8, if_neg hf0]; exact hfl]
            refine ⟨?_, rfl⟩
            rw [ceR, if_pos c_3, if_pos c_8, if_neg hf0] <;> rfl
      · have hfl : fltF (hs kj) (ln kj) x = 0 := by rw [fltF, if_neg hc1, if_pos hl1]
        have hf0 : fltF (hs kj) (ln kj) x = 0 := hfl
        have hzl : ¬ (zsF hs le) kj < 0 := fun z => hc1 ((zs_lt h60_kj).mp z)
        have hcv : ncF hs le i kj = 0 := by rw [ncF, if_neg hc1, if_pos hc2]
        have ei : i = nI i.toNatClampNeg := hc2.eq
        have li := hc2.lt
        refine lv_aload_n hx hb dX5_cell_28 rfl (lv_at hl 0 rfl) ?_
        refine va_get (D := D) (ci := 5) (v := .ref (b 11)) (C := RX5) (T := TX5) (N := 30) hx hb hts hin5 hown hK.1 hP 0 rfl rfl 25 (by decide) (hts _ (List.mem_of_getElem? (i := 3) rfl)) (fun _ h9 => h9) rfl dX5_cell_29 ?_
        refine lv_iload_n hx hb dX5_cell_32 rfl (lv_at hl 1 rfl) ?_
        refine k_iald hx hb hK hP 1 0 rfl rfl (j := kj) (inN.vp c_3 (by omega)) hkj dX5_cell_33 ?_
        refine lv_if_lt (tgt := 53) hx hb dX5_cell_34 (by decide) (fun c_23 => ?_) (fun c_23 => ?_)
        · exact absurd c_23 hzl
        · refine lv_aload_n hx hb dX5_cell_37 rfl (lv_at hl 0 rfl) ?_
          refine va_get (D := D) (ci := 5) (v := .ref (b 12)) (C := RX5) (T := TX5) (N := 30) hx hb hts hin5 hown hK.1 hP 0 rfl rfl 26 (by decide) (hts _ (List.mem_of_getElem? (i := 4) rfl)) (fun _ h9 => h9) rfl dX5_cell_38 ?_
          refine lv_iload_n hx hb dX5_cell_41 rfl (lv_at hl 1 rfl) ?_
          refine k_iald hx hb hK hP 2 0 rfl rfl (j := kj) (inN.vp c_3 (by omega)) hkj dX5_cell_42 ?_
          refine lv_iload_n hx hb dX5_cell_43 rfl (lv_at hl 3 rfl) ?_
          refine lv_icmp_eq (tgt := 53) hx hb dX5_cell_44 (by decide) (fun c_24 => ?_) (fun c_24 => ?_)
          · refine lv_aload_n hx hb dX5_cell_53 rfl (lv_at hl 0 rfl) ?_
            refine lv_iload_n hx hb dX5_cell_54 rfl (lv_at hl 1 rfl) ?_
            refine lv_iload_n hx hb dX5_cell_55 rfl (lv_at hl 2 rfl) ?_
            refine k_ri (run_RV (As := [.int k, .int i]) (rest := []) ⟨hx, hb, hml, hown, hts⟩ (c_X5_noCell l D cI cJ cO b 0 h w pc br ra q1 q2 q3 q4 fw ea sn mo rc tr hs le k i kj hle (inN.vp c_3 (by omega)) hkj) (cwV 2 hts gX5_cell_X5_noCell rfl rfl rfl (by decide +kernel) ⟨Nat.le_of_ble_eq_true rfl, Nat.le_of_ble_eq_true rfl⟩) hP hK [0, 1] rfl rfl rfl rfl rfl hl.1 rfl (Nat.le_of_ble_eq_true rfl) dX5_cell_56 ⟨Nat.le_refl _, Nat.le_refl _⟩) (fun r_25 q_26 => ?_)
            obtain rfl := q_26
            refine k_top (y := 0) hcv ?_
            refine lv_if_le (tgt := 75) hx hb dX5_cell_59 (by decide) (fun c_27 => ?_) (fun c_27 => ?_)
            · refine lv_aload_n hx hb dX5_cell_75 rfl (lv_at hl 0 rfl) ?_
              refine va_get (D := D) (ci := 5) (v := .ref (b 13)) (C := RX5) (T := TX5) (N := 30) hx hb hts hin5 hown hK.1 hP 0 rfl rfl 27 (by decide) (hts _ (List.mem_of_getElem? (i := 5) rfl)) (fun _ h9 => h9) rfl dX5_cell_76 ?_
              refine lv_bipush (v := 60) hx hb dX5_cell_79 (by decide) ?_
              refine lv_iload_n hx hb dX5_cell_81 rfl (lv_at hl 1 rfl) ?_
              refine k_top (y := (nI kj)) e_kj ?_
              refine lv_imul hx hb dX5_cell_82 ?_
              refine k_top (y := (nI (60 * kj))) (pk_mul 60 _) ?_
              refine lv_iload_n hx hb dX5_cell_83 rfl (lv_at hl 2 rfl) ?_
              refine k_top (y := (nI i.toNatClampNeg)) ei ?_
              refine lv_iadd hx hb dX5_cell_84 ?_
              refine k_top (y := (nI ((60 * kj) + i.toNatClampNeg))) (nI_add _ _) ?_
              refine k_iald hx hb hK hP 3 0 rfl rfl (j := (60 * kj) + i.toNatClampNeg) (vp_in_nI (show (60 * kj) + i.toNatClampNeg < 240 by omega) (by decide)) (nI_clamp (by omega)) dX5_cell_85 ?_
              refine k_top (y := (rr kj i.toNatClampNeg)) (rw_at rr (by omega)) ?_
              refine lv_i2l (v := (rr kj i.toNatClampNeg).toInt64) hx hb dX5_cell_86 rfl ?_
              refine ml_ret hx hb hr hlk hP hD hS dX5_cell_87 ?_
              rw [show ceF hs ln le k i x kj = _ from by rw [ceF, if_pos c_3, if_pos c_8, if_pos hf0, if_pos hc2]]
              refine ⟨?_, rfl⟩
              rw [ceR, if_pos c_3, if_pos c_8, if_pos hf0, if_pos hc2] <;> rfl
            · exact absurd c_27 (by decide)
          · exact absurd hl1 c_24
      · have hfl : fltF (hs kj) (ln kj) x = 0 := by rw [fltF, if_neg hc1, if_pos hl1]
        have hf0 : fltF (hs kj) (ln kj) x = 0 := hfl
        have hzl : ¬ (zsF hs le) kj < 0 := fun z => hc1 ((zs_lt h60_kj).mp z)
        have hcv : ncF hs le i kj = 3 := by rw [ncF, if_neg hc1, if_neg hc2]
        refine lv_aload_n hx hb dX5_cell_28 rfl (lv_at hl 0 rfl) ?_
        refine va_get (D := D) (ci := 5) (v := .ref (b 11)) (C := RX5) (T := TX5) (N := 30) hx hb hts hin5 hown hK.1 hP 0 rfl rfl 25 (by decide) (hts _ (List.mem_of_getElem? (i := 3) rfl)) (fun _ h9 => h9) rfl dX5_cell_29 ?_
        refine lv_iload_n hx hb dX5_cell_32 rfl (lv_at hl 1 rfl) ?_
        refine k_iald hx hb hK hP 1 0 rfl rfl (j := kj) (inN.vp c_3 (by omega)) hkj dX5_cell_33 ?_
        refine lv_if_lt (tgt := 53) hx hb dX5_cell_34 (by decide) (fun c_28 => ?_) (fun c_28 => ?_)
        · exact absurd c_28 hzl
        · refine lv_aload_n hx hb dX5_cell_37 rfl (lv_at hl 0 rfl) ?_
          refine va_get (D := D) (ci := 5) (v := .ref (b 12)) (C := RX5) (T := TX5) (N := 30) hx hb hts hin5 hown hK.1 hP 0 rfl rfl 26 (by decide) (hts _ (List.mem_of_getElem? (i := 4) rfl)) (fun _ h9 => h9) rfl dX5_cell_38 ?_
          refine lv_iload_n hx hb dX5_cell_41 rfl (lv_at hl 1 rfl) ?_
          refine k_iald hx hb hK hP 2 0 rfl rfl (j := kj) (inN.vp c_3 (by omega)) hkj dX5_cell_42 ?_
          refine lv_iload_n hx hb dX5_cell_43 rfl (lv_at hl 3 rfl) ?_
          refine lv_icmp_eq (tgt := 53) hx hb dX5_cell_44 (by decide) (fun c_29 => ?_) (fun c_29 => ?_)
          · refine lv_aload_n hx hb dX5_cell_53 rfl (lv_at hl 0 rfl) ?_
            refine lv_iload_n hx hb dX5_cell_54 rfl (lv_at hl 1 rfl) ?_
            refine lv_iload_n hx hb dX5_cell_55 rfl (lv_at hl 2 rfl) ?_
            refine k_ri (run_RV (As := [.int k, .int i]) (rest := []) ⟨hx, hb, hml, hown, hts⟩ (c_X5_noCell l D cI cJ cO b 0 h w pc br ra q1 q2 q3 q4 fw ea sn mo rc tr hs le k i kj hle (inN.vp c_3 (by omega)) hkj) (cwV 2 hts gX5_cell_X5_noCell rfl rfl rfl (by decide +kernel) ⟨Nat.le_of_ble_eq_true rfl, Nat.le_of_ble_eq_true rfl⟩) hP hK [0, 1] rfl rfl rfl rfl rfl hl.1 rfl (Nat.le_of_ble_eq_true rfl) dX5_cell_56 ⟨Nat.le_refl _, Nat.le_refl _⟩) (fun r_30 q_31 => ?_)
            obtain rfl := q_31
            refine k_top (y := 3) hcv ?_
            refine lv_if_le (tgt := 75) hx hb dX5_cell_59 (by decide) (fun c_32 => ?_) (fun c_32 => ?_)
            · exact absurd c_32 (by decide)
            · refine lv_aload_n hx hb dX5_cell_62 rfl (lv_at hl 0 rfl) ?_
              refine lv_aload_n hx hb dX5_cell_63 rfl (lv_at hl 0 rfl) ?_
              refine lv_iload_n hx hb dX5_cell_64 rfl (lv_at hl 1 rfl) ?_
              refine lv_iload_n hx hb dX5_cell_65 rfl (lv_at hl 2 rfl) ?_
              refine k_ri (run_RV (As := [.int k, .int i]) (rest := [.ref (b 0)]) ⟨hx, hb, hml, hown, hts⟩ (c_X5_noCell l D cI cJ cO b 0 h w pc br ra q1 q2 q3 q4 fw ea sn mo rc tr hs le k i kj hle (inN.vp c_3 (by omega)) hkj) (cwV 2 hts gX5_cell_X5_noCell rfl rfl rfl (by decide +kernel) ⟨Nat.le_of_ble_eq_true rfl, Nat.le_of_ble_eq_true rfl⟩) hP hK [0, 1] rfl rfl rfl rfl rfl hl.1 rfl (Nat.le_of_ble_eq_true rfl) dX5_cell_66 ⟨Nat.le_refl _, Nat.le_refl _⟩) (fun r_33 q_34 => ?_)
              obtain rfl := q_34
              refine k_top (y := 3) hcv ?_
              refine k_ml (wr := [(b 11, .inl (cI, 4, .inl (zsF hs le))), (b 12, .inl (cI, 4, .inl ln)), (b 13, .inl (cI, 240, .inl (rwF rr)))]) [0] [1, 2, 3] (run_MV (As := [.int 3]) (rest := []) ⟨hx, hb, hml, hown, hts⟩ (c_X5_failedLong l D cI cJ cO b 0 h w pc br ra q1 q2 q3 q4 fw ea sn mo rc tr 3) (cwV 1 hts gX5_cell_X5_failedLong rfl rfl rfl (by decide +kernel) ⟨Nat.le_of_ble_eq_true rfl, Nat.le_of_ble_eq_true rfl⟩) hP hK hD [0] (by decide) rfl rfl rfl rfl rfl hl.1 rfl (Nat.le_of_ble_eq_true rfl) dX5_cell_69 ⟨Nat.le_refl _, Nat.le_refl _⟩) hP hD hS hA rfl rfl (by decide) (by decide) (fun r_35 w_37 H locs q_36 hP hD hS => ?_)
              obtain ⟨rfl, rfl⟩ := q_36
              have hP : va_P D vwCl [(b 0, .inr (5, [.int 3, .int (nI h), .int (nI w), .int pc, .int br, .ref (b 1), .ref (b 2), .int ra, .int q1, .int q2, .int q3, .int q4, .ref (b 3), .int fw, .int ea, .int sn, .ref (b 4), .ref (b 5), .ref (b 6), .int mo, .int (nI rc), .ref (b 7), .ref (b 8), .ref (b 9), .ref (b 10), .ref (b 11), .ref (b 12), .ref (b 13), .ref (b 14), .int tr])), (b 11, .inl (cI, 4, .inl (zsF hs le))), (b 12, .inl (cI, 4, .inl ln)), (b 13, .inl (cI, 240, .inl (rwF rr)))] H := hP.sub [3, 0, 1, 2] rfl
              have hD : va_D A [(b 0, .inr (5, [.int 3, .int (nI h), .int (nI w), .int pc, .int br, .ref (b 1), .ref (b 2), .int ra, .int q1, .int q2, .int q3, .int q4, .ref (b 3), .int fw, .int ea, .int sn, .ref (b 4), .ref (b 5), .ref (b 6), .int mo, .int (nI rc), .ref (b 7), .ref (b 8), .ref (b 9), .ref (b 10), .ref (b 11), .ref (b 12), .ref (b 13), .ref (b 14), .int tr])), (b 11, .inl (cI, 4, .inl (zsF hs le))), (b 12, .inl (cI, 4, .inl ln)), (b 13, .inl (cI, 240, .inl (rwF rr)))] := hD.sub [3, 0, 1, 2] (by decide) rfl
              refine lv_goto (tgt := 87) hx hb dX5_cell_72 (by decide) ?_
              refine ml_ret hx hb hr hlk hP hD hS dX5_cell_87 ?_
              rw [show ceF hs ln le k i x kj = _ from by rw [ceF, if_pos c_3, if_pos c_8, if_pos hf0, if_neg hc2]]
              refine ⟨?_, rfl⟩
              rw [ceR, if_pos c_3, if_pos c_8, if_pos hf0, if_neg hc2] <;> rfl
          · exact absurd hl1 c_29
    · have c_8 := b2_f c_8
      refine k_rl (run_RS (As := []) (rest := []) ⟨hx, hb, hml, hown, hts⟩ (c_X5_lost l D cI cJ cO) (va_cwS 0 hts gX5_cell_X5_lost rfl rfl rfl (by decide +kernel) ⟨Nat.le_of_ble_eq_true rfl, Nat.le_of_ble_eq_true rfl⟩) hP hK [] rfl rfl hl.1 rfl (Nat.le_of_ble_eq_true rfl) dX5_cell_24 ⟨Nat.le_refl _, Nat.le_refl _⟩) (fun r_38 q_39 => ?_)
      obtain rfl := q_39
      refine ml_ret hx hb hr hlk hP hD hS dX5_cell_27 ?_
      rw [show ceF hs ln le k i x kj = _ from by rw [ceF, if_pos c_3, if_neg c_8]]
      refine ⟨?_, rfl⟩
      rw [ceR, if_pos c_3, if_neg c_8] <;> rfl
set_option maxRecDepth 100000 in
set_option maxHeartbeats 4000000 in
/-- X5_isBeyond -/
theorem c_X5_isBeyond (l : Launch) (D : va_G) (cI cJ cO : ClassId) (i : Int32) (n : Int32) (m : Nat) (hle : m ≤ 60) : RG l yX5_isBeyond wsX5_isBeyond 0 0 D [(cI, .int), (cJ, .long), (cO, .object "ShornHill$Sheet")] [.int i, .long n.toInt64, .int (nI m)] [] (vp_Si (fun (r : Int32) => r = (b2 (¬ spP i n m)))) := by
  refine RG.of (cc := cX5_isBeyond) (maxL := 4) (ret := (some .boolean)) (by decide) rfl (Nat.le_of_ble_eq_true rfl) ?_
  intro P_ E_ S_ M_ B_ T_ K_ hx hb hml hr hts hown hlk hP hK ls hl
  have hl : lv_has ls 4 [(0, .int i), (1, .long n.toInt64), (3, .int (nI m))] := hl
  refine lv_iload_n hx hb dX5_isBeyond_0 rfl (lv_at hl 0 rfl) ?_
  refine lv_if_lt (tgt := 20) hx hb dX5_isBeyond_1 (by decide) (fun c_1 => ?_) (fun c_1 => ?_)
  · refine lv_iconst (v := 1) hx hb dX5_isBeyond_20 (by decide) ?_
    refine lv_goto (tgt := 25) hx hb dX5_isBeyond_21 (by decide) ?_
    refine rz_ret (v := 1) hx hb hr hlk dX5_isBeyond_25 (by decide) ?_
    exact b2_1 (by_1 c_1)
  · refine lv_lload_n hx hb dX5_isBeyond_4 rfl (lv_at hl 1 rfl) ?_
    refine lv_lconst (v := 0) hx hb dX5_isBeyond_5 (by decide) ?_
    refine W.lcmp hx hb dX5_isBeyond_6 ?_
    refine lv_if_lt (tgt := 20) hx hb dX5_isBeyond_7 (by decide) (fun c_2 => ?_) (fun c_2 => ?_)
    · refine lv_iconst (v := 1) hx hb dX5_isBeyond_20 (by decide) ?_
      refine lv_goto (tgt := 25) hx hb dX5_isBeyond_21 (by decide) ?_
      refine rz_ret (v := 1) hx hb hr hlk dX5_isBeyond_25 (by decide) ?_
      exact b2_1 (by_2 c_2)
    · refine lv_iload_n hx hb dX5_isBeyond_10 rfl (lv_at hl 0 rfl) ?_
      refine lv_i2l (v := i.toInt64) hx hb dX5_isBeyond_11 rfl ?_
      refine lv_lload_n hx hb dX5_isBeyond_12 rfl (lv_at hl 1 rfl) ?_
      refine lv_ladd hx hb dX5_isBeyond_13 ?_
      refine lv_iload_n hx hb dX5_isBeyond_14 rfl (lv_at hl 2 rfl) ?_
      refine lv_i2l (v := (nI m).toInt64) hx hb dX5_isBeyond_15 rfl ?_
      refine W.lcmp hx hb dX5_isBeyond_16 ?_
      refine lv_if_le (tgt := 24) hx hb dX5_isBeyond_17 (by decide) (fun c_3 => ?_) (fun c_3 => ?_)
      · refine lv_iconst (v := 0) hx hb dX5_isBeyond_24 (by decide) ?_
        refine rz_ret (v := 0) hx hb hr hlk dX5_isBeyond_25 (by decide) ?_
        exact b2_0 (fun z => z (by_0 hle c_1 c_2 c_3))
      · refine lv_iconst (v := 1) hx hb dX5_isBeyond_20 (by decide) ?_
        refine lv_goto (tgt := 25) hx hb dX5_isBeyond_21 (by decide) ?_
        refine rz_ret (v := 1) hx hb hr hlk dX5_isBeyond_25 (by decide) ?_
        exact b2_1 (by_3 hle c_3)
