set_option maxRecDepth 100000 in
set_option maxHeartbeats 4000000 in
/-- X5_whole -/
theorem c_X5_whole (l : Launch) (D : va_G) (cI cJ cO : ClassId) (b : Nat → Nat) (fa : Int32) (h : Nat) (w : Nat) (pc : Int32) (br : Int32) (ra : Int32) (q1 : Int32) (q2 : Int32) (q3 : Int32) (q4 : Int32) (fw : Int32) (ea : Int32) (sn : Int32) (mo : Int32) (rc : Nat) (tr : Int32) (kd : Nat → Int32) (et : Nat → Int32) (pl : Nat → Int32) (nx : Nat → Int32) (rb : Nat → Int32) (c : Int32) (hn : h * w ≤ 16) (hkd : ∀ k, k < 16 → kdOk (kd k)) (het : ∀ k, k < 16 → etOk (et k)) (hbr : 0 < h * w → 1 ≤ br.toInt) : MG l yX5_whole wsX5_whole 4 100 0 0 D [(cI, .int), (cJ, .long), (cO, .object "ShornHill$Sheet")] [.ref (b 0), .int c] [(b 0, .inr (5, [.int fa, .int (nI h), .int (nI w), .int pc, .int br, .ref (b 1), .ref (b 2), .int ra, .int q1, .int q2, .int q3, .int q4, .ref (b 3), .int fw, .int ea, .int sn, .ref (b 4), .ref (b 5), .ref (b 6), .int mo, .int (nI rc), .ref (b 7), .ref (b 8), .ref (b 9), .ref (b 10), .ref (b 11), .ref (b 12), .ref (b 13), .ref (b 14), .int tr])), (b 1, .inl (cI, 16, .inl kd)), (b 2, .inl (cI, 16, .inl et)), (b 4, .inl (cI, 17, .inl pl)), (b 5, .inl (cI, 17, .inl nx)), (b 6, .inl (cI, 16, .inl rb))] (QI D (fun (r : Int32) (w1 : va_W) => ∃ (mo2 : Int32) (pl3 : Nat → Int32) (nx3 : Nat → Int32) (rb3 : Nat → Int32), r = (whoR h w (h * w) pc br kd et c) ∧ w1 = [(b 0, .inr (5, [.int fa, .int (nI h), .int (nI w), .int pc, .int br, .ref (b 1), .ref (b 2), .int ra, .int q1, .int q2, .int q3, .int q4, .ref (b 3), .int fw, .int ea, .int sn, .ref (b 4), .ref (b 5), .ref (b 6), .int mo2, .int (nI rc), .ref (b 7), .ref (b 8), .ref (b 9), .ref (b 10), .ref (b 11), .ref (b 12), .ref (b 13), .ref (b 14), .int tr])), (b 1, .inl (cI, 16, .inl kd)), (b 2, .inl (cI, 16, .inl et)), (b 4, .inl (cI, 17, .inl pl3)), (b 5, .inl (cI, 17, .inl nx3)), (b 6, .inl (cI, 16, .inl rb3))])) := by
  refine MG.of (cc := cX5_whole) (maxL := 3) (ret := (some .int)) (by decide) rfl (Nat.le_of_ble_eq_true rfl) ?_
  intro P_ E_ S_ M_ B_ T_ K_ hx hb hml hr hts hown hlk hnm A hA hP hK hD hS ls hl
  have hl : lv_has ls 3 [(0, .ref (b 0)), (1, .int c)] := hl
  refine lv_aload_n hx hb dX5_whole_0 rfl (lv_at hl 0 rfl) ?_
  refine lv_iload_n hx hb dX5_whole_1 rfl (lv_at hl 1 rfl) ?_
  refine k_ri (run_RV (As := [.int c]) (rest := []) ⟨hx, hb, hml, hown, hts⟩ (c_X5_noGrass l D cI cJ cO b fa h w pc br ra q1 q2 q3 q4 fw ea sn mo rc tr kd c hn) (cwV 1 hts gX5_whole_X5_noGrass rfl rfl rfl (by decide +kernel) ⟨Nat.le_of_ble_eq_true rfl, Nat.le_of_ble_eq_true rfl⟩) hP hK [0, 1] rfl rfl rfl rfl rfl hl.1 rfl (Nat.le_of_ble_eq_true rfl) dX5_whole_2 ⟨Nat.le_refl _, Nat.le_refl _⟩) (fun r_1 q_2 => ?_)
  obtain rfl := q_2
  refine lv_if_eq (tgt := 10) hx hb dX5_whole_5 (by decide) (fun c_3 => ?_) (fun c_3 => ?_)
  · have c_3 := Decidable.not_not.mp (b2_f c_3)
    have h_soft : softP (h * w) kd c := by assumption
    have e_c : c = nI c.toNatClampNeg := h_soft.1.eq
    have l_c : c.toNatClampNeg < h * w := h_soft.1.lt
    refine lv_iconst (v := 0) hx hb dX5_whole_10 (by decide) ?_
    refine lv_istore_n (lv' := [(2, .int 0), (0, .ref (b 0)), (1, .int c)]) hx hb dX5_whole_11 rfl hl (by decide) rfl (fun ls hl => ?_)
    have key_5 : ∀ (n_4 : Nat) (k : Nat) (mo2 : Int32) (pl3 : Nat → Int32) (nx3 : Nat → Int32) (rb3 : Nat → Int32), (k ≤ 10) → (∀ z, z < k → ¬ whP h w (h * w) pc br kd et c.toNatClampNeg z) → 10 - k < n_4 → ∀ (H : Heap) (locs : List Loc), va_P D vwCl [(b 0, .inr (5, [.int fa, .int (nI h), .int (nI w), .int pc, .int br, .ref (b 1), .ref (b 2), .int ra, .int q1, .int q2, .int q3, .int q4, .ref (b 3), .int fw, .int ea, .int sn, .ref (b 4), .ref (b 5), .ref (b 6), .int mo2, .int (nI rc), .ref (b 7), .ref (b 8), .ref (b 9), .ref (b 10), .ref (b 11), .ref (b 12), .ref (b 13), .ref (b 14), .int tr])), (b 1, .inl (cI, 16, .inl kd)), (b 2, .inl (cI, 16, .inl et)), (b 4, .inl (cI, 17, .inl pl3)), (b 5, .inl (cI, 17, .inl nx3)), (b 6, .inl (cI, 16, .inl rb3))] H → va_D A [(b 0, .inr (5, [.int fa, .int (nI h), .int (nI w), .int pc, .int br, .ref (b 1), .ref (b 2), .int ra, .int q1, .int q2, .int q3, .int q4, .ref (b 3), .int fw, .int ea, .int sn, .ref (b 4), .ref (b 5), .ref (b 6), .int mo2, .int (nI rc), .ref (b 7), .ref (b 8), .ref (b 9), .ref (b 10), .ref (b 11), .ref (b 12), .ref (b 13), .ref (b 14), .int tr])), (b 1, .inl (cI, 16, .inl kd)), (b 2, .inl (cI, 16, .inl et)), (b 4, .inl (cI, 17, .inl pl3)), (b 5, .inl (cI, 17, .inl nx3)), (b 6, .inl (cI, 16, .inl rb3))] → va_S A S_.heap H locs → ∀ ls : Array Slot, lv_has ls 3 [(0, .ref (b 0)), (1, .int c), (2, .int (nI k))] → W P_ l E_ ({ frames := 4, cells := 0, slots := 0, locals := 100 } : Room) S_ M_ (([.ref (b 0), .int c] : List Value).toArray) B_ T_ K_ H locs 0 0 (MQ B_ ((QI D (fun (r : Int32) (w1 : va_W) => ∃ (mo2 : Int32) (pl3 : Nat → Int32) (nx3 : Nat → Int32) (rb3 : Nat → Int32), r = (whoR h w (h * w) pc br kd et c) ∧ w1 = [(b 0, .inr (5, [.int fa, .int (nI h), .int (nI w), .int pc, .int br, .ref (b 1), .ref (b 2), .int ra, .int q1, .int q2, .int q3, .int q4, .ref (b 3), .int fw, .int ea, .int sn, .ref (b 4), .ref (b 5), .ref (b 6), .int mo2, .int (nI rc), .ref (b 7), .ref (b 8), .ref (b 9), .ref (b 10), .ref (b 11), .ref (b 12), .ref (b 13), .ref (b 14), .int tr])), (b 1, .inl (cI, 16, .inl kd)), (b 2, .inl (cI, 16, .inl et)), (b 4, .inl (cI, 17, .inl pl3)), (b 5, .inl (cI, 17, .inl nx3)), (b 6, .inl (cI, 16, .inl rb3))])) A) (([.ref (b 0), .int c] : List Value).toArray) S_ 0 0 A) (F0 M_ 12 ls []) := by
      intro n_4
      induction n_4 with
      | zero =>
        intro k mo2 pl3 nx3 rb3 hk hs9 hmu_n_4
        exact absurd hmu_n_4 (Nat.not_lt_zero _)
      | succ n_4 ih_6 =>
        intro k mo2 pl3 nx3 rb3 hk hs9 hmu_n_4 H locs hP hD hS ls hl
        have hl : lv_has ls 3 [(0, .ref (b 0)), (1, .int c), (2, .int (nI k))] := hl
        have hP : va_P D vwCl [(b 0, .inr (5, [.int fa, .int (nI h), .int (nI w), .int pc, .int br, .ref (b 1), .ref (b 2), .int ra, .int q1, .int q2, .int q3, .int q4, .ref (b 3), .int fw, .int ea, .int sn, .ref (b 4), .ref (b 5), .ref (b 6), .int mo2, .int (nI rc), .ref (b 7), .ref (b 8), .ref (b 9), .ref (b 10), .ref (b 11), .ref (b 12), .ref (b 13), .ref (b 14), .int tr])), (b 1, .inl (cI, 16, .inl kd)), (b 2, .inl (cI, 16, .inl et)), (b 4, .inl (cI, 17, .inl pl3)), (b 5, .inl (cI, 17, .inl nx3)), (b 6, .inl (cI, 16, .inl rb3))] H := hP
        have hD : va_D A [(b 0, .inr (5, [.int fa, .int (nI h), .int (nI w), .int pc, .int br, .ref (b 1), .ref (b 2), .int ra, .int q1, .int q2, .int q3, .int q4, .ref (b 3), .int fw, .int ea, .int sn, .ref (b 4), .ref (b 5), .ref (b 6), .int mo2, .int (nI rc), .ref (b 7), .ref (b 8), .ref (b 9), .ref (b 10), .ref (b 11), .ref (b 12), .ref (b 13), .ref (b 14), .int tr])), (b 1, .inl (cI, 16, .inl kd)), (b 2, .inl (cI, 16, .inl et)), (b 4, .inl (cI, 17, .inl pl3)), (b 5, .inl (cI, 17, .inl nx3)), (b 6, .inl (cI, 16, .inl rb3))] := hD
        refine lv_iload_n hx hb dX5_whole_12 rfl (lv_at hl 2 rfl) ?_
        refine lv_bipush (v := 9) hx hb dX5_whole_13 (by decide) ?_
        refine lv_icmp_gt (tgt := 35) hx hb dX5_whole_15 (by decide) (fun c_7 => ?_) (fun c_7 => ?_)
        · have c_7 : 9 < k := (nI_ltI (a := 9) (b := k) (by omega) (by omega)).mp c_7
          refine lv_bipush (v := (-9)) hx hb dX5_whole_35 (by decide) ?_
          refine mi_ret (v := (-9)) hx hb hr hlk hP hD hS dX5_whole_37 ?_
          obtain rfl : k = 10 := by omega
          exact ⟨mo2, pl3, nx3, rb3, (by rw [whoR, if_pos h_soft, ffN_all (P := fun k => ¬ whP h w (h * w) pc br kd et c.toNatClampNeg k) hs9, if_neg (by omega)]), rfl⟩
        · have c_7 : k ≤ 9 := Nat.le_of_not_lt (fun z => c_7 ((nI_ltI (a := 9) (b := k) (by omega) (by omega)).mpr z))
          refine lv_aload_n hx hb dX5_whole_18 rfl (lv_at hl 0 rfl) ?_
          refine lv_iload_n hx hb dX5_whole_19 rfl (lv_at hl 2 rfl) ?_
          refine lv_iload_n hx hb dX5_whole_20 rfl (lv_at hl 1 rfl) ?_
          refine k_top (y := (nI c.toNatClampNeg)) e_c ?_
          refine k_mi (wr := []) [0, 1, 2, 3, 4, 5] [] (run_MV (As := [.int (nI k), .int (nI c.toNatClampNeg)]) (rest := []) ⟨hx, hb, hml, hown, hts⟩ (c_X5_isWholeFrom l D cI cJ cO b fa h w pc br ra q1 q2 q3 q4 fw ea sn mo2 rc tr kd et pl3 nx3 rb3 (nI k) c.toNatClampNeg hn hkd het hbr l_c) (cwV 2 hts gX5_whole_X5_isWholeFrom rfl rfl rfl (by decide +kernel) ⟨Nat.le_of_ble_eq_true rfl, Nat.le_of_ble_eq_true rfl⟩) hP hK hD [0, 1, 2, 3, 4, 5] (by decide) rfl rfl rfl rfl rfl hl.1 rfl (Nat.le_of_ble_eq_true rfl) dX5_whole_21 ⟨Nat.le_refl _, Nat.le_refl _⟩) hP hD hS hA rfl rfl (by decide) (by decide) (fun r_8 w_10 H locs q_9 hP hD hS => ?_)
          obtain ⟨mo2_11, pl3_12, nx3_13, rb3_14, rfl, rfl⟩ := q_9
          have hP : va_P D vwCl [(b 0, .inr (5, [.int fa, .int (nI h), .int (nI w), .int pc, .int br, .ref (b 1), .ref (b 2), .int ra, .int q1, .int q2, .int q3, .int q4, .ref (b 3), .int fw, .int ea, .int sn, .ref (b 4), .ref (b 5), .ref (b 6), .int mo2_11, .int (nI rc), .ref (b 7), .ref (b 8), .ref (b 9), .ref (b 10), .ref (b 11), .ref (b 12), .ref (b 13), .ref (b 14), .int tr])), (b 1, .inl (cI, 16, .inl kd)), (b 2, .inl (cI, 16, .inl et)), (b 4, .inl (cI, 17, .inl pl3_12)), (b 5, .inl (cI, 17, .inl nx3_13)), (b 6, .inl (cI, 16, .inl rb3_14))] H := hP.sub [0, 1, 2, 3, 4, 5] rfl
          have hD : va_D A [(b 0, .inr (5, [.int fa, .int (nI h), .int (nI w), .int pc, .int br, .ref (b 1), .ref (b 2), .int ra, .int q1, .int q2, .int q3, .int q4, .ref (b 3), .int fw, .int ea, .int sn, .ref (b 4), .ref (b 5), .ref (b 6), .int mo2_11, .int (nI rc), .ref (b 7), .ref (b 8), .ref (b 9), .ref (b 10), .ref (b 11), .ref (b 12), .ref (b 13), .ref (b 14), .int tr])), (b 1, .inl (cI, 16, .inl kd)), (b 2, .inl (cI, 16, .inl et)), (b 4, .inl (cI, 17, .inl pl3_12)), (b 5, .inl (cI, 17, .inl nx3_13)), (b 6, .inl (cI, 16, .inl rb3_14))] := hD.sub [0, 1, 2, 3, 4, 5] (by decide) rfl
          refine lv_if_eq (tgt := 29) hx hb dX5_whole_24 (by decide) (fun c_15 => ?_) (fun c_15 => ?_)
          · have c_15 := b2_f c_15
            refine lv_iinc (v := (nI (k + 1))) (lv' := [(2, .int (nI (k + 1))), (0, .ref (b 0)), (1, .int c)]) hx hb dX5_whole_29 hl (k := 2) rfl (nI_add _ 1) (by decide) rfl (fun ls hl => ?_)
            refine lv_goto (tgt := 12) hx hb dX5_whole_32 (by decide) ?_
            exact ih_6 (k + 1) mo2_11 pl3_12 nx3_13 rb3_14 (by omega) (nc_s hs9 (fun z => c_15 ((iw_wh hn l_c h_soft.2).mpr z))) (by omega) _ _ hP hD hS ls (lv_sub hl [1, 2, 0] rfl)
          · have c_15 := b2_t c_15
            refine lv_iload_n hx hb dX5_whole_27 rfl (lv_at hl 2 rfl) ?_
            refine mi_ret (v := (nI k)) hx hb hr hlk hP hD hS dX5_whole_28 ?_
            exact ⟨mo2_11, pl3_12, nx3_13, rb3_14, (by rw [whoR, if_pos h_soft, ffN_at (P := fun k => ¬ whP h w (h * w) pc br kd et c.toNatClampNeg k) hs9 (fun z => z ((iw_wh hn l_c h_soft.2).mp c_15)) (by omega), if_pos (by omega)]), rfl⟩
    exact key_5 _ 0 mo pl nx rb (by omega) (fun z hz => absurd hz (Nat.not_lt_zero z)) (Nat.lt_succ_self _) _ _ hP hD hS ls (lv_sub hl [1, 2, 0] rfl)
  · have c_3 := b2_t c_3
    refine lv_iconst (v := (-1)) hx hb dX5_whole_8 (by decide) ?_
    refine mi_ret (v := (-1)) hx hb hr hlk hP hD hS dX5_whole_9 ?_
    exact ⟨mo, pl, nx, rb, (by rw [whoR, if_neg c_3]), rfl⟩
theorem iwX5_stops_X5 : ∀ x ∈ wsX50, x ∈ wsX5_stops := by decide +kernel
set_option maxRecDepth 100000 in
set_option maxHeartbeats 4000000 in
/-- X5_stops -/
theorem c_X5_stops (l : Launch) (D : va_G) (cI cJ cO : ClassId) (b : Nat → Nat) (fa : Int32) (h : Nat) (w : Nat) (pc : Int32) (br : Int32) (ra : Int32) (q1 : Int32) (q2 : Int32) (q3 : Int32) (q4 : Int32) (fw : Int32) (ea : Int32) (sn : Int32) (mo : Int32) (rc : Nat) (tr : Int32) (kd : Nat → Int32) (et : Nat → Int32) (pl : Nat → Int32) (nx : Nat → Int32) (rb : Nat → Int32) (ws : Int32) (hn : h * w ≤ 16) (hh : h ≤ 4) (hkd : ∀ k, k < 16 → kdOk (kd k)) (het : ∀ k, k < 16 → etOk (et k)) (hbr : 0 < h * w → 1 ≤ br.toInt) : MG l yX5_stops wsX5_stops 5 123 0 0 D [(cI, .int), (cJ, .long), (cO, .object "ShornHill$Sheet")] [.ref (b 0), .int ws] [(b 0, .inr (5, [.int fa, .int (nI h), .int (nI w), .int pc, .int br, .ref (b 1), .ref (b 2), .int ra, .int q1, .int q2, .int q3, .int q4, .ref (b 3), .int fw, .int ea, .int sn, .ref (b 4), .ref (b 5), .ref (b 6), .int mo, .int (nI rc), .ref (b 7), .ref (b 8), .ref (b 9), .ref (b 10), .ref (b 11), .ref (b 12), .ref (b 13), .ref (b 14), .int tr])), (b 1, .inl (cI, 16, .inl kd)), (b 2, .inl (cI, 16, .inl et)), (b 4, .inl (cI, 17, .inl pl)), (b 5, .inl (cI, 17, .inl nx)), (b 6, .inl (cI, 16, .inl rb))] (QI D (fun (r : Int32) (w1 : va_W) => ∃ (mo2 : Int32) (pl3 : Nat → Int32) (nx3 : Nat → Int32) (rb3 : Nat → Int32), r = (stoR h w (h * w) pc br kd et ws) ∧ w1 = [(b 0, .inr (5, [.int fa, .int (nI h), .int (nI w), .int pc, .int br, .ref (b 1), .ref (b 2), .int ra, .int q1, .int q2, .int q3, .int q4, .ref (b 3), .int fw, .int ea, .int sn, .ref (b 4), .ref (b 5), .ref (b 6), .int mo2, .int (nI rc), .ref (b 7), .ref (b 8), .ref (b 9), .ref (b 10), .ref (b 11), .ref (b 12), .ref (b 13), .ref (b 14), .int tr])), (b 1, .inl (cI, 16, .inl kd)), (b 2, .inl (cI, 16, .inl et)), (b 4, .inl (cI, 17, .inl pl3)), (b 5, .inl (cI, 17, .inl nx3)), (b 6, .inl (cI, 16, .inl rb3))])) := by
  refine MG.of (cc := cX5_stops) (maxL := 5) (ret := (some .int)) (by decide) rfl (Nat.le_of_ble_eq_true rfl) ?_
  intro P_ E_ S_ M_ B_ T_ K_ hx hb hml hr hts hown hlk hnm A hA hP hK hD hS ls hl
  have hl : lv_has ls 5 [(0, .ref (b 0)), (1, .int ws)] := hl
  have hin5 : ∀ x ∈ u_ws RX5 TX5 30, x ∈ wsX5_stops := iwX5_stops_X5
  refine lv_aload_n hx hb dX5_stops_0 rfl (lv_at hl 0 rfl) ?_
  refine va_get (D := D) (ci := 5) (v := .int (nI h)) (C := RX5) (T := TX5) (N := 30) hx hb hts hin5 hown hK.1 hP 0 rfl rfl 1 (by decide) (hts _ (List.mem_of_getElem? (i := 1) rfl)) (fun _ h9 => h9) rfl dX5_stops_1 ?_
  refine lv_if_ne (tgt := 10) hx hb dX5_stops_4 (by decide) (fun c_1 => ?_) (fun c_1 => ?_)
  · have c_1 : ¬ h = 0 := fun z => c_1 ((nI_eq (a := h) (b := 0) (by omega) (by omega)).mpr z)
    refine lv_iload_n hx hb dX5_stops_10 rfl (lv_at hl 1 rfl) ?_
    refine k_ri (run_RS (As := [.int ws]) (rest := []) ⟨hx, hb, hml, hown, hts⟩ (c_X5_noWeeks l D cI cJ cO ws) (va_cwS 1 hts gX5_stops_X5_noWeeks rfl rfl rfl (by decide +kernel) ⟨Nat.le_of_ble_eq_true rfl, Nat.le_of_ble_eq_true rfl⟩) hP hK [] rfl rfl hl.1 rfl (Nat.le_of_ble_eq_true rfl) dX5_stops_11 ⟨Nat.le_refl _, Nat.le_refl _⟩) (fun r_2 q_3 => ?_)
    obtain rfl := q_3
    refine lv_if_eq (tgt := 20) hx hb dX5_stops_14 (by decide) (fun c_4 => ?_) (fun c_4 => ?_)
    · have c_4 := Decidable.not_not.mp (b2_f c_4)
      refine lv_bipush (v := (-9)) hx hb dX5_stops_20 (by decide) ?_
      refine lv_istore_n (lv' := [(2, .int (-9)), (0, .ref (b 0)), (1, .int ws)]) hx hb dX5_stops_22 rfl hl (by decide) rfl (fun ls hl => ?_)
      refine lv_aload_n hx hb dX5_stops_23 rfl (lv_at hl 1 rfl) ?_
      refine lv_iload_n hx hb dX5_stops_24 rfl (lv_at hl 2 rfl) ?_
      refine k_mi (wr := []) [0, 1, 2, 3, 4, 5] [] (run_MV (As := [.int ws]) (rest := []) ⟨hx, hb, hml, hown, hts⟩ (c_X5_isWhole l D cI cJ cO b fa h w pc br ra q1 q2 q3 q4 fw ea sn mo rc tr kd et pl nx rb ws hn hkd het hbr) (cwV 1 hts gX5_stops_X5_isWhole rfl rfl rfl (by decide +kernel) ⟨Nat.le_of_ble_eq_true rfl, Nat.le_of_ble_eq_true rfl⟩) hP hK hD [0, 1, 2, 3, 4, 5] (by decide) rfl rfl rfl rfl rfl hl.1 rfl (Nat.le_of_ble_eq_true rfl) dX5_stops_25 ⟨Nat.le_refl _, Nat.le_refl _⟩) hP hD hS hA rfl rfl (by decide) (by decide) (fun r_5 w_7 H locs q_6 hP hD hS => ?_)
      obtain ⟨mo2_8, pl3_9, nx3_10, rb3_11, rfl, rfl⟩ := q_6
      have hP : va_P D vwCl [(b 0, .inr (5, [.int fa, .int (nI h), .int (nI w), .int pc, .int br, .ref (b 1), .ref (b 2), .int ra, .int q1, .int q2, .int q3, .int q4, .ref (b 3), .int fw, .int ea, .int sn, .ref (b 4), .ref (b 5), .ref (b 6), .int mo2_8, .int (nI rc), .ref (b 7), .ref (b 8), .ref (b 9), .ref (b 10), .ref (b 11), .ref (b 12), .ref (b 13), .ref (b 14), .int tr])), (b 1, .inl (cI, 16, .inl kd)), (b 2, .inl (cI, 16, .inl et)), (b 4, .inl (cI, 17, .inl pl3_9)), (b 5, .inl (cI, 17, .inl nx3_10)), (b 6, .inl (cI, 16, .inl rb3_11))] H := hP.sub [0, 1, 2, 3, 4, 5] rfl
      have hD : va_D A [(b 0, .inr (5, [.int fa, .int (nI h), .int (nI w), .int pc, .int br, .ref (b 1), .ref (b 2), .int ra, .int q1, .int q2, .int q3, .int q4, .ref (b 3), .int fw, .int ea, .int sn, .ref (b 4), .ref (b 5), .ref (b 6), .int mo2_8, .int (nI rc), .ref (b 7), .ref (b 8), .ref (b 9), .ref (b 10), .ref (b 11), .ref (b 12), .ref (b 13), .ref (b 14), .int tr])), (b 1, .inl (cI, 16, .inl kd)), (b 2, .inl (cI, 16, .inl et)), (b 4, .inl (cI, 17, .inl pl3_9)), (b 5, .inl (cI, 17, .inl nx3_10)), (b 6, .inl (cI, 16, .inl rb3_11))] := hD.sub [0, 1, 2, 3, 4, 5] (by decide) rfl
      refine lv_if_ne (tgt := 35) hx hb dX5_stops_28 (by decide) (fun c_12 => ?_) (fun c_12 => ?_)
      · have c_12 := b2_t c_12
        refine lv_iconst (v := 0) hx hb dX5_stops_35 (by decide) ?_
        refine lv_istore_n (lv' := [(3, .int 0), (2, .int (-9)), (0, .ref (b 0)), (1, .int ws)]) hx hb dX5_stops_36 rfl hl (by decide) rfl (fun ls hl => ?_)
        refine lv_iconst (v := 0) hx hb dX5_stops_37 (by decide) ?_
        refine lv_istore (lv' := [(4, .int 0), (3, .int 0), (2, .int (-9)), (0, .ref (b 0)), (1, .int ws)]) hx hb dX5_stops_38 hl (by decide) rfl (fun ls hl => ?_)
        have key_14 : ∀ (n_13 : Nat) (c : Nat) (y : Int32) (o : Nat) (mo2 : Int32) (pl3 : Nat → Int32) (nx3 : Nat → Int32) (rb3 : Nat → Int32), (c ≤ h * w) → (o ≤ 1) → ((o = 1 ∧ y = -9 ∧ ¬ cbP h w (h * w) pc br kd et ws ∧ ∀ z, z < c → ¬ spR h w (h * w) pc br kd et ws z) ∨ (o = 0 ∧ y = (if cbP h w (h * w) pc br kd et ws then (-9 : Int32) else if ffN (fun c => ¬ spR h w (h * w) pc br kd et ws c) (h * w) < h * w then nI (ffN (fun c => ¬ spR h w (h * w) pc br kd et ws c) (h * w)) else -9))) → h * w - c < n_13 → ∀ (H : Heap) (locs : List Loc), va_P D vwCl [(b 0, .inr (5, [.int fa, .int (nI h), .int (nI w), .int pc, .int br, .ref (b 1), .ref (b 2), .int ra, .int q1, .int q2, .int q3, .int q4, .ref (b 3), .int fw, .int ea, .int sn, .ref (b 4), .ref (b 5), .ref (b 6), .int mo2, .int (nI rc), .ref (b 7), .ref (b 8), .ref (b 9), .ref (b 10), .ref (b 11), .ref (b 12), .ref (b 13), .ref (b 14), .int tr])), (b 1, .inl (cI, 16, .inl kd)), (b 2, .inl (cI, 16, .inl et)), (b 4, .inl (cI, 17, .inl pl3)), (b 5, .inl (cI, 17, .inl nx3)), (b 6, .inl (cI, 16, .inl rb3))] H → va_D A [(b 0, .inr (5, [.int fa, .int (nI h), .int (nI w), .int pc, .int br, .ref (b 1), .ref (b 2), .int ra, .int q1, .int q2, .int q3, .int q4, .ref (b 3), .int fw, .int ea, .int sn, .ref (b 4), .ref (b 5), .ref (b 6), .int mo2, .int (nI rc), .ref (b 7), .ref (b 8), .ref (b 9), .ref (b 10), .ref (b 11), .ref (b 12), .ref (b 13), .ref (b 14), .int tr])), (b 1, .inl (cI, 16, .inl kd)), (b 2, .inl (cI, 16, .inl et)), (b 4, .inl (cI, 17, .inl pl3)), (b 5, .inl (cI, 17, .inl nx3)), (b 6, .inl (cI, 16, .inl rb3))] → va_S A S_.heap H locs → ∀ ls : Array Slot, lv_has ls 5 [(0, .ref (b 0)), (1, .int ws), (2, .int y), (3, .int (nI o)), (4, .int (nI c))] → W P_ l E_ ({ frames := 5, cells := 0, slots := 0, locals := 123 } : Room) S_ M_ (([.ref (b 0), .int ws] : List Value).toArray) B_ T_ K_ H locs 0 0 (MQ B_ ((QI D (fun (r : Int32) (w1 : va_W) => ∃ (mo2 : Int32) (pl3 : Nat → Int32) (nx3 : Nat → Int32) (rb3 : Nat → Int32), r = (stoR h w (h * w) pc br kd et ws) ∧ w1 = [(b 0, .inr (5, [.int fa, .int (nI h), .int (nI w), .int pc, .int br, .ref (b 1), .ref (b 2), .int ra, .int q1, .int q2, .int q3, .int q4, .ref (b 3), .int fw, .int ea, .int sn, .ref (b 4), .ref (b 5), .ref (b 6), .int mo2, .int (nI rc), .ref (b 7), .ref (b 8), .ref (b 9), .ref (b 10), .ref (b 11), .ref (b 12), .ref (b 13), .ref (b 14), .int tr])), (b 1, .inl (cI, 16, .inl kd)), (b 2, .inl (cI, 16, .inl et)), (b 4, .inl (cI, 17, .inl pl3)), (b 5, .inl (cI, 17, .inl nx3)), (b 6, .inl (cI, 16, .inl rb3))])) A) (([.ref (b 0), .int ws] : List Value).toArray) S_ 0 0 A) (F0 M_ 40 ls []) := by
          intro n_13
          induction n_13 with
          | zero =>
            intro c y o mo2 pl3 nx3 rb3 hk ho hI hmu_n_13
            exact absurd hmu_n_13 (Nat.not_lt_zero _)
          | succ n_13 ih_15 =>
            intro c y o mo2 pl3 nx3 rb3 hk ho hI hmu_n_13 H locs hP hD hS ls hl
            have hl : lv_has ls 5 [(0, .ref (b 0)), (1, .int ws), (2, .int y), (3, .int (nI o)), (4, .int (nI c))] := hl
            have hP : va_P D vwCl [(b 0, .inr (5, [.int fa, .int (nI h), .int (nI w), .int pc, .int br, .ref (b 1), .ref (b 2), .int ra, .int q1, .int q2, .int q3, .int q4, .ref (b 3), .int fw, .int ea, .int sn, .ref (b 4), .ref (b 5), .ref (b 6), .int mo2, .int (nI rc), .ref (b 7), .ref (b 8), .ref (b 9), .ref (b 10), .ref (b 11), .ref (b 12), .ref (b 13), .ref (b 14), .int tr])), (b 1, .inl (cI, 16, .inl kd)), (b 2, .inl (cI, 16, .inl et)), (b 4, .inl (cI, 17, .inl pl3)), (b 5, .inl (cI, 17, .inl nx3)), (b 6, .inl (cI, 16, .inl rb3))] H := hP
            have hD : va_D A [(b 0, .inr (5, [.int fa, .int (nI h), .int (nI w), .int pc, .int br, .ref (b 1), .ref (b 2), .int ra, .int q1, .int q2, .int q3, .int q4, .ref (b 3), .int fw, .int ea, .int sn, .ref (b 4), .ref (b 5), .ref (b 6), .int mo2, .int (nI rc), .ref (b 7), .ref (b 8), .ref (b 9), .ref (b 10), .ref (b 11), .ref (b 12), .ref (b 13), .ref (b 14), .int tr])), (b 1, .inl (cI, 16, .inl kd)), (b 2, .inl (cI, 16, .inl et)), (b 4, .inl (cI, 17, .inl pl3)), (b 5, .inl (cI, 17, .inl nx3)), (b 6, .inl (cI, 16, .inl rb3))] := hD
            refine lv_iload hx hb dX5_stops_40 (lv_at hl 4 rfl) ?_
            refine lv_aload_n hx hb dX5_stops_42 rfl (lv_at hl 0 rfl) ?_
            refine k_ri (run_RV (As := []) (rest := [.int (nI c)]) ⟨hx, hb, hml, hown, hts⟩ (c_X5_cells l D cI cJ cO b fa h w pc br ra q1 q2 q3 q4 fw ea sn mo2 rc tr) (cwV 0 hts gX5_stops_X5_cells rfl rfl rfl (by decide +kernel) ⟨Nat.le_of_ble_eq_true rfl, Nat.le_of_ble_eq_true rfl⟩) hP hK [0] rfl rfl rfl rfl rfl hl.1 rfl (Nat.le_of_ble_eq_true rfl) dX5_stops_43 ⟨Nat.le_refl _, Nat.le_refl _⟩) (fun r_16 q_17 => ?_)
            obtain rfl := q_17
            refine lv_icmp_ge (tgt := 112) hx hb dX5_stops_46 (by decide) (fun c_18 => ?_) (fun c_18 => ?_)
            · have c_18 : h * w ≤ c := (nI_leI (a := h * w) (b := c) (by omega) (by omega)).mp c_18
              refine lv_iload_n hx hb dX5_stops_112 rfl (lv_at hl 2 rfl) ?_
              refine mi_ret (v := y) hx hb hr hlk hP hD hS dX5_stops_113 ?_
              refine ⟨mo2, pl3, nx3, rb3, ?_, rfl⟩
              rw [stoR, if_neg c_1, if_pos c_4]
              rcases hI with ⟨ho1, hy1, hnc, hs9⟩ | ⟨ho1, hy1⟩
              · first | exact absurd ho1 (by omega) | rw [hy1, if_neg hnc, ffN_all (P := fun c => ¬ spR h w (h * w) pc br kd et ws c) (n := h * w) (fun q hq => hs9 q (by omega)), if_neg (Nat.lt_irrefl _)]
              · exact hy1
            · have c_18 : c < h * w := Nat.lt_of_not_le (fun z => c_18 ((nI_leI (a := h * w) (b := c) (by omega) (by omega)).mpr z))
              refine lv_iload_n hx hb dX5_stops_49 rfl (lv_at hl 3 rfl) ?_
              refine lv_if_eq (tgt := 112) hx hb dX5_stops_50 (by decide) (fun c_19 => ?_) (fun c_19 => ?_)
              · have c_19 : o = 0 := (nI_eq (a := o) (b := 0) (by omega) (by omega)).mp c_19
                refine lv_iload_n hx hb dX5_stops_112 rfl (lv_at hl 2 rfl) ?_
                refine mi_ret (v := y) hx hb hr hlk hP hD hS dX5_stops_113 ?_
                refine ⟨mo2, pl3, nx3, rb3, ?_, rfl⟩
                rw [stoR, if_neg c_1, if_pos c_4]
                rcases hI with ⟨ho1, hy1, hnc, hs9⟩ | ⟨ho1, hy1⟩
                · first | exact absurd ho1 (by omega) | rw [hy1, if_neg hnc, ffN_all (P := fun c => ¬ spR h w (h * w) pc br kd et ws c) (n := h * w) (fun q hq => hs9 q (by omega)), if_neg (Nat.lt_irrefl _)]
                · exact hy1
              · have c_19 : ¬ o = 0 := fun z => c_19 ((nI_eq (a := o) (b := 0) (by omega) (by omega)).mpr z)
                obtain ⟨ho1, hy1, hnc, hs9⟩ := hI.resolve_right (fun z => by omega)
                refine lv_aload_n hx hb dX5_stops_53 rfl (lv_at hl 0 rfl) ?_
                refine va_get (D := D) (ci := 5) (v := .ref (b 1)) (C := RX5) (T := TX5) (N := 30) hx hb hts hin5 hown hK.1 hP 0 rfl rfl 5 (by decide) (hts _ (List.mem_of_getElem? (i := 2) rfl)) (fun _ h9 => h9) rfl dX5_stops_54 ?_
                refine lv_iload hx hb dX5_stops_57 (lv_at hl 4 rfl) ?_
                refine k_iald hx hb hK hP 1 0 rfl rfl (j := c) (vp_in_nI (show c < 16 by omega) (by decide)) (nI_clamp (by omega)) dX5_stops_59 ?_
                refine lv_iconst (v := 3) hx hb dX5_stops_60 (by decide) ?_
                refine lv_icmp_ne (tgt := 106) hx hb dX5_stops_61 (by decide) (fun c_20 => ?_) (fun c_20 => ?_)
                · refine lv_iinc (v := (nI (c + 1))) (lv' := [(4, .int (nI (c + 1))), (0, .ref (b 0)), (1, .int ws), (2, .int y), (3, .int (nI o))]) hx hb dX5_stops_106 hl (k := 4) rfl (nI_add _ 1) (by decide) rfl (fun ls hl => ?_)
                  refine lv_goto (tgt := 40) hx hb dX5_stops_109 (by decide) ?_
                  exact ih_15 (c + 1) y o mo2 pl3 nx3 rb3 (by omega) (by omega) (Or.inl ⟨ho1, hy1, hnc, nc_s hs9 (fun z => c_20 z.1)⟩) (by omega) _ _ hP hD hS ls (lv_sub hl [1, 2, 3, 4, 0] rfl)
                · have h3 : kd c = 3 := c_20
                  refine lv_aload_n hx hb dX5_stops_64 rfl (lv_at hl 0 rfl) ?_
                  refine va_get (D := D) (ci := 5) (v := .ref (b 1)) (C := RX5) (T := TX5) (N := 30) hx hb hts hin5 hown hK.1 hP 0 rfl rfl 5 (by decide) (hts _ (List.mem_of_getElem? (i := 2) rfl)) (fun _ h9 => h9) rfl dX5_stops_65 ?_
                  refine lv_iload hx hb dX5_stops_68 (lv_at hl 4 rfl) ?_
                  refine lv_iconst (v := 0) hx hb dX5_stops_70 (by decide) ?_
                  refine k_iast hx hb hK hP hD hS 1 0 rfl rfl (j := c) (vp_in_nI (show c < 16 by omega) (by decide)) (nI_clamp (by omega)) dX5_stops_71 (fun H locs hP hD hS => ?_)
                  have hP : va_P D vwCl [(b 0, .inr (5, [.int fa, .int (nI h), .int (nI w), .int pc, .int br, .ref (b 1), .ref (b 2), .int ra, .int q1, .int q2, .int q3, .int q4, .ref (b 3), .int fw, .int ea, .int sn, .ref (b 4), .ref (b 5), .ref (b 6), .int mo2, .int (nI rc), .ref (b 7), .ref (b 8), .ref (b 9), .ref (b 10), .ref (b 11), .ref (b 12), .ref (b 13), .ref (b 14), .int tr])), (b 1, .inl (cI, 16, .inl (upd kd c 0))), (b 2, .inl (cI, 16, .inl et)), (b 4, .inl (cI, 17, .inl pl3)), (b 5, .inl (cI, 17, .inl nx3)), (b 6, .inl (cI, 16, .inl rb3))] H := hP
                  have hD : va_D A [(b 0, .inr (5, [.int fa, .int (nI h), .int (nI w), .int pc, .int br, .ref (b 1), .ref (b 2), .int ra, .int q1, .int q2, .int q3, .int q4, .ref (b 3), .int fw, .int ea, .int sn, .ref (b 4), .ref (b 5), .ref (b 6), .int mo2, .int (nI rc), .ref (b 7), .ref (b 8), .ref (b 9), .ref (b 10), .ref (b 11), .ref (b 12), .ref (b 13), .ref (b 14), .int tr])), (b 1, .inl (cI, 16, .inl (upd kd c 0))), (b 2, .inl (cI, 16, .inl et)), (b 4, .inl (cI, 17, .inl pl3)), (b 5, .inl (cI, 17, .inl nx3)), (b 6, .inl (cI, 16, .inl rb3))] := hD
                  refine lv_aload_n hx hb dX5_stops_72 rfl (lv_at hl 0 rfl) ?_
                  refine lv_iload_n hx hb dX5_stops_73 rfl (lv_at hl 1 rfl) ?_
                  refine k_mi (wr := []) [0, 1, 2, 3, 4, 5] [] (run_MV (As := [.int ws]) (rest := []) ⟨hx, hb, hml, hown, hts⟩ (c_X5_isWhole l D cI cJ cO b fa h w pc br ra q1 q2 q3 q4 fw ea sn mo2 rc tr (upd kd c 0) et pl3 nx3 rb3 ws hn (kd_up (k := 0) hkd (by decide)) het hbr) (cwV 1 hts gX5_stops_X5_isWhole rfl rfl rfl (by decide +kernel) ⟨Nat.le_of_ble_eq_true rfl, Nat.le_of_ble_eq_true rfl⟩) hP hK hD [0, 1, 2, 3, 4, 5] (by decide) rfl rfl rfl rfl rfl hl.1 rfl (Nat.le_of_ble_eq_true rfl) dX5_stops_74 ⟨Nat.le_refl _, Nat.le_refl _⟩) hP hD hS hA rfl rfl (by decide) (by decide) (fun r_21 w_23 H locs q_22 hP hD hS => ?_)
                  obtain ⟨mo2_24, pl3_25, nx3_26, rb3_27, rfl, rfl⟩ := q_22
                  have hP : va_P D vwCl [(b 0, .inr (5, [.int fa, .int (nI h), .int (nI w), .int pc, .int br, .ref (b 1), .ref (b 2), .int ra, .int q1, .int q2, .int q3, .int q4, .ref (b 3), .int fw, .int ea, .int sn, .ref (b 4), .ref (b 5), .ref (b 6), .int mo2_24, .int (nI rc), .ref (b 7), .ref (b 8), .ref (b 9), .ref (b 10), .ref (b 11), .ref (b 12), .ref (b 13), .ref (b 14), .int tr])), (b 1, .inl (cI, 16, .inl (upd kd c 0))), (b 2, .inl (cI, 16, .inl et)), (b 4, .inl (cI, 17, .inl pl3_25)), (b 5, .inl (cI, 17, .inl nx3_26)), (b 6, .inl (cI, 16, .inl rb3_27))] H := hP.sub [0, 1, 2, 3, 4, 5] rfl
                  have hD : va_D A [(b 0, .inr (5, [.int fa, .int (nI h), .int (nI w), .int pc, .int br, .ref (b 1), .ref (b 2), .int ra, .int q1, .int q2, .int q3, .int q4, .ref (b 3), .int fw, .int ea, .int sn, .ref (b 4), .ref (b 5), .ref (b 6), .int mo2_24, .int (nI rc), .ref (b 7), .ref (b 8), .ref (b 9), .ref (b 10), .ref (b 11), .ref (b 12), .ref (b 13), .ref (b 14), .int tr])), (b 1, .inl (cI, 16, .inl (upd kd c 0))), (b 2, .inl (cI, 16, .inl et)), (b 4, .inl (cI, 17, .inl pl3_25)), (b 5, .inl (cI, 17, .inl nx3_26)), (b 6, .inl (cI, 16, .inl rb3_27))] := hD.sub [0, 1, 2, 3, 4, 5] (by decide) rfl
                  refine lv_if_eq (tgt := 85) hx hb dX5_stops_77 (by decide) (fun c_28 => ?_) (fun c_28 => ?_)
                  · have c_28 := b2_f c_28
                    refine lv_bipush (v := (-9)) hx hb dX5_stops_85 (by decide) ?_
                    refine lv_istore_n (lv' := [(2, .int (-9)), (0, .ref (b 0)), (1, .int ws), (3, .int (nI o)), (4, .int (nI c))]) hx hb dX5_stops_87 rfl hl (by decide) rfl (fun ls hl => ?_)
                    refine lv_aload_n hx hb dX5_stops_88 rfl (lv_at hl 1 rfl) ?_
                    refine va_get (D := D) (ci := 5) (v := .ref (b 1)) (C := RX5) (T := TX5) (N := 30) hx hb hts hin5 hown hK.1 hP 0 rfl rfl 5 (by decide) (hts _ (List.mem_of_getElem? (i := 2) rfl)) (fun _ h9 => h9) rfl dX5_stops_89 ?_
                    refine lv_iload hx hb dX5_stops_92 (lv_at hl 4 rfl) ?_
                    refine lv_iconst (v := 3) hx hb dX5_stops_94 (by decide) ?_
                    refine k_iast hx hb hK hP hD hS 1 0 rfl rfl (j := c) (vp_in_nI (show c < 16 by omega) (by decide)) (nI_clamp (by omega)) dX5_stops_95 (fun H locs hP hD hS => ?_)
                    have hP : va_P D vwCl [(b 0, .inr (5, [.int fa, .int (nI h), .int (nI w), .int pc, .int br, .ref (b 1), .ref (b 2), .int ra, .int q1, .int q2, .int q3, .int q4, .ref (b 3), .int fw, .int ea, .int sn, .ref (b 4), .ref (b 5), .ref (b 6), .int mo2_24, .int (nI rc), .ref (b 7), .ref (b 8), .ref (b 9), .ref (b 10), .ref (b 11), .ref (b 12), .ref (b 13), .ref (b 14), .int tr])), (b 1, .inl (cI, 16, .inl (upd (upd kd c 0) c 3))), (b 2, .inl (cI, 16, .inl et)), (b 4, .inl (cI, 17, .inl pl3_25)), (b 5, .inl (cI, 17, .inl nx3_26)), (b 6, .inl (cI, 16, .inl rb3_27))] H := hP
                    have hD : va_D A [(b 0, .inr (5, [.int fa, .int (nI h), .int (nI w), .int pc, .int br, .ref (b 1), .ref (b 2), .int ra, .int q1, .int q2, .int q3, .int q4, .ref (b 3), .int fw, .int ea, .int sn, .ref (b 4), .ref (b 5), .ref (b 6), .int mo2_24, .int (nI rc), .ref (b 7), .ref (b 8), .ref (b 9), .ref (b 10), .ref (b 11), .ref (b 12), .ref (b 13), .ref (b 14), .int tr])), (b 1, .inl (cI, 16, .inl (upd (upd kd c 0) c 3))), (b 2, .inl (cI, 16, .inl et)), (b 4, .inl (cI, 17, .inl pl3_25)), (b 5, .inl (cI, 17, .inl nx3_26)), (b 6, .inl (cI, 16, .inl rb3_27))] := hD
                    rw [show (upd (upd kd c 0) c 3) = kd from (by rw [upd_upd, ← h3]; exact upd_self _ _)] at hP hD
                    refine lv_iload_n hx hb dX5_stops_96 rfl (lv_at hl 0 rfl) ?_
                    refine lv_if_ge (tgt := 104) hx hb dX5_stops_97 (by decide) (fun c_29 => ?_) (fun c_29 => ?_)
                    · exact absurd c_29 (by decide)
                    · refine lv_iconst (v := 1) hx hb dX5_stops_100 (by decide) ?_
                      refine lv_goto (tgt := 105) hx hb dX5_stops_101 (by decide) ?_
                      refine lv_istore_n (lv' := [(3, .int 1), (2, .int (-9)), (0, .ref (b 0)), (1, .int ws), (4, .int (nI c))]) hx hb dX5_stops_105 rfl hl (by decide) rfl (fun ls hl => ?_)
                      refine lv_iinc (v := (nI (c + 1))) (lv' := [(4, .int (nI (c + 1))), (3, .int 1), (2, .int (-9)), (0, .ref (b 0)), (1, .int ws)]) hx hb dX5_stops_106 hl (k := 4) rfl (nI_add _ 1) (by decide) rfl (fun ls hl => ?_)
                      refine lv_goto (tgt := 40) hx hb dX5_stops_109 (by decide) ?_
                      exact ih_15 (c + 1) (-9) 1 mo2_24 pl3_25 nx3_26 rb3_27 (by omega) (by decide) (Or.inl ⟨rfl, rfl, hnc, nc_s hs9 (fun z => c_28 z.2)⟩) (by omega) _ _ hP hD hS ls (lv_sub hl [3, 4, 2, 1, 0] rfl)
                  · have c_28 := b2_t c_28
                    refine lv_iload hx hb dX5_stops_80 (lv_at hl 4 rfl) ?_
                    refine lv_goto (tgt := 87) hx hb dX5_stops_82 (by decide) ?_
                    refine lv_istore_n (lv' := [(2, .int (nI c)), (0, .ref (b 0)), (1, .int ws), (3, .int (nI o)), (4, .int (nI c))]) hx hb dX5_stops_87 rfl hl (by decide) rfl (fun ls hl => ?_)
                    refine lv_aload_n hx hb dX5_stops_88 rfl (lv_at hl 1 rfl) ?_
                    refine va_get (D := D) (ci := 5) (v := .ref (b 1)) (C := RX5) (T := TX5) (N := 30) hx hb hts hin5 hown hK.1 hP 0 rfl rfl 5 (by decide) (hts _ (List.mem_of_getElem? (i := 2) rfl)) (fun _ h9 => h9) rfl dX5_stops_89 ?_
                    refine lv_iload hx hb dX5_stops_92 (lv_at hl 4 rfl) ?_
                    refine lv_iconst (v := 3) hx hb dX5_stops_94 (by decide) ?_
                    refine k_iast hx hb hK hP hD hS 1 0 rfl rfl (j := c) (vp_in_nI (show c < 16 by omega) (by decide)) (nI_clamp (by omega)) dX5_stops_95 (fun H locs hP hD hS => ?_)
                    have hP : va_P D vwCl [(b 0, .inr (5, [.int fa, .int (nI h), .int (nI w), .int pc, .int br, .ref (b 1), .ref (b 2), .int ra, .int q1, .int q2, .int q3, .int q4, .ref (b 3), .int fw, .int ea, .int sn, .ref (b 4), .ref (b 5), .ref (b 6), .int mo2_24, .int (nI rc), .ref (b 7), .ref (b 8), .ref (b 9), .ref (b 10), .ref (b 11), .ref (b 12), .ref (b 13), .ref (b 14), .int tr])), (b 1, .inl (cI, 16, .inl (upd (upd kd c 0) c 3))), (b 2, .inl (cI, 16, .inl et)), (b 4, .inl (cI, 17, .inl pl3_25)), (b 5, .inl (cI, 17, .inl nx3_26)), (b 6, .inl (cI, 16, .inl rb3_27))] H := hP
                    have hD : va_D A [(b 0, .inr (5, [.int fa, .int (nI h), .int (nI w), .int pc, .int br, .ref (b 1), .ref (b 2), .int ra, .int q1, .int q2, .int q3, .int q4, .ref (b 3), .int fw, .int ea, .int sn, .ref (b 4), .ref (b 5), .ref (b 6), .int mo2_24, .int (nI rc), .ref (b 7), .ref (b 8), .ref (b 9), .ref (b 10), .ref (b 11), .ref (b 12), .ref (b 13), .ref (b 14), .int tr])), (b 1, .inl (cI, 16, .inl (upd (upd kd c 0) c 3))), (b 2, .inl (cI, 16, .inl et)), (b 4, .inl (cI, 17, .inl pl3_25)), (b 5, .inl (cI, 17, .inl nx3_26)), (b 6, .inl (cI, 16, .inl rb3_27))] := hD
                    rw [show (upd (upd kd c 0) c 3) = kd from (by rw [upd_upd, ← h3]; exact upd_self _ _)] at hP hD
                    refine lv_iload_n hx hb dX5_stops_96 rfl (lv_at hl 0 rfl) ?_
                    refine lv_if_ge (tgt := 104) hx hb dX5_stops_97 (by decide) (fun c_30 => ?_) (fun c_30 => ?_)
                    · have c_30 : 0 ≤ c := (nI_leI (a := 0) (b := c) (by omega) (by omega)).mp c_30
                      refine lv_iconst (v := 0) hx hb dX5_stops_104 (by decide) ?_
                      refine lv_istore_n (lv' := [(3, .int 0), (2, .int (nI c)), (0, .ref (b 0)), (1, .int ws), (4, .int (nI c))]) hx hb dX5_stops_105 rfl hl (by decide) rfl (fun ls hl => ?_)
                      refine lv_iinc (v := (nI (c + 1))) (lv' := [(4, .int (nI (c + 1))), (3, .int 0), (2, .int (nI c)), (0, .ref (b 0)), (1, .int ws)]) hx hb dX5_stops_106 hl (k := 4) rfl (nI_add _ 1) (by decide) rfl (fun ls hl => ?_)
                      refine lv_goto (tgt := 40) hx hb dX5_stops_109 (by decide) ?_
                      exact ih_15 (c + 1) (nI c) 0 mo2_24 pl3_25 nx3_26 rb3_27 (by omega) (by decide) (Or.inr ⟨rfl, by rw [if_neg hnc, ffN_at (P := fun c => ¬ spR h w (h * w) pc br kd et ws c) hs9 (fun z => z ⟨h3, c_28⟩) (by omega), if_pos (by omega)]⟩) (by omega) _ _ hP hD hS ls (lv_sub hl [3, 4, 2, 1, 0] rfl)
                    · exact absurd (Int32.not_lt.mp (nI_nn (show c < 2 ^ 31 by omega))) c_30
        exact key_14 _ 0 (-9) 0 mo2_8 pl3_9 nx3_10 rb3_11 (by omega) (by decide) (Or.inr ⟨rfl, by rw [if_pos c_12]⟩) (Nat.lt_succ_self _) _ _ hP hD hS ls (lv_sub hl [3, 4, 2, 1, 0] rfl)
      · have c_12 := b2_f c_12
        refine lv_iconst (v := 1) hx hb dX5_stops_31 (by decide) ?_
        refine lv_goto (tgt := 36) hx hb dX5_stops_32 (by decide) ?_
        refine lv_istore_n (lv' := [(3, .int 1), (2, .int (-9)), (0, .ref (b 0)), (1, .int ws)]) hx hb dX5_stops_36 rfl hl (by decide) rfl (fun ls hl => ?_)
        refine lv_iconst (v := 0) hx hb dX5_stops_37 (by decide) ?_
        refine lv_istore (lv' := [(4, .int 0), (3, .int 1), (2, .int (-9)), (0, .ref (b 0)), (1, .int ws)]) hx hb dX5_stops_38 hl (by decide) rfl (fun ls hl => ?_)
        have key_32 : ∀ (n_31 : Nat) (c : Nat) (y : Int32) (o : Nat) (mo2 : Int32) (pl3 : Nat → Int32) (nx3 : Nat → Int32) (rb3 : Nat → Int32), (c ≤ h * w) → (o ≤ 1) → ((o = 1 ∧ y = -9 ∧ ¬ cbP h w (h * w) pc br kd et ws ∧ ∀ z, z < c → ¬ spR h w (h * w) pc br kd et ws z) ∨ (o = 0 ∧ y = (if cbP h w (h * w) pc br kd et ws then (-9 : Int32) else if ffN (fun c => ¬ spR h w (h * w) pc br kd et ws c) (h * w) < h * w then nI (ffN (fun c => ¬ spR h w (h * w) pc br kd et ws c) (h * w)) else -9))) → h * w - c < n_31 → ∀ (H : Heap) (locs : List Loc), va_P D vwCl [(b 0, .inr (5, [.int fa, .int (nI h), .int (nI w), .int pc, .int br, .ref (b 1), .ref (b 2), .int ra, .int q1, .int q2, .int q3, .int q4, .ref (b 3), .int fw, .int ea, .int sn, .ref (b 4), .ref (b 5), .ref (b 6), .int mo2, .int (nI rc), .ref (b 7), .ref (b 8), .ref (b 9), .ref (b 10), .ref (b 11), .ref (b 12), .ref (b 13), .ref (b 14), .int tr])), (b 1, .inl (cI, 16, .inl kd)), (b 2, .inl (cI, 16, .inl et)), (b 4, .inl (cI, 17, .inl pl3)), (b 5, .inl (cI, 17, .inl nx3)), (b 6, .inl (cI, 16, .inl rb3))] H → va_D A [(b 0, .inr (5, [.int fa, .int (nI h), .int (nI w), .int pc, .int br, .ref (b 1), .ref (b 2), .int ra, .int q1, .int q2, .int q3, .int q4, .ref (b 3), .int fw, .int ea, .int sn, .ref (b 4), .ref (b 5), .ref (b 6), .int mo2, .int (nI rc), .ref (b 7), .ref (b 8), .ref (b 9), .ref (b 10), .ref (b 11), .ref (b 12), .ref (b 13), .ref (b 14), .int tr])), (b 1, .inl (cI, 16, .inl kd)), (b 2, .inl (cI, 16, .inl et)), (b 4, .inl (cI, 17, .inl pl3)), (b 5, .inl (cI, 17, .inl nx3)), (b 6, .inl (cI, 16, .inl rb3))] → va_S A S_.heap H locs → ∀ ls : Array Slot, lv_has ls 5 [(0, .ref (b 0)), (1, .int ws), (2, .int y), (3, .int (nI o)), (4, .int (nI c))] → W P_ l E_ ({ frames := 5, cells := 0, slots := 0, locals := 123 } : Room) S_ M_ (([.ref (b 0), .int ws] : List Value).toArray) B_ T_ K_ H locs 0 0 (MQ B_ ((QI D (fun (r : Int32) (w1 : va_W) => ∃ (mo2 : Int32) (pl3 : Nat → Int32) (nx3 : Nat → Int32) (rb3 : Nat → Int32), r = (stoR h w (h * w) pc br kd et ws) ∧ w1 = [(b 0, .inr (5, [.int fa, .int (nI h), .int (nI w), .int pc, .int br, .ref (b 1), .ref (b 2), .int ra, .int q1, .int q2, .int q3, .int q4, .ref (b 3), .int fw, .int ea, .int sn, .ref (b 4), .ref (b 5), .ref (b 6), .int mo2, .int (nI rc), .ref (b 7), .ref (b 8), .ref (b 9), .ref (b 10), .ref (b 11), .ref (b 12), .ref (b 13), .ref (b 14), .int tr])), (b 1, .inl (cI, 16, .inl kd)), (b 2, .inl (cI, 16, .inl et)), (b 4, .inl (cI, 17, .inl pl3)), (b 5, .inl (cI, 17, .inl nx3)), (b 6, .inl (cI, 16, .inl rb3))])) A) (([.ref (b 0), .int ws] : List Value).toArray) S_ 0 0 A) (F0 M_ 40 ls []) := by
          intro n_31
          induction n_31 with
          | zero =>
            intro c y o mo2 pl3 nx3 rb3 hk ho hI hmu_n_31
            exact absurd hmu_n_31 (Nat.not_lt_zero _)
          | succ n_31 ih_33 =>
            intro c y o mo2 pl3 nx3 rb3 hk ho hI hmu_n_31 H locs hP hD hS ls hl
            have hl : lv_has ls 5 [(0, .ref (b 0)), (1, .int ws), (2, .int y), (3, .int (nI o)), (4, .int (nI c))] := hl
            have hP : va_P D vwCl [(b 0, .inr (5, [.int fa, .int (nI h), .int (nI w), .int pc, .int br, .ref (b 1), .ref (b 2), .int ra, .int q1, .int q2, .int q3, .int q4, .ref (b 3), .int fw, .int ea, .int sn, .ref (b 4), .ref (b 5), .ref (b 6), .int mo2, .int (nI rc), .ref (b 7), .ref (b 8), .ref (b 9), .ref (b 10), .ref (b 11), .ref (b 12), .ref (b 13), .ref (b 14), .int tr])), (b 1, .inl (cI, 16, .inl kd)), (b 2, .inl (cI, 16, .inl et)), (b 4, .inl (cI, 17, .inl pl3)), (b 5, .inl (cI, 17, .inl nx3)), (b 6, .inl (cI, 16, .inl rb3))] H := hP
            have hD : va_D A [(b 0, .inr (5, [.int fa, .int (nI h), .int (nI w), .int pc, .int br, .ref (b 1), .ref (b 2), .int ra, .int q1, .int q2, .int q3, .int q4, .ref (b 3), .int fw, .int ea, .int sn, .ref (b 4), .ref (b 5), .ref (b 6), .int mo2, .int (nI rc), .ref (b 7), .ref (b 8), .ref (b 9), .ref (b 10), .ref (b 11), .ref (b 12), .ref (b 13), .ref (b 14), .int tr])), (b 1, .inl (cI, 16, .inl kd)), (b 2, .inl (cI, 16, .inl et)), (b 4, .inl (cI, 17, .inl pl3)), (b 5, .inl (cI, 17, .inl nx3)), (b 6, .inl (cI, 16, .inl rb3))] := hD
            refine lv_iload hx hb dX5_stops_40 (lv_at hl 4 rfl) ?_
            refine lv_aload_n hx hb dX5_stops_42 rfl (lv_at hl 0 rfl) ?_
            refine k_ri (run_RV (As := []) (rest := [.int (nI c)]) ⟨hx, hb, hml, hown, hts⟩ (c_X5_cells l D cI cJ cO b fa h w pc br ra q1 q2 q3 q4 fw ea sn mo2 rc tr) (cwV 0 hts gX5_stops_X5_cells rfl rfl rfl (by decide +kernel) ⟨Nat.le_of_ble_eq_true rfl, Nat.le_of_ble_eq_true rfl⟩) hP hK [0] rfl rfl rfl rfl rfl hl.1 rfl (Nat.le_of_ble_eq_true rfl) dX5_stops_43 ⟨Nat.le_refl _, Nat.le_refl _⟩) (fun r_34 q_35 => ?_)
            obtain rfl := q_35
            refine lv_icmp_ge (tgt := 112) hx hb dX5_stops_46 (by decide) (fun c_36 => ?_) (fun c_36 => ?_)
            · have c_36 : h * w ≤ c := (nI_leI (a := h * w) (b := c) (by omega) (by omega)).mp c_36
              refine lv_iload_n hx hb dX5_stops_112 rfl (lv_at hl 2 rfl) ?_
              refine mi_ret (v := y) hx hb hr hlk hP hD hS dX5_stops_113 ?_
              refine ⟨mo2, pl3, nx3, rb3, ?_, rfl⟩
              rw [stoR, if_neg c_1, if_pos c_4]
              rcases hI with ⟨ho1, hy1, hnc, hs9⟩ | ⟨ho1, hy1⟩
              · first | exact absurd ho1 (by omega) | rw [hy1, if_neg hnc, ffN_all (P := fun c => ¬ spR h w (h * w) pc br kd et ws c) (n := h * w) (fun q hq => hs9 q (by omega)), if_neg (Nat.lt_irrefl _)]
              · exact hy1
            · have c_36 : c < h * w := Nat.lt_of_not_le (fun z => c_36 ((nI_leI (a := h * w) (b := c) (by omega) (by omega)).mpr z))
              refine lv_iload_n hx hb dX5_stops_49 rfl (lv_at hl 3 rfl) ?_
              refine lv_if_eq (tgt := 112) hx hb dX5_stops_50 (by decide) (fun c_37 => ?_) (fun c_37 => ?_)
              · have c_37 : o = 0 := (nI_eq (a := o) (b := 0) (by omega) (by omega)).mp c_37
                refine lv_iload_n hx hb dX5_stops_112 rfl (lv_at hl 2 rfl) ?_
                refine mi_ret (v := y) hx hb hr hlk hP hD hS dX5_stops_113 ?_
                refine ⟨mo2, pl3, nx3, rb3, ?_, rfl⟩
                rw [stoR, if_neg c_1, if_pos c_4]
                rcases hI with ⟨ho1, hy1, hnc, hs9⟩ | ⟨ho1, hy1⟩
                · first | exact absurd ho1 (by omega) | rw [hy1, if_neg hnc, ffN_all (P := fun c => ¬ spR h w (h * w) pc br kd et ws c) (n := h * w) (fun q hq => hs9 q (by omega)), if_neg (Nat.lt_irrefl _)]
                · exact hy1
              · have c_37 : ¬ o = 0 := fun z => c_37 ((nI_eq (a := o) (b := 0) (by omega) (by omega)).mpr z)
                obtain ⟨ho1, hy1, hnc, hs9⟩ := hI.resolve_right (fun z => by omega)
                refine lv_aload_n hx hb dX5_stops_53 rfl (lv_at hl 0 rfl) ?_
                refine va_get (D := D) (ci := 5) (v := .ref (b 1)) (C := RX5) (T := TX5) (N := 30) hx hb hts hin5 hown hK.1 hP 0 rfl rfl 5 (by decide) (hts _ (List.mem_of_getElem? (i := 2) rfl)) (fun _ h9 => h9) rfl dX5_stops_54 ?_
                refine lv_iload hx hb dX5_stops_57 (lv_at hl 4 rfl) ?_
                refine k_iald hx hb hK hP 1 0 rfl rfl (j := c) (vp_in_nI (show c < 16 by omega) (by decide)) (nI_clamp (by omega)) dX5_stops_59 ?_
                refine lv_iconst (v := 3) hx hb dX5_stops_60 (by decide) ?_
                refine lv_icmp_ne (tgt := 106) hx hb dX5_stops_61 (by decide) (fun c_38 => ?_) (fun c_38 => ?_)
                · refine lv_iinc (v := (nI (c + 1))) (lv' := [(4, .int (nI (c + 1))), (0, .ref (b 0)), (1, .int ws), (2, .int y), (3, .int (nI o))]) hx hb dX5_stops_106 hl (k := 4) rfl (nI_add _ 1) (by decide) rfl (fun ls hl => ?_)
                  refine lv_goto (tgt := 40) hx hb dX5_stops_109 (by decide) ?_
                  exact ih_33 (c + 1) y o mo2 pl3 nx3 rb3 (by omega) (by omega) (Or.inl ⟨ho1, hy1, hnc, nc_s hs9 (fun z => c_38 z.1)⟩) (by omega) _ _ hP hD hS ls (lv_sub hl [1, 2, 3, 4, 0] rfl)
                · have h3 : kd c = 3 := c_38
                  refine lv_aload_n hx hb dX5_stops_64 rfl (lv_at hl 0 rfl) ?_
                  refine va_get (D := D) (ci := 5) (v := .ref (b 1)) (C := RX5) (T := TX5) (N := 30) hx hb hts hin5 hown hK.1 hP 0 rfl rfl 5 (by decide) (hts _ (List.mem_of_getElem? (i := 2) rfl)) (fun _ h9 => h9) rfl dX5_stops_65 ?_
                  refine lv_iload hx hb dX5_stops_68 (lv_at hl 4 rfl) ?_
                  refine lv_iconst (v := 0) hx hb dX5_stops_70 (by decide) ?_
                  refine k_iast hx hb hK hP hD hS 1 0 rfl rfl (j := c) (vp_in_nI (show c < 16 by omega) (by decide)) (nI_clamp (by omega)) dX5_stops_71 (fun H locs hP hD hS => ?_)
                  have hP : va_P D vwCl [(b 0, .inr (5, [.int fa, .int (nI h), .int (nI w), .int pc, .int br, .ref (b 1), .ref (b 2), .int ra, .int q1, .int q2, .int q3, .int q4, .ref (b 3), .int fw, .int ea, .int sn, .ref (b 4), .ref (b 5), .ref (b 6), .int mo2, .int (nI rc), .ref (b 7), .ref (b 8), .ref (b 9), .ref (b 10), .ref (b 11), .ref (b 12), .ref (b 13), .ref (b 14), .int tr])), (b 1, .inl (cI, 16, .inl (upd kd c 0))), (b 2, .inl (cI, 16, .inl et)), (b 4, .inl (cI, 17, .inl pl3)), (b 5, .inl (cI, 17, .inl nx3)), (b 6, .inl (cI, 16, .inl rb3))] H := hP
                  have hD : va_D A [(b 0, .inr (5, [.int fa, .int (nI h), .int (nI w), .int pc, .int br, .ref (b 1), .ref (b 2), .int ra, .int q1, .int q2, .int q3, .int q4, .ref (b 3), .int fw, .int ea, .int sn, .ref (b 4), .ref (b 5), .ref (b 6), .int mo2, .int (nI rc), .ref (b 7), .ref (b 8), .ref (b 9), .ref (b 10), .ref (b 11), .ref (b 12), .ref (b 13), .ref (b 14), .int tr])), (b 1, .inl (cI, 16, .inl (upd kd c 0))), (b 2, .inl (cI, 16, .inl et)), (b 4, .inl (cI, 17, .inl pl3)), (b 5, .inl (cI, 17, .inl nx3)), (b 6, .inl (cI, 16, .inl rb3))] := hD
                  refine lv_aload_n hx hb dX5_stops_72 rfl (lv_at hl 0 rfl) ?_
                  refine lv_iload_n hx hb dX5_stops_73 rfl (lv_at hl 1 rfl) ?_
                  refine k_mi (wr := []) [0, 1, 2, 3, 4, 5] [] (run_MV (As := [.int ws]) (rest := []) ⟨hx, hb, hml, hown, hts⟩ (c_X5_isWhole l D cI cJ cO b fa h w pc br ra q1 q2 q3 q4 fw ea sn mo2 rc tr (upd kd c 0) et pl3 nx3 rb3 ws hn (kd_up (k := 0) hkd (by decide)) het hbr) (cwV 1 hts gX5_stops_X5_isWhole rfl rfl rfl (by decide +kernel) ⟨Nat.le_of_ble_eq_true rfl, Nat.le_of_ble_eq_true rfl⟩) hP hK hD [0, 1, 2, 3, 4, 5] (by decide) rfl rfl rfl rfl rfl hl.1 rfl (Nat.le_of_ble_eq_true rfl) dX5_stops_74 ⟨Nat.le_refl _, Nat.le_refl _⟩) hP hD hS hA rfl rfl (by decide) (by decide) (fun r_39 w_41 H locs q_40 hP hD hS => ?_)
                  obtain ⟨mo2_42, pl3_43, nx3_44, rb3_45, rfl, rfl⟩ := q_40
                  have hP : va_P D vwCl [(b 0, .inr (5, [.int fa, .int (nI h), .int (nI w), .int pc, .int br, .ref (b 1), .ref (b 2), .int ra, .int q1, .int q2, .int q3, .int q4, .ref (b 3), .int fw, .int ea, .int sn, .ref (b 4), .ref (b 5), .ref (b 6), .int mo2_42, .int (nI rc), .ref (b 7), .ref (b 8), .ref (b 9), .ref (b 10), .ref (b 11), .ref (b 12), .ref (b 13), .ref (b 14), .int tr])), (b 1, .inl (cI, 16, .inl (upd kd c 0))), (b 2, .inl (cI, 16, .inl et)), (b 4, .inl (cI, 17, .inl pl3_43)), (b 5, .inl (cI, 17, .inl nx3_44)), (b 6, .inl (cI, 16, .inl rb3_45))] H := hP.sub [0, 1, 2, 3, 4, 5] rfl
                  have hD : va_D A [(b 0, .inr (5, [.int fa, .int (nI h), .int (nI w), .int pc, .int br, .ref (b 1), .ref (b 2), .int ra, .int q1, .int q2, .int q3, .int q4, .ref (b 3), .int fw, .int ea, .int sn, .ref (b 4), .ref (b 5), .ref (b 6), .int mo2_42, .int (nI rc), .ref (b 7), .ref (b 8), .ref (b 9), .ref (b 10), .ref (b 11), .ref (b 12), .ref (b 13), .ref (b 14), .int tr])), (b 1, .inl (cI, 16, .inl (upd kd c 0))), (b 2, .inl (cI, 16, .inl et)), (b 4, .inl (cI, 17, .inl pl3_43)), (b 5, .inl (cI, 17, .inl nx3_44)), (b 6, .inl (cI, 16, .inl rb3_45))] := hD.sub [0, 1, 2, 3, 4, 5] (by decide) rfl
                  refine lv_if_eq (tgt := 85) hx hb dX5_stops_77 (by decide) (fun c_46 => ?_) (fun c_46 => ?_)
                  · have c_46 := b2_f c_46
                    refine lv_bipush (v := (-9)) hx hb dX5_stops_85 (by decide) ?_
                    refine lv_istore_n (lv' := [(2, .int (-9)), (0, .ref (b 0)), (1, .int ws), (3, .int (nI o)), (4, .int (nI c))]) hx hb dX5_stops_87 rfl hl (by decide) rfl (fun ls hl => ?_)
                    refine lv_aload_n hx hb dX5_stops_88 rfl (lv_at hl 1 rfl) ?_
                    refine va_get (D := D) (ci := 5) (v := .ref (b 1)) (C := RX5) (T := TX5) (N := 30) hx hb hts hin5 hown hK.1 hP 0 rfl rfl 5 (by decide) (hts _ (List.mem_of_getElem? (i := 2) rfl)) (fun _ h9 => h9) rfl dX5_stops_89 ?_
                    refine lv_iload hx hb dX5_stops_92 (lv_at hl 4 rfl) ?_
                    refine lv_iconst (v := 3) hx hb dX5_stops_94 (by decide) ?_
                    refine k_iast hx hb hK hP hD hS 1 0 rfl rfl (j := c) (vp_in_nI (show c < 16 by omega) (by decide)) (nI_clamp (by omega)) dX5_stops_95 (fun H locs hP hD hS => ?_)
                    have hP : va_P D vwCl [(b 0, .inr (5, [.int fa, .int (nI h), .int (nI w), .int pc, .int br, .ref (b 1), .ref (b 2), .int ra, .int q1, .int q2, .int q3, .int q4, .ref (b 3), .int fw, .int ea, .int sn, .ref (b 4), .ref (b 5), .ref (b 6), .int mo2_42, .int (nI rc), .ref (b 7), .ref (b 8), .ref (b 9), .ref (b 10), .ref (b 11), .ref (b 12), .ref (b 13), .ref (b 14), .int tr])), (b 1, .inl (cI, 16, .inl (upd (upd kd c 0) c 3))), (b 2, .inl (cI, 16, .inl et)), (b 4, .inl (cI, 17, .inl pl3_43)), (b 5, .inl (cI, 17, .inl nx3_44)), (b 6, .inl (cI, 16, .inl rb3_45))] H := hP
                    have hD : va_D A [(b 0, .inr (5, [.int fa, .int (nI h), .int (nI w), .int pc, .int br, .ref (b 1), .ref (b 2), .int ra, .int q1, .int q2, .int q3, .int q4, .ref (b 3), .int fw, .int ea, .int sn, .ref (b 4), .ref (b 5), .ref (b 6), .int mo2_42, .int (nI rc), .ref (b 7), .ref (b 8), .ref (b 9), .ref (b 10), .ref (b 11), .ref (b 12), .ref (b 13), .ref (b 14), .int tr])), (b 1, .inl (cI, 16, .inl (upd (upd kd c 0) c 3))), (b 2, .inl (cI, 16, .inl et)), (b 4, .inl (cI, 17, .inl pl3_43)), (b 5, .inl (cI, 17, .inl nx3_44)), (b 6, .inl (cI, 16, .inl rb3_45))] := hD
                    rw [show (upd (upd kd c 0) c 3) = kd from (by rw [upd_upd, ← h3]; exact upd_self _ _)] at hP hD
                    refine lv_iload_n hx hb dX5_stops_96 rfl (lv_at hl 0 rfl) ?_
                    refine lv_if_ge (tgt := 104) hx hb dX5_stops_97 (by decide) (fun c_47 => ?_) (fun c_47 => ?_)
                    · exact absurd c_47 (by decide)
                    · refine lv_iconst (v := 1) hx hb dX5_stops_100 (by decide) ?_
                      refine lv_goto (tgt := 105) hx hb dX5_stops_101 (by decide) ?_
                      refine lv_istore_n (lv' := [(3, .int 1), (2, .int (-9)), (0, .ref (b 0)), (1, .int ws), (4, .int (nI c))]) hx hb dX5_stops_105 rfl hl (by decide) rfl (fun ls hl => ?_)
                      refine lv_iinc (v := (nI (c + 1))) (lv' := [(4, .int (nI (c + 1))), (3, .int 1), (2, .int (-9)), (0, .ref (b 0)), (1, .int ws)]) hx hb dX5_stops_106 hl (k := 4) rfl (nI_add _ 1) (by decide) rfl (fun ls hl => ?_)
                      refine lv_goto (tgt := 40) hx hb dX5_stops_109 (by decide) ?_
                      exact ih_33 (c + 1) (-9) 1 mo2_42 pl3_43 nx3_44 rb3_45 (by omega) (by decide) (Or.inl ⟨rfl, rfl, hnc, nc_s hs9 (fun z => c_46 z.2)⟩) (by omega) _ _ hP hD hS ls (lv_sub hl [3, 4, 2, 1, 0] rfl)
                  · have c_46 := b2_t c_46
                    refine lv_iload hx hb dX5_stops_80 (lv_at hl 4 rfl) ?_
                    refine lv_goto (tgt := 87) hx hb dX5_stops_82 (by decide) ?_
                    refine lv_istore_n (lv' := [(2, .int (nI c)), (0, .ref (b 0)), (1, .int ws), (3, .int (nI o)), (4, .int (nI c))]) hx hb dX5_stops_87 rfl hl (by decide) rfl (fun ls hl => ?_)
                    refine lv_aload_n hx hb dX5_stops_88 rfl (lv_at hl 1 rfl) ?_
                    refine va_get (D := D) (ci := 5) (v := .ref (b 1)) (C := RX5) (T := TX5) (N := 30) hx hb hts hin5 hown hK.1 hP 0 rfl rfl 5 (by decide) (hts _ (List.mem_of_getElem? (i := 2) rfl)) (fun _ h9 => h9) rfl dX5_stops_89 ?_
                    refine lv_iload hx hb dX5_stops_92 (lv_at hl 4 rfl) ?_
                    refine lv_iconst (v := 3) hx hb dX5_stops_94 (by decide) ?_
                    refine k_iast hx hb hK hP hD hS 1 0 rfl rfl (j := c) (vp_in_nI (show c < 16 by omega) (by decide)) (nI_clamp (by omega)) dX5_stops_95 (fun H locs hP hD hS => ?_)
                    have hP : va_P D vwCl [(b 0, .inr (5, [.int fa, .int (nI h), .int (nI w), .int pc, .int br, .ref (b 1), .ref (b 2), .int ra, .int q1, .int q2, .int q3, .int q4, .ref (b 3), .int fw, .int ea, .int sn, .ref (b 4), .ref (b 5), .ref (b 6), .int mo2_42, .int (nI rc), .ref (b 7), .ref (b 8), .ref (b 9), .ref (b 10), .ref (b 11), .ref (b 12), .ref (b 13), .ref (b 14), .int tr])), (b 1, .inl (cI, 16, .inl (upd (upd kd c 0) c 3))), (b 2, .inl (cI, 16, .inl et)), (b 4, .inl (cI, 17, .inl pl3_43)), (b 5, .inl (cI, 17, .inl nx3_44)), (b 6, .inl (cI, 16, .inl rb3_45))] H := hP
                    have hD : va_D A [(b 0, .inr (5, [.int fa, .int (nI h), .int (nI w), .int pc, .int br, .ref (b 1), .ref (b 2), .int ra, .int q1, .int q2, .int q3, .int q4, .ref (b 3), .int fw, .int ea, .int sn, .ref (b 4), .ref (b 5), .ref (b 6), .int mo2_42, .int (nI rc), .ref (b 7), .ref (b 8), .ref (b 9), .ref (b 10), .ref (b 11), .ref (b 12), .ref (b 13), .ref (b 14), .int tr])), (b 1, .inl (cI, 16, .inl (upd (upd kd c 0) c 3))), (b 2, .inl (cI, 16, .inl et)), (b 4, .inl (cI, 17, .inl pl3_43)), (b 5, .inl (cI, 17, .inl nx3_44)), (b 6, .inl (cI, 16, .inl rb3_45))] := hD
                    rw [show (upd (upd kd c 0) c 3) = kd from (by rw [upd_upd, ← h3]; exact upd_self _ _)] at hP hD
                    refine lv_iload_n hx hb dX5_stops_96 rfl (lv_at hl 0 rfl) ?_
                    refine lv_if_ge (tgt := 104) hx hb dX5_stops_97 (by decide) (fun c_48 => ?_) (fun c_48 => ?_)
                    · have c_48 : 0 ≤ c := (nI_leI (a := 0) (b := c) (by omega) (by omega)).mp c_48
                      refine lv_iconst (v := 0) hx hb dX5_stops_104 (by decide) ?_
                      refine lv_istore_n (lv' := [(3, .int 0), (2, .int (nI c)), (0, .ref (b 0)), (1, .int ws), (4, .int (nI c))]) hx hb dX5_stops_105 rfl hl (by decide) rfl (fun ls hl => ?_)
                      refine lv_iinc (v := (nI (c + 1))) (lv' := [(4, .int (nI (c + 1))), (3, .int 0), (2, .int (nI c)), (0, .ref (b 0)), (1, .int ws)]) hx hb dX5_stops_106 hl (k := 4) rfl (nI_add _ 1) (by decide) rfl (fun ls hl => ?_)
                      refine lv_goto (tgt := 40) hx hb dX5_stops_109 (by decide) ?_
                      exact ih_33 (c + 1) (nI c) 0 mo2_42 pl3_43 nx3_44 rb3_45 (by omega) (by decide) (Or.inr ⟨rfl, by rw [if_neg hnc, ffN_at (P := fun c => ¬ spR h w (h * w) pc br kd et ws c) hs9 (fun z => z ⟨h3, c_46⟩) (by omega), if_pos (by omega)]⟩) (by omega) _ _ hP hD hS ls (lv_sub hl [3, 4, 2, 1, 0] rfl)
                    · exact absurd (Int32.not_lt.mp (nI_nn (show c < 2 ^ 31 by omega))) c_48
        exact key_32 _ 0 (-9) 1 mo2_8 pl3_9 nx3_10 rb3_11 (by omega) (by decide) (Or.inl ⟨rfl, rfl, c_12, fun z hz => absurd hz (Nat.not_lt_zero z)⟩) (Nat.lt_succ_self _) _ _ hP hD hS ls (lv_sub hl [3, 4, 2, 1, 0] rfl)
    · have c_4 := b2_t c_4
      refine lv_bipush (v := (-2)) hx hb dX5_stops_17 (by decide) ?_
      refine mi_ret (v := (-2)) hx hb hr hlk hP hD hS dX5_stops_19 ?_
      refine ⟨mo, pl, nx, rb, ?_, rfl⟩
      rw [stoR, if_neg c_1, if_neg c_4] <;> rfl
  · have c_1 : h = 0 := (nI_eq (a := h) (b := 0) (by omega) (by omega)).mp c_1
    refine lv_bipush (v := (-3)) hx hb dX5_stops_7 (by decide) ?_
    refine mi_ret (v := (-3)) hx hb hr hlk hP hD hS dX5_stops_9 ?_
    refine ⟨mo, pl, nx, rb, ?_, rfl⟩
    rw [stoR, if_pos c_1] <;> rfl
