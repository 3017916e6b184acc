theorem iwX4_shearsAllSoft_X4 : ∀ x ∈ wsX40, x ∈ wsX4_shearsAllSoft := by decide +kernel
set_option maxRecDepth 100000 in
set_option maxHeartbeats 4000000 in
/-- X4_shearsAllSoft -/
theorem c_X4_shearsAllSoft (l : Launch) (D : va_G) (cI cJ cO : ClassId) (a : Nat → Nat) (ft : Int32) (tr : Int32) (h : Nat) (w : Nat) (pc : Int32) (br : Int32) (kd : Nat → Int32) (et : Nat → Int32) (nb : Nat → Int32) (td : Nat → Int32) (bs : Nat → Int32) (mo : Int32) (go : Int32) (c : Int32) (j : Nat) (hn : h * w ≤ 16) (hnb : nbOk h w nb (h * w)) (hjn : j < h * w) (hv_c : vp_in c 16) (hj_c : c.toNatClampNeg = j) : MG l yX4_shearsAllSoft wsX4_shearsAllSoft 19 499 0 0 D [(cI, .int), (cJ, .long), (cO, .object "ShornHill$Sheet")] [.ref (a 0), .int c] [(a 0, .inr (4, [.ref (a 1), .ref (a 5), .ref (a 9), .ref (a 12), .int ft, .int tr])), (a 1, .inr (0, [.int (nI h), .int (nI w), .int pc, .int br, .ref (a 2), .ref (a 3), .ref (a 4)])), (a 2, .inl (cI, 16, .inl kd)), (a 3, .inl (cI, 16, .inl et)), (a 4, .inl (cI, 64, .inl nb)), (a 9, .inr (2, [.ref (a 10), .ref (a 11), .int mo, .int go])), (a 10, .inl (cI, 15, .inl td)), (a 11, .inl (cI, 15, .inl bs))] (QI D (fun (r : Int32) (w1 : va_W) => ∃ (td2 : Nat → Int32) (bs2 : Nat → Int32) (mo2 : Int32) (go2 : Int32), r = (b2 (allS h w (h * w) kd j)) ∧ w1 = [(a 0, .inr (4, [.ref (a 1), .ref (a 5), .ref (a 9), .ref (a 12), .int ft, .int tr])), (a 1, .inr (0, [.int (nI h), .int (nI w), .int pc, .int br, .ref (a 2), .ref (a 3), .ref (a 4)])), (a 2, .inl (cI, 16, .inl kd)), (a 3, .inl (cI, 16, .inl et)), (a 4, .inl (cI, 64, .inl nb)), (a 9, .inr (2, [.ref (a 10), .ref (a 11), .int mo2, .int go2])), (a 10, .inl (cI, 15, .inl td2)), (a 11, .inl (cI, 15, .inl bs2))])) := by
  refine MG.of (cc := cX4_shearsAllSoft) (maxL := 3) (ret := (some .boolean)) (by decide) rfl (Nat.le_of_ble_eq_true rfl) ?_
  intro P_ E_ S_ M_ B_ T_ K_ hx hb hml hr hts hown hlk hnm A hA hP hK hD hS ls hl
  have hl : lv_has ls 3 [(0, .ref (a 0)), (1, .int c)] := hl
  have hin4 : ∀ x ∈ u_ws RX4 TX4 6, x ∈ wsX4_shearsAllSoft := iwX4_shearsAllSoft_X4
  refine lv_aload_n hx hb dX4_shearsAllSoft_0 rfl (lv_at hl 0 rfl) ?_
  refine va_get (D := D) (ci := 4) (v := .ref (a 1)) (C := RX4) (T := TX4) (N := 6) hx hb hts hin4 hown hK.1 hP 0 rfl rfl 0 (by decide) (hts _ (List.mem_of_getElem? (i := 1) rfl)) (fun _ h9 => h9) rfl dX4_shearsAllSoft_1 ?_
  refine k_ri (run_RN (As := []) (rest := []) ⟨hx, hb, hml, hown, hts⟩ (c_X0_softCells l D cI cJ cO a h w pc br kd et nb hn) ⟨va_cnB 0 hts ggX4_shearsAllSoft_X0_softCells rfl rfl rfl (nw_X4_79 hK) (hts _ (List.mem_of_getElem? (i := 3) rfl)) (by decide +kernel) ⟨Nat.le_of_ble_eq_true rfl, Nat.le_of_ble_eq_true rfl⟩, (hts _ (List.mem_of_getElem? (i := 2) rfl)), (hts _ (List.mem_of_getElem? (i := 4) rfl))⟩ hP hK [1, 2, 3, 4] rfl rfl rfl rfl rfl hl.1 rfl (Nat.le_of_ble_eq_true rfl) dX4_shearsAllSoft_4 ⟨Nat.le_refl _, Nat.le_refl _⟩) (fun r_1 q_2 => ?_)
  obtain rfl := q_2
  refine lv_istore_n (lv' := [(2, .int (sofS kd (h * w))), (0, .ref (a 0)), (1, .int c)]) hx hb dX4_shearsAllSoft_7 rfl hl (by decide) rfl (fun ls hl => ?_)
  refine lv_aload_n hx hb dX4_shearsAllSoft_8 rfl (lv_at hl 1 rfl) ?_
  refine lv_iload_n hx hb dX4_shearsAllSoft_9 rfl (lv_at hl 2 rfl) ?_
  refine lv_iload_n hx hb dX4_shearsAllSoft_10 rfl (lv_at hl 0 rfl) ?_
  refine k_mi (wr := []) [0, 1, 2, 3, 4, 5, 6, 7] [] (run_MV (As := [.int c, .int (sofS kd (h * w))]) (rest := []) ⟨hx, hb, hml, hown, hts⟩ (c_X4_mostShorn l D cI cJ cO a ft tr h w pc br kd et nb td bs mo go c (sofS kd (h * w)) j hn hnb (sm_sof _ _ hn) hjn hv_c hj_c) (cwV 2 hts gX4_shearsAllSoft_X4_mostShorn rfl rfl rfl (by decide +kernel) ⟨Nat.le_of_ble_eq_true rfl, Nat.le_of_ble_eq_true rfl⟩) hP hK hD [0, 1, 2, 3, 4, 5, 6, 7] (by decide) rfl rfl rfl rfl rfl hl.1 rfl (Nat.le_of_ble_eq_true rfl) dX4_shearsAllSoft_11 ⟨Nat.le_refl _, Nat.le_refl _⟩) hP hD hS hA rfl rfl (by decide) (by decide) (fun r_3 w_5 H locs q_4 hP hD hS => ?_)
  obtain ⟨td2_6, bs2_7, rfl, hbs_8, rfl⟩ := q_4
  have hP : va_P D vwCl [(a 0, .inr (4, [.ref (a 1), .ref (a 5), .ref (a 9), .ref (a 12), .int ft, .int tr])), (a 1, .inr (0, [.int (nI h), .int (nI w), .int pc, .int br, .ref (a 2), .ref (a 3), .ref (a 4)])), (a 2, .inl (cI, 16, .inl kd)), (a 3, .inl (cI, 16, .inl et)), (a 4, .inl (cI, 64, .inl nb)), (a 9, .inr (2, [.ref (a 10), .ref (a 11), .int (nI (msF h w j (sofS kd (h * w)))), .int (nI (popN 16 (sN (sofS kd (h * w)))))])), (a 10, .inl (cI, 15, .inl td2_6)), (a 11, .inl (cI, 15, .inl bs2_7))] H := hP.sub [0, 1, 2, 3, 4, 5, 6, 7] rfl
  have hD : va_D A [(a 0, .inr (4, [.ref (a 1), .ref (a 5), .ref (a 9), .ref (a 12), .int ft, .int tr])), (a 1, .inr (0, [.int (nI h), .int (nI w), .int pc, .int br, .ref (a 2), .ref (a 3), .ref (a 4)])), (a 2, .inl (cI, 16, .inl kd)), (a 3, .inl (cI, 16, .inl et)), (a 4, .inl (cI, 64, .inl nb)), (a 9, .inr (2, [.ref (a 10), .ref (a 11), .int (nI (msF h w j (sofS kd (h * w)))), .int (nI (popN 16 (sN (sofS kd (h * w)))))])), (a 10, .inl (cI, 15, .inl td2_6)), (a 11, .inl (cI, 15, .inl bs2_7))] := hD.sub [0, 1, 2, 3, 4, 5, 6, 7] (by decide) rfl
  refine lv_iload_n hx hb dX4_shearsAllSoft_14 rfl (lv_at hl 0 rfl) ?_
  refine k_ri (run_RS (As := [.int (sofS kd (h * w))]) (rest := [.int (nI (msF h w j (sofS kd (h * w))))]) ⟨hx, hb, hml, hown, hts⟩ (c_J6_bitCount_0f7a4 l D cI cJ cO (sofS kd (h * w)) (sm_sof _ _ hn)) (va_cwS 1 hts gX4_shearsAllSoft_J6_bitCount_0f7a4 rfl rfl rfl (by decide +kernel) ⟨Nat.le_of_ble_eq_true rfl, Nat.le_of_ble_eq_true rfl⟩) hP hK [] rfl rfl hl.1 rfl (Nat.le_of_ble_eq_true rfl) dX4_shearsAllSoft_15 ⟨Nat.le_refl _, Nat.le_refl _⟩) (fun r_9 q_10 => ?_)
  obtain rfl := q_10
  have hm1 := msF_le h w j (sofS kd (h * w))
  have hm2 := popN_le 16 (sN (sofS kd (h * w)))
  refine lv_icmp_ne (tgt := 25) hx hb dX4_shearsAllSoft_18 (by decide) (fun c_11 => ?_) (fun c_11 => ?_)
  · have c_11 : ¬ msF h w j (sofS kd (h * w)) = popN 16 (sN (sofS kd (h * w))) := fun z => c_11 ((nI_eq (a := msF h w j (sofS kd (h * w))) (b := popN 16 (sN (sofS kd (h * w)))) (by omega) (by omega)).mpr z)
    refine lv_iconst (v := 0) hx hb dX4_shearsAllSoft_25 (by decide) ?_
    refine mz_ret (v := 0) hx hb hr hlk hP hD hS dX4_shearsAllSoft_26 (by decide) ?_
    exact ⟨_, _, _, _, b2_0 (by assumption), rfl⟩
  · have c_11 : msF h w j (sofS kd (h * w)) = popN 16 (sN (sofS kd (h * w))) := (nI_eq (a := msF h w j (sofS kd (h * w))) (b := popN 16 (sN (sofS kd (h * w)))) (by omega) (by omega)).mp c_11
    refine lv_iconst (v := 1) hx hb dX4_shearsAllSoft_21 (by decide) ?_
    refine lv_goto (tgt := 26) hx hb dX4_shearsAllSoft_22 (by decide) ?_
    refine mz_ret (v := 1) hx hb hr hlk hP hD hS dX4_shearsAllSoft_26 (by decide) ?_
    exact ⟨_, _, _, _, b2_1 (by assumption), rfl⟩
theorem iwX4_canBeShornWhole_X4 : ∀ x ∈ wsX40, x ∈ wsX4_canBeShornWhole := by decide +kernel
set_option maxRecDepth 100000 in
set_option maxHeartbeats 4000000 in
/-- X4_canBeShornWhole -/
theorem c_X4_canBeShornWhole (l : Launch) (D : va_G) (cI cJ cO : ClassId) (a : Nat → Nat) (ft : Int32) (tr : Int32) (h : Nat) (w : Nat) (pc : Int32) (br : Int32) (kd : Nat → Int32) (et : Nat → Int32) (nb : Nat → Int32) (td : Nat → Int32) (bs : Nat → Int32) (mo : Int32) (go : Int32) (ws : Int32) (hn : h * w ≤ 16) (hnb : nbOk h w nb (h * w)) : MG l yX4_canBeShornWhole wsX4_canBeShornWhole 20 521 0 0 D [(cI, .int), (cJ, .long), (cO, .object "ShornHill$Sheet")] [.ref (a 0), .int ws] [(a 0, .inr (4, [.ref (a 1), .ref (a 5), .ref (a 9), .ref (a 12), .int ft, .int tr])), (a 1, .inr (0, [.int (nI h), .int (nI w), .int pc, .int br, .ref (a 2), .ref (a 3), .ref (a 4)])), (a 2, .inl (cI, 16, .inl kd)), (a 3, .inl (cI, 16, .inl et)), (a 4, .inl (cI, 64, .inl nb)), (a 9, .inr (2, [.ref (a 10), .ref (a 11), .int mo, .int go])), (a 10, .inl (cI, 15, .inl td)), (a 11, .inl (cI, 15, .inl bs))] (QI D (fun (r : Int32) (w1 : va_W) => ∃ (td2 : Nat → Int32) (bs2 : Nat → Int32) (mo2 : Int32) (go2 : Int32), r = (b2 (cbP h w (h * w) pc br kd et ws)) ∧ w1 = [(a 0, .inr (4, [.ref (a 1), .ref (a 5), .ref (a 9), .ref (a 12), .int ft, .int tr])), (a 1, .inr (0, [.int (nI h), .int (nI w), .int pc, .int br, .ref (a 2), .ref (a 3), .ref (a 4)])), (a 2, .inl (cI, 16, .inl kd)), (a 3, .inl (cI, 16, .inl et)), (a 4, .inl (cI, 64, .inl nb)), (a 9, .inr (2, [.ref (a 10), .ref (a 11), .int mo2, .int go2])), (a 10, .inl (cI, 15, .inl td2)), (a 11, .inl (cI, 15, .inl bs2))])) := by
  refine MG.of (cc := cX4_canBeShornWhole) (maxL := 3) (ret := (some .boolean)) (by decide) rfl (Nat.le_of_ble_eq_true rfl) ?_
  intro P_ E_ S_ M_ B_ T_ K_ hx hb hml hr hts hown hlk hnm A hA hP hK hD hS ls hl
  have hl : lv_has ls 3 [(0, .ref (a 0)), (1, .int ws)] := hl
  have hin4 : ∀ x ∈ u_ws RX4 TX4 6, x ∈ wsX4_canBeShornWhole := iwX4_canBeShornWhole_X4
  refine lv_aload_n hx hb dX4_canBeShornWhole_0 rfl (lv_at hl 0 rfl) ?_
  refine va_get (D := D) (ci := 4) (v := .ref (a 1)) (C := RX4) (T := TX4) (N := 6) hx hb hts hin4 hown hK.1 hP 0 rfl rfl 0 (by decide) (hts _ (List.mem_of_getElem? (i := 1) rfl)) (fun _ h9 => h9) rfl dX4_canBeShornWhole_1 ?_
  refine lv_iload_n hx hb dX4_canBeShornWhole_4 rfl (lv_at hl 1 rfl) ?_
  refine k_ri (run_RN (As := [.int ws]) (rest := []) ⟨hx, hb, hml, hown, hts⟩ (c_X0_isAllRipe l D cI cJ cO a h w pc br kd et nb ws hn) ⟨va_cnB 1 hts ggX4_canBeShornWhole_X0_isAllRipe rfl rfl rfl (nw_X4_149 hK) (hts _ (List.mem_of_getElem? (i := 3) rfl)) (by decide +kernel) ⟨Nat.le_of_ble_eq_true rfl, Nat.le_of_ble_eq_true rfl⟩, (hts _ (List.mem_of_getElem? (i := 2) rfl)), (hts _ (List.mem_of_getElem? (i := 4) rfl))⟩ hP hK [1, 2, 3, 4] rfl rfl rfl rfl rfl hl.1 rfl (Nat.le_of_ble_eq_true rfl) dX4_canBeShornWhole_5 ⟨Nat.le_refl _, Nat.le_refl _⟩) (fun r_1 q_2 => ?_)
  obtain rfl := q_2
  refine lv_if_ne (tgt := 13) hx hb dX4_canBeShornWhole_8 (by decide) (fun c_3 => ?_) (fun c_3 => ?_)
  · have c_3 := b2_t c_3
    refine lv_iconst (v := 0) hx hb dX4_canBeShornWhole_13 (by decide) ?_
    refine lv_istore_n (lv' := [(2, .int 0), (0, .ref (a 0)), (1, .int ws)]) hx hb dX4_canBeShornWhole_14 rfl hl (by decide) rfl (fun ls hl => ?_)
    have key_5 : ∀ (n_4 : Nat) (k : Nat) (td2 : Nat → Int32) (bs2 : Nat → Int32) (mo2 : Int32) (go2 : Int32), (k ≤ h * w) → (∀ c, c < k → ¬ (¬ kd c = 3 ∧ allS h w (h * w) kd c)) → h * w - k < n_4 → ∀ (H : Heap) (locs : List Loc), va_P D vwCl [(a 0, .inr (4, [.ref (a 1), .ref (a 5), .ref (a 9), .ref (a 12), .int ft, .int tr])), (a 1, .inr (0, [.int (nI h), .int (nI w), .int pc, .int br, .ref (a 2), .ref (a 3), .ref (a 4)])), (a 2, .inl (cI, 16, .inl kd)), (a 3, .inl (cI, 16, .inl et)), (a 4, .inl (cI, 64, .inl nb)), (a 9, .inr (2, [.ref (a 10), .ref (a 11), .int mo2, .int go2])), (a 10, .inl (cI, 15, .inl td2)), (a 11, .inl (cI, 15, .inl bs2))] H → va_D A [(a 0, .inr (4, [.ref (a 1), .ref (a 5), .ref (a 9), .ref (a 12), .int ft, .int tr])), (a 1, .inr (0, [.int (nI h), .int (nI w), .int pc, .int br, .ref (a 2), .ref (a 3), .ref (a 4)])), (a 2, .inl (cI, 16, .inl kd)), (a 3, .inl (cI, 16, .inl et)), (a 4, .inl (cI, 64, .inl nb)), (a 9, .inr (2, [.ref (a 10), .ref (a 11), .int mo2, .int go2])), (a 10, .inl (cI, 15, .inl td2)), (a 11, .inl (cI, 15, .inl bs2))] → va_S A S_.heap H locs → ∀ ls : Array Slot, lv_has ls 3 [(0, .ref (a 0)), (1, .int ws), (2, .int (nI k))] → W P_ l E_ ({ frames := 20, cells := 0, slots := 0, locals := 521 } : Room) S_ M_ (([.ref (a 0), .int ws] : List Value).toArray) B_ T_ K_ H locs 0 0 (MQ B_ ((QI D (fun (r : Int32) (w1 : va_W) => ∃ (td2 : Nat → Int32) (bs2 : Nat → Int32) (mo2 : Int32) (go2 : Int32), r = (b2 (cbP h w (h * w) pc br kd et ws)) ∧ w1 = [(a 0, .inr (4, [.ref (a 1), .ref (a 5), .ref (a 9), .ref (a 12), .int ft, .int tr])), (a 1, .inr (0, [.int (nI h), .int (nI w), .int pc, .int br, .ref (a 2), .ref (a 3), .ref (a 4)])), (a 2, .inl (cI, 16, .inl kd)), (a 3, .inl (cI, 16, .inl et)), (a 4, .inl (cI, 64, .inl nb)), (a 9, .inr (2, [.ref (a 10), .ref (a 11), .int mo2, .int go2])), (a 10, .inl (cI, 15, .inl td2)), (a 11, .inl (cI, 15, .inl bs2))])) A) (([.ref (a 0), .int ws] : List Value).toArray) S_ 0 0 A) (F0 M_ 15 ls []) := by
      intro n_4
      induction n_4 with
      | zero =>
        intro k td2 bs2 mo2 go2 hk hs hmu_n_4
        exact absurd hmu_n_4 (Nat.not_lt_zero _)
      | succ n_4 ih_6 =>
        intro k td2 bs2 mo2 go2 hk hs hmu_n_4 H locs hP hD hS ls hl
        have hl : lv_has ls 3 [(0, .ref (a 0)), (1, .int ws), (2, .int (nI k))] := hl
        have hP : va_P D vwCl [(a 0, .inr (4, [.ref (a 1), .ref (a 5), .ref (a 9), .ref (a 12), .int ft, .int tr])), (a 1, .inr (0, [.int (nI h), .int (nI w), .int pc, .int br, .ref (a 2), .ref (a 3), .ref (a 4)])), (a 2, .inl (cI, 16, .inl kd)), (a 3, .inl (cI, 16, .inl et)), (a 4, .inl (cI, 64, .inl nb)), (a 9, .inr (2, [.ref (a 10), .ref (a 11), .int mo2, .int go2])), (a 10, .inl (cI, 15, .inl td2)), (a 11, .inl (cI, 15, .inl bs2))] H := hP
        have hD : va_D A [(a 0, .inr (4, [.ref (a 1), .ref (a 5), .ref (a 9), .ref (a 12), .int ft, .int tr])), (a 1, .inr (0, [.int (nI h), .int (nI w), .int pc, .int br, .ref (a 2), .ref (a 3), .ref (a 4)])), (a 2, .inl (cI, 16, .inl kd)), (a 3, .inl (cI, 16, .inl et)), (a 4, .inl (cI, 64, .inl nb)), (a 9, .inr (2, [.ref (a 10), .ref (a 11), .int mo2, .int go2])), (a 10, .inl (cI, 15, .inl td2)), (a 11, .inl (cI, 15, .inl bs2))] := hD
        refine lv_iload_n hx hb dX4_canBeShornWhole_15 rfl (lv_at hl 2 rfl) ?_
        refine lv_aload_n hx hb dX4_canBeShornWhole_16 rfl (lv_at hl 0 rfl) ?_
        refine va_get (D := D) (ci := 4) (v := .ref (a 1)) (C := RX4) (T := TX4) (N := 6) hx hb hts hin4 hown hK.1 hP 0 rfl rfl 0 (by decide) (hts _ (List.mem_of_getElem? (i := 1) rfl)) (fun _ h9 => h9) rfl dX4_canBeShornWhole_17 ?_
        refine k_ri (run_RN (As := []) (rest := [.int (nI k)]) ⟨hx, hb, hml, hown, hts⟩ (c_X0_cells l D cI cJ cO a h w pc br kd et nb) ⟨va_cnB 0 hts ggX4_canBeShornWhole_X0_cells rfl rfl rfl (nw_X4_143 hK) (hts _ (List.mem_of_getElem? (i := 3) rfl)) (by decide +kernel) ⟨Nat.le_of_ble_eq_true rfl, Nat.le_of_ble_eq_true rfl⟩, (hts _ (List.mem_of_getElem? (i := 11) rfl)), (hts _ (List.mem_of_getElem? (i := 12) rfl))⟩ hP hK [1, 2, 3, 4] rfl rfl rfl rfl rfl hl.1 rfl (Nat.le_of_ble_eq_true rfl) dX4_canBeShornWhole_20 ⟨Nat.le_refl _, Nat.le_refl _⟩) (fun r_7 q_8 => ?_)
        obtain rfl := q_8
        refine lv_icmp_ge (tgt := 53) hx hb dX4_canBeShornWhole_23 (by decide) (fun c_9 => ?_) (fun c_9 => ?_)
        · have c_9 : h * w ≤ k := (nI_leI (a := h * w) (b := k) (by omega) (by omega)).mp c_9
          refine lv_iconst (v := 0) hx hb dX4_canBeShornWhole_53 (by decide) ?_
          refine mz_ret (v := 0) hx hb hr hlk hP hD hS dX4_canBeShornWhole_54 (by decide) ?_
          obtain rfl : k = h * w := by omega
          exact ⟨td2, bs2, mo2, go2, b2_0 (fun z => z.2 hs), rfl⟩
        · have c_9 : k < h * w := Nat.lt_of_not_le (fun z => c_9 ((nI_leI (a := h * w) (b := k) (by omega) (by omega)).mpr z))
          refine lv_aload_n hx hb dX4_canBeShornWhole_26 rfl (lv_at hl 0 rfl) ?_
          refine va_get (D := D) (ci := 4) (v := .ref (a 1)) (C := RX4) (T := TX4) (N := 6) hx hb hts hin4 hown hK.1 hP 0 rfl rfl 0 (by decide) (hts _ (List.mem_of_getElem? (i := 1) rfl)) (fun _ h9 => h9) rfl dX4_canBeShornWhole_27 ?_
          refine lv_iload_n hx hb dX4_canBeShornWhole_30 rfl (lv_at hl 2 rfl) ?_
          refine k_ri (run_RN (As := [.int (nI k)]) (rest := []) ⟨hx, hb, hml, hown, hts⟩ (c_X0_isSoft l D cI cJ cO a h w pc br kd et nb (nI k) hn) ⟨va_cnB 1 hts ggX4_canBeShornWhole_X0_isSoft rfl rfl rfl (nw_X4_100 hK) (hts _ (List.mem_of_getElem? (i := 3) rfl)) (by decide +kernel) ⟨Nat.le_of_ble_eq_true rfl, Nat.le_of_ble_eq_true rfl⟩, (hts _ (List.mem_of_getElem? (i := 46) rfl)), (hts _ (List.mem_of_getElem? (i := 47) rfl))⟩ hP hK [1, 2, 3, 4] rfl rfl rfl rfl rfl hl.1 rfl (Nat.le_of_ble_eq_true rfl) dX4_canBeShornWhole_31 ⟨Nat.le_refl _, Nat.le_refl _⟩) (fun r_10 q_11 => ?_)
          obtain rfl := q_11
          refine lv_if_eq (tgt := 47) hx hb dX4_canBeShornWhole_34 (by decide) (fun c_12 => ?_) (fun c_12 => ?_)
          · have c_12 := b2_f c_12
            refine lv_iinc (v := (nI (k + 1))) (lv' := [(2, .int (nI (k + 1))), (0, .ref (a 0)), (1, .int ws)]) hx hb dX4_canBeShornWhole_47 hl (k := 2) rfl (nI_add _ 1) (by decide) rfl (fun ls hl => ?_)
            refine lv_goto (tgt := 15) hx hb dX4_canBeShornWhole_50 (by decide) ?_
            exact ih_6 (k + 1) td2 bs2 mo2 go2 (by omega) (nc_s hs (fun z => c_12 ⟨nI_inN (by omega) (by omega), by rw [nI_clamp (by omega)]; exact z.1⟩)) (by omega) _ _ hP hD hS ls (lv_sub hl [1, 2, 0] rfl)
          · have c_12 := b2_t c_12
            refine lv_aload_n hx hb dX4_canBeShornWhole_37 rfl (lv_at hl 0 rfl) ?_
            refine lv_iload_n hx hb dX4_canBeShornWhole_38 rfl (lv_at hl 2 rfl) ?_
            refine k_mi (wr := []) [0, 1, 2, 3, 4, 5, 6, 7] [] (run_MV (As := [.int (nI k)]) (rest := []) ⟨hx, hb, hml, hown, hts⟩ (c_X4_shearsAllSoft l D cI cJ cO a ft tr h w pc br kd et nb td2 bs2 mo2 go2 (nI k) k hn hnb (by omega) (vp_in_nI (show k < 16 by omega) (by decide)) (nI_clamp (by omega))) (cwV 1 hts gX4_canBeShornWhole_X4_shearsAllSoft rfl rfl rfl (by decide +kernel) ⟨Nat.le_of_ble_eq_true rfl, Nat.le_of_ble_eq_true rfl⟩) hP hK hD [0, 1, 2, 3, 4, 5, 6, 7] (by decide) rfl rfl rfl rfl rfl hl.1 rfl (Nat.le_of_ble_eq_true rfl) dX4_canBeShornWhole_39 ⟨Nat.le_refl _, Nat.le_refl _⟩) hP hD hS hA rfl rfl (by decide) (by decide) (fun r_13 w_15 H locs q_14 hP hD hS => ?_)
            obtain ⟨td2_16, bs2_17, mo2_18, go2_19, rfl, rfl⟩ := q_14
            have hP : va_P D vwCl [(a 0, .inr (4, [.ref (a 1), .ref (a 5), .ref (a 9), .ref (a 12), .int ft, .int tr])), (a 1, .inr (0, [.int (nI h), .int (nI w), .int pc, .int br, .ref (a 2), .ref (a 3), .ref (a 4)])), (a 2, .inl (cI, 16, .inl kd)), (a 3, .inl (cI, 16, .inl et)), (a 4, .inl (cI, 64, .inl nb)), (a 9, .inr (2, [.ref (a 10), .ref (a 11), .int mo2_18, .int go2_19])), (a 10, .inl (cI, 15, .inl td2_16)), (a 11, .inl (cI, 15, .inl bs2_17))] H := hP.sub [0, 1, 2, 3, 4, 5, 6, 7] rfl
            have hD : va_D A [(a 0, .inr (4, [.ref (a 1), .ref (a 5), .ref (a 9), .ref (a 12), .int ft, .int tr])), (a 1, .inr (0, [.int (nI h), .int (nI w), .int pc, .int br, .ref (a 2), .ref (a 3), .ref (a 4)])), (a 2, .inl (cI, 16, .inl kd)), (a 3, .inl (cI, 16, .inl et)), (a 4, .inl (cI, 64, .inl nb)), (a 9, .inr (2, [.ref (a 10), .ref (a 11), .int mo2_18, .int go2_19])), (a 10, .inl (cI, 15, .inl td2_16)), (a 11, .inl (cI, 15, .inl bs2_17))] := hD.sub [0, 1, 2, 3, 4, 5, 6, 7] (by decide) rfl
            refine lv_if_eq (tgt := 47) hx hb dX4_canBeShornWhole_42 (by decide) (fun c_20 => ?_) (fun c_20 => ?_)
            · have c_20 := b2_f c_20
              refine lv_iinc (v := (nI (k + 1))) (lv' := [(2, .int (nI (k + 1))), (0, .ref (a 0)), (1, .int ws)]) hx hb dX4_canBeShornWhole_47 hl (k := 2) rfl (nI_add _ 1) (by decide) rfl (fun ls hl => ?_)
              refine lv_goto (tgt := 15) hx hb dX4_canBeShornWhole_50 (by decide) ?_
              exact ih_6 (k + 1) td2_16 bs2_17 mo2_18 go2_19 (by omega) (nc_s hs (fun z => c_20 z.2)) (by omega) _ _ hP hD hS ls (lv_sub hl [1, 2, 0] rfl)
            · have c_20 := b2_t c_20
              refine lv_iconst (v := 1) hx hb dX4_canBeShornWhole_45 (by decide) ?_
              refine mz_ret (v := 1) hx hb hr hlk hP hD hS dX4_canBeShornWhole_46 (by decide) ?_
              exact ⟨td2_16, bs2_17, mo2_18, go2_19, b2_1 ⟨c_3, cb_t (by omega) (by have z := c_12.2; rw [nI_clamp (by omega)] at z; exact z) c_20⟩, rfl⟩
    exact key_5 _ 0 td bs mo go (by omega) (fun z hz => absurd hz (Nat.not_lt_zero z)) (Nat.lt_succ_self _) _ _ hP hD hS ls (lv_sub hl [1, 2, 0] rfl)
  · have c_3 := b2_f c_3
    refine lv_iconst (v := 0) hx hb dX4_canBeShornWhole_11 (by decide) ?_
    refine mz_ret (v := 0) hx hb hr hlk hP hD hS dX4_canBeShornWhole_12 (by decide) ?_
    exact ⟨td, bs, mo, go, b2_0 (fun z => c_3 z.1), rfl⟩
theorem iwX4_couldBeShornWhole_X0 : ∀ x ∈ wsX00, x ∈ wsX4_couldBeShornWhole := by decide +kernel
theorem iwX4_couldBeShornWhole_X4 : ∀ x ∈ wsX40, x ∈ wsX4_couldBeShornWhole := by decide +kernel
set_option maxRecDepth 100000 in
set_option maxHeartbeats 4000000 in
/-- X4_couldBeShornWhole -/
theorem c_X4_couldBeShornWhole (l : Launch) (D : va_G) (cI cJ cO : ClassId) (a : Nat → Nat) (ft : Int32) (tr : Int32) (h : Nat) (w : Nat) (pc : Int32) (br : Int32) (kd : Nat → Int32) (et : Nat → Int32) (nb : Nat → Int32) (td : Nat → Int32) (bs : Nat → Int32) (mo : Int32) (go : Int32) (ws : Int32) (c : Int32) (j : Nat) (hn : h * w ≤ 16) (hnb : nbOk h w nb (h * w)) (h3 : kd j = 3) (hv_c : vp_in c 16) (hj_c : c.toNatClampNeg = j) : MG l yX4_couldBeShornWhole wsX4_couldBeShornWhole 21 543 0 0 D [(cI, .int), (cJ, .long), (cO, .object "ShornHill$Sheet")] [.ref (a 0), .int ws, .int c] [(a 0, .inr (4, [.ref (a 1), .ref (a 5), .ref (a 9), .ref (a 12), .int ft, .int tr])), (a 1, .inr (0, [.int (nI h), .int (nI w), .int pc, .int br, .ref (a 2), .ref (a 3), .ref (a 4)])), (a 2, .inl (cI, 16, .inl kd)), (a 3, .inl (cI, 16, .inl et)), (a 4, .inl (cI, 64, .inl nb)), (a 9, .inr (2, [.ref (a 10), .ref (a 11), .int mo, .int go])), (a 10, .inl (cI, 15, .inl td)), (a 11, .inl (cI, 15, .inl bs))] (QI D (fun (r : Int32) (w1 : va_W) => ∃ (td2 : Nat → Int32) (bs2 : Nat → Int32) (mo2 : Int32) (go2 : Int32), r = (b2 (cbP h w (h * w) pc br (upd kd j 0) et ws)) ∧ w1 = [(a 0, .inr (4, [.ref (a 1), .ref (a 5), .ref (a 9), .ref (a 12), .int ft, .int tr])), (a 1, .inr (0, [.int (nI h), .int (nI w), .int pc, .int br, .ref (a 2), .ref (a 3), .ref (a 4)])), (a 2, .inl (cI, 16, .inl kd)), (a 3, .inl (cI, 16, .inl et)), (a 4, .inl (cI, 64, .inl nb)), (a 9, .inr (2, [.ref (a 10), .ref (a 11), .int mo2, .int go2])), (a 10, .inl (cI, 15, .inl td2)), (a 11, .inl (cI, 15, .inl bs2))])) := by
  refine MG.of (cc := cX4_couldBeShornWhole) (maxL := 4) (ret := (some .boolean)) (by decide) rfl (Nat.le_of_ble_eq_true rfl) ?_
  intro P_ E_ S_ M_ B_ T_ K_ hx hb hml hr hts hown hlk hnm A hA hP hK hD hS ls hl
  have hl : lv_has ls 4 [(0, .ref (a 0)), (1, .int ws), (2, .int c)] := hl
  have hin0 : ∀ x ∈ u_ws RX0 TX0 7, x ∈ wsX4_couldBeShornWhole := iwX4_couldBeShornWhole_X0
  have hin4 : ∀ x ∈ u_ws RX4 TX4 6, x ∈ wsX4_couldBeShornWhole := iwX4_couldBeShornWhole_X4
  refine lv_aload_n hx hb dX4_couldBeShornWhole_0 rfl (lv_at hl 0 rfl) ?_
  refine va_get (D := D) (ci := 4) (v := .ref (a 1)) (C := RX4) (T := TX4) (N := 6) hx hb hts hin4 hown hK.1 hP 0 rfl rfl 0 (by decide) (hts _ (List.mem_of_getElem? (i := 1) rfl)) (fun _ h9 => h9) rfl dX4_couldBeShornWhole_1 ?_
  refine va_getN (D := D) (ci := 0) (v := .ref (a 2)) (C := RX0) (T := TX0) (N := 7) hx hb hts hin0 hown hK.1 hP 1 rfl rfl 4 (by decide) (va_Nw.use rfl (nw_X4_91 hK)) (fun _ h9 => h9) rfl dX4_couldBeShornWhole_4 ?_
  refine lv_iload_n hx hb dX4_couldBeShornWhole_7 rfl (lv_at hl 2 rfl) ?_
  refine lv_iconst (v := 0) hx hb dX4_couldBeShornWhole_8 (by decide) ?_
  refine k_iast hx hb hK hP hD hS 2 0 rfl rfl (j := j) hv_c hj_c dX4_couldBeShornWhole_9 (fun H locs hP hD hS => ?_)
  have hP : va_P D vwCl [(a 0, .inr (4, [.ref (a 1), .ref (a 5), .ref (a 9), .ref (a 12), .int ft, .int tr])), (a 1, .inr (0, [.int (nI h), .int (nI w), .int pc, .int br, .ref (a 2), .ref (a 3), .ref (a 4)])), (a 2, .inl (cI, 16, .inl (upd kd j 0))), (a 3, .inl (cI, 16, .inl et)), (a 4, .inl (cI, 64, .inl nb)), (a 9, .inr (2, [.ref (a 10), .ref (a 11), .int mo, .int go])), (a 10, .inl (cI, 15, .inl td)), (a 11, .inl (cI, 15, .inl bs))] H := hP
  have hD : va_D A [(a 0, .inr (4, [.ref (a 1), .ref (a 5), .ref (a 9), .ref (a 12), .int ft, .int tr])), (a 1, .inr (0, [.int (nI h), .int (nI w), .int pc, .int br, .ref (a 2), .ref (a 3), .ref (a 4)])), (a 2, .inl (cI, 16, .inl (upd kd j 0))), (a 3, .inl (cI, 16, .inl et)), (a 4, .inl (cI, 64, .inl nb)), (a 9, .inr (2, [.ref (a 10), .ref (a 11), .int mo, .int go])), (a 10, .inl (cI, 15, .inl td)), (a 11, .inl (cI, 15, .inl bs))] := hD
  refine lv_aload_n hx hb dX4_couldBeShornWhole_10 rfl (lv_at hl 0 rfl) ?_
  refine lv_iload_n hx hb dX4_couldBeShornWhole_11 rfl (lv_at hl 1 rfl) ?_
  refine k_mi (wr := []) [0, 1, 2, 3, 4, 5, 6, 7] [] (run_MV (As := [.int ws]) (rest := []) ⟨hx, hb, hml, hown, hts⟩ (c_X4_canBeShornWhole l D cI cJ cO a ft tr h w pc br (upd kd j 0) et nb td bs mo go ws hn hnb) (cwV 1 hts gX4_couldBeShornWhole_X4_canBeShornWhole rfl rfl rfl (by decide +kernel) ⟨Nat.le_of_ble_eq_true rfl, Nat.le_of_ble_eq_true rfl⟩) hP hK hD [0, 1, 2, 3, 4, 5, 6, 7] (by decide) rfl rfl rfl rfl rfl hl.1 rfl (Nat.le_of_ble_eq_true rfl) dX4_couldBeShornWhole_12 ⟨Nat.le_refl _, Nat.le_refl _⟩) hP hD hS hA rfl rfl (by decide) (by decide) (fun r_1 w_3 H locs q_2 hP hD hS => ?_)
  obtain ⟨td2_4, bs2_5, mo2_6, go2_7, rfl, rfl⟩ := q_2
  have hP : va_P D vwCl [(a 0, .inr (4, [.ref (a 1), .ref (a 5), .ref (a 9), .ref (a 12), .int ft, .int tr])), (a 1, .inr (0, [.int (nI h), .int (nI w), .int pc, .int br, .ref (a 2), .ref (a 3), .ref (a 4)])), (a 2, .inl (cI, 16, .inl (upd kd j 0))), (a 3, .inl (cI, 16, .inl et)), (a 4, .inl (cI, 64, .inl nb)), (a 9, .inr (2, [.ref (a 10), .ref (a 11), .int mo2_6, .int go2_7])), (a 10, .inl (cI, 15, .inl td2_4)), (a 11, .inl (cI, 15, .inl bs2_5))] H := hP.sub [0, 1, 2, 3, 4, 5, 6, 7] rfl
  have hD : va_D A [(a 0, .inr (4, [.ref (a 1), .ref (a 5), .ref (a 9), .ref (a 12), .int ft, .int tr])), (a 1, .inr (0, [.int (nI h), .int (nI w), .int pc, .int br, .ref (a 2), .ref (a 3), .ref (a 4)])), (a 2, .inl (cI, 16, .inl (upd kd j 0))), (a 3, .inl (cI, 16, .inl et)), (a 4, .inl (cI, 64, .inl nb)), (a 9, .inr (2, [.ref (a 10), .ref (a 11), .int mo2_6, .int go2_7])), (a 10, .inl (cI, 15, .inl td2_4)), (a 11, .inl (cI, 15, .inl bs2_5))] := hD.sub [0, 1, 2, 3, 4, 5, 6, 7] (by decide) rfl
  refine lv_istore_n (lv' := [(3, .int (b2 (cbP h w (h * w) pc br (upd kd j 0) et ws))), (0, .ref (a 0)), (1, .int ws), (2, .int c)]) hx hb dX4_couldBeShornWhole_15 rfl hl (by decide) rfl (fun ls hl => ?_)
  refine lv_aload_n hx hb dX4_couldBeShornWhole_16 rfl (lv_at hl 1 rfl) ?_
  refine va_get (D := D) (ci := 4) (v := .ref (a 1)) (C := RX4) (T := TX4) (N := 6) hx hb hts hin4 hown hK.1 hP 0 rfl rfl 0 (by decide) (hts _ (List.mem_of_getElem? (i := 1) rfl)) (fun _ h9 => h9) rfl dX4_couldBeShornWhole_17 ?_
  refine va_getN (D := D) (ci := 0) (v := .ref (a 2)) (C := RX0) (T := TX0) (N := 7) hx hb hts hin0 hown hK.1 hP 1 rfl rfl 4 (by decide) (va_Nw.use rfl (nw_X4_91 hK)) (fun _ h9 => h9) rfl dX4_couldBeShornWhole_20 ?_
  refine lv_iload_n hx hb dX4_couldBeShornWhole_23 rfl (lv_at hl 3 rfl) ?_
  refine lv_iconst (v := 3) hx hb dX4_couldBeShornWhole_24 (by decide) ?_
  refine k_iast hx hb hK hP hD hS 2 0 rfl rfl (j := j) hv_c hj_c dX4_couldBeShornWhole_25 (fun H locs hP hD hS => ?_)
  have hP : va_P D vwCl [(a 0, .inr (4, [.ref (a 1), .ref (a 5), .ref (a 9), .ref (a 12), .int ft, .int tr])), (a 1, .inr (0, [.int (nI h), .int (nI w), .int pc, .int br, .ref (a 2), .ref (a 3), .ref (a 4)])), (a 2, .inl (cI, 16, .inl (upd (upd kd j 0) j 3))), (a 3, .inl (cI, 16, .inl et)), (a 4, .inl (cI, 64, .inl nb)), (a 9, .inr (2, [.ref (a 10), .ref (a 11), .int mo2_6, .int go2_7])), (a 10, .inl (cI, 15, .inl td2_4)), (a 11, .inl (cI, 15, .inl bs2_5))] H := hP
  have hD : va_D A [(a 0, .inr (4, [.ref (a 1), .ref (a 5), .ref (a 9), .ref (a 12), .int ft, .int tr])), (a 1, .inr (0, [.int (nI h), .int (nI w), .int pc, .int br, .ref (a 2), .ref (a 3), .ref (a 4)])), (a 2, .inl (cI, 16, .inl (upd (upd kd j 0) j 3))), (a 3, .inl (cI, 16, .inl et)), (a 4, .inl (cI, 64, .inl nb)), (a 9, .inr (2, [.ref (a 10), .ref (a 11), .int mo2_6, .int go2_7])), (a 10, .inl (cI, 15, .inl td2_4)), (a 11, .inl (cI, 15, .inl bs2_5))] := hD
  rw [show (upd (upd kd j 0) j 3) = kd from (by rw [upd_upd, ← h3]; exact upd_self _ _)] at hP hD
  refine lv_iload_n hx hb dX4_couldBeShornWhole_26 rfl (lv_at hl 0 rfl) ?_
  refine mz_ret (v := (b2 (cbP h w (h * w) pc br (upd kd j 0) et ws))) hx hb hr hlk hP hD hS dX4_couldBeShornWhole_27 (b2_nar _) ?_
  exact ⟨td2_4, bs2_5, mo2_6, go2_7, rfl, rfl⟩
theorem iwX4_whole_X4 : ∀ x ∈ wsX40, x ∈ wsX4_whole := by decide +kernel
set_option maxRecDepth 100000 in
set_option maxHeartbeats 4000000 in
/-- X4_whole -/
theorem c_X4_whole (l : Launch) (D : va_G) (cI cJ cO : ClassId) (a : Nat → Nat) (ft : Int32) (tr : Int32) (h : Nat) (w : Nat) (pc : Int32) (br : Int32) (kd : Nat → Int32) (et : Nat → Int32) (nb : Nat → Int32) (td : Nat → Int32) (bs : Nat → Int32) (mo : Int32) (go : Int32) (c : Int32) (hn : h * w ≤ 16) (hnb : nbOk h w nb (h * w)) : MG l yX4_whole wsX4_whole 20 521 0 0 D [(cI, .int), (cJ, .long), (cO, .object "ShornHill$Sheet")] [.ref (a 0), .int c] [(a 0, .inr (4, [.ref (a 1), .ref (a 5), .ref (a 9), .ref (a 12), .int ft, .int tr])), (a 1, .inr (0, [.int (nI h), .int (nI w), .int pc, .int br, .ref (a 2), .ref (a 3), .ref (a 4)])), (a 2, .inl (cI, 16, .inl kd)), (a 3, .inl (cI, 16, .inl et)), (a 4, .inl (cI, 64, .inl nb)), (a 9, .inr (2, [.ref (a 10), .ref (a 11), .int mo, .int go])), (a 10, .inl (cI, 15, .inl td)), (a 11, .inl (cI, 15, .inl bs))] (QI D (fun (r : Int32) (w1 : va_W) => ∃ (td2 : Nat → Int32) (bs2 : Nat → Int32) (mo2 : Int32) (go2 : Int32), r = (whoR h w (h * w) pc br kd et c) ∧ w1 = [(a 0, .inr (4, [.ref (a 1), .ref (a 5), .ref (a 9), .ref (a 12), .int ft, .int tr])), (a 1, .inr (0, [.int (nI h), .int (nI w), .int pc, .int br, .ref (a 2), .ref (a 3), .ref (a 4)])), (a 2, .inl (cI, 16, .inl kd)), (a 3, .inl (cI, 16, .inl et)), (a 4, .inl (cI, 64, .inl nb)), (a 9, .inr (2, [.ref (a 10), .ref (a 11), .int mo2, .int go2])), (a 10, .inl (cI, 15, .inl td2)), (a 11, .inl (cI, 15, .inl bs2))])) := by
  refine MG.of (cc := cX4_whole) (maxL := 3) (ret := (some .int)) (by decide) rfl (Nat.le_of_ble_eq_true rfl) ?_
  intro P_ E_ S_ M_ B_ T_ K_ hx hb hml hr hts hown hlk hnm A hA hP hK hD hS ls hl
  have hl : lv_has ls 3 [(0, .ref (a 0)), (1, .int c)] := hl
  have hin4 : ∀ x ∈ u_ws RX4 TX4 6, x ∈ wsX4_whole := iwX4_whole_X4
  refine lv_aload_n hx hb dX4_whole_0 rfl (lv_at hl 0 rfl) ?_
  refine va_get (D := D) (ci := 4) (v := .ref (a 1)) (C := RX4) (T := TX4) (N := 6) hx hb hts hin4 hown hK.1 hP 0 rfl rfl 0 (by decide) (hts _ (List.mem_of_getElem? (i := 1) rfl)) (fun _ h9 => h9) rfl dX4_whole_1 ?_
  refine lv_iload_n hx hb dX4_whole_4 rfl (lv_at hl 1 rfl) ?_
  refine k_ri (run_RN (As := [.int c]) (rest := []) ⟨hx, hb, hml, hown, hts⟩ (c_X0_isSoft l D cI cJ cO a h w pc br kd et nb c hn) ⟨va_cnB 1 hts ggX4_whole_X0_isSoft rfl rfl rfl (nw_X4_100 hK) (hts _ (List.mem_of_getElem? (i := 3) rfl)) (by decide +kernel) ⟨Nat.le_of_ble_eq_true rfl, Nat.le_of_ble_eq_true rfl⟩, (hts _ (List.mem_of_getElem? (i := 2) rfl)), (hts _ (List.mem_of_getElem? (i := 4) rfl))⟩ hP hK [1, 2, 3, 4] rfl rfl rfl rfl rfl hl.1 rfl (Nat.le_of_ble_eq_true rfl) dX4_whole_5 ⟨Nat.le_refl _, Nat.le_refl _⟩) (fun r_1 q_2 => ?_)
  obtain rfl := q_2
  refine lv_if_ne (tgt := 13) hx hb dX4_whole_8 (by decide) (fun c_3 => ?_) (fun c_3 => ?_)
  · have c_3 := b2_t c_3
    refine lv_iconst (v := 0) hx hb dX4_whole_13 (by decide) ?_
    refine lv_istore_n (lv' := [(2, .int 0), (0, .ref (a 0)), (1, .int c)]) hx hb dX4_whole_14 rfl hl (by decide) rfl (fun ls hl => ?_)
    have key_5 : ∀ (n_4 : Nat) (k : Nat) (td2 : Nat → Int32) (bs2 : Nat → Int32) (mo2 : Int32) (go2 : Int32), (k ≤ 10) → (∀ z, z < k → ¬ whP h w (h * w) pc br kd et c.toNatClampNeg z) → 10 - k < n_4 → ∀ (H : Heap) (locs : List Loc), va_P D vwCl [(a 0, .inr (4, [.ref (a 1), .ref (a 5), .ref (a 9), .ref (a 12), .int ft, .int tr])), (a 1, .inr (0, [.int (nI h), .int (nI w), .int pc, .int br, .ref (a 2), .ref (a 3), .ref (a 4)])), (a 2, .inl (cI, 16, .inl kd)), (a 3, .inl (cI, 16, .inl et)), (a 4, .inl (cI, 64, .inl nb)), (a 9, .inr (2, [.ref (a 10), .ref (a 11), .int mo2, .int go2])), (a 10, .inl (cI, 15, .inl td2)), (a 11, .inl (cI, 15, .inl bs2))] H → va_D A [(a 0, .inr (4, [.ref (a 1), .ref (a 5), .ref (a 9), .ref (a 12), .int ft, .int tr])), (a 1, .inr (0, [.int (nI h), .int (nI w), .int pc, .int br, .ref (a 2), .ref (a 3), .ref (a 4)])), (a 2, .inl (cI, 16, .inl kd)), (a 3, .inl (cI, 16, .inl et)), (a 4, .inl (cI, 64, .inl nb)), (a 9, .inr (2, [.ref (a 10), .ref (a 11), .int mo2, .int go2])), (a 10, .inl (cI, 15, .inl td2)), (a 11, .inl (cI, 15, .inl bs2))] → va_S A S_.heap H locs → ∀ ls : Array Slot, lv_has ls 3 [(0, .ref (a 0)), (1, .int c), (2, .int (nI k))] → W P_ l E_ ({ frames := 20, cells := 0, slots := 0, locals := 521 } : Room) S_ M_ (([.ref (a 0), .int c] : List Value).toArray) B_ T_ K_ H locs 0 0 (MQ B_ ((QI D (fun (r : Int32) (w1 : va_W) => ∃ (td2 : Nat → Int32) (bs2 : Nat → Int32) (mo2 : Int32) (go2 : Int32), r = (whoR h w (h * w) pc br kd et c) ∧ w1 = [(a 0, .inr (4, [.ref (a 1), .ref (a 5), .ref (a 9), .ref (a 12), .int ft, .int tr])), (a 1, .inr (0, [.int (nI h), .int (nI w), .int pc, .int br, .ref (a 2), .ref (a 3), .ref (a 4)])), (a 2, .inl (cI, 16, .inl kd)), (a 3, .inl (cI, 16, .inl et)), (a 4, .inl (cI, 64, .inl nb)), (a 9, .inr (2, [.ref (a 10), .ref (a 11), .int mo2, .int go2])), (a 10, .inl (cI, 15, .inl td2)), (a 11, .inl (cI, 15, .inl bs2))])) A) (([.ref (a 0), .int c] : List Value).toArray) S_ 0 0 A) (F0 M_ 15 ls []) := by
      intro n_4
      induction n_4 with
      | zero =>
        intro k td2 bs2 mo2 go2 hk hs hmu_n_4
        exact absurd hmu_n_4 (Nat.not_lt_zero _)
      | succ n_4 ih_6 =>
        intro k td2 bs2 mo2 go2 hk hs hmu_n_4 H locs hP hD hS ls hl
        have hl : lv_has ls 3 [(0, .ref (a 0)), (1, .int c), (2, .int (nI k))] := hl
        have hP : va_P D vwCl [(a 0, .inr (4, [.ref (a 1), .ref (a 5), .ref (a 9), .ref (a 12), .int ft, .int tr])), (a 1, .inr (0, [.int (nI h), .int (nI w), .int pc, .int br, .ref (a 2), .ref (a 3), .ref (a 4)])), (a 2, .inl (cI, 16, .inl kd)), (a 3, .inl (cI, 16, .inl et)), (a 4, .inl (cI, 64, .inl nb)), (a 9, .inr (2, [.ref (a 10), .ref (a 11), .int mo2, .int go2])), (a 10, .inl (cI, 15, .inl td2)), (a 11, .inl (cI, 15, .inl bs2))] H := hP
        have hD : va_D A [(a 0, .inr (4, [.ref (a 1), .ref (a 5), .ref (a 9), .ref (a 12), .int ft, .int tr])), (a 1, .inr (0, [.int (nI h), .int (nI w), .int pc, .int br, .ref (a 2), .ref (a 3), .ref (a 4)])), (a 2, .inl (cI, 16, .inl kd)), (a 3, .inl (cI, 16, .inl et)), (a 4, .inl (cI, 64, .inl nb)), (a 9, .inr (2, [.ref (a 10), .ref (a 11), .int mo2, .int go2])), (a 10, .inl (cI, 15, .inl td2)), (a 11, .inl (cI, 15, .inl bs2))] := hD
        refine lv_iload_n hx hb dX4_whole_15 rfl (lv_at hl 2 rfl) ?_
        refine lv_bipush (v := 9) hx hb dX4_whole_16 (by decide) ?_
        refine lv_icmp_gt (tgt := 48) hx hb dX4_whole_18 (by decide) (fun c_7 => ?_) (fun c_7 => ?_)
        · have c_7 : 9 < k := (nI_ltI (a := 9) (b := k) (by omega) (by omega)).mp c_7
          refine lv_bipush (v := (-9)) hx hb dX4_whole_48 (by decide) ?_
          refine mi_ret (v := (-9)) hx hb hr hlk hP hD hS dX4_whole_50 ?_
          obtain rfl : k = 10 := by omega
          exact ⟨td2, bs2, mo2, go2, (by rw [whoR, if_pos c_3, ffN_all (P := fun k => ¬ whP h w (h * w) pc br kd et c.toNatClampNeg k) hs, if_neg (by omega)]), rfl⟩
        · have c_7 : k ≤ 9 := Nat.le_of_not_lt (fun z => c_7 ((nI_ltI (a := 9) (b := k) (by omega) (by omega)).mpr z))
          refine lv_aload_n hx hb dX4_whole_21 rfl (lv_at hl 0 rfl) ?_
          refine va_get (D := D) (ci := 4) (v := .ref (a 1)) (C := RX4) (T := TX4) (N := 6) hx hb hts hin4 hown hK.1 hP 0 rfl rfl 0 (by decide) (hts _ (List.mem_of_getElem? (i := 1) rfl)) (fun _ h9 => h9) rfl dX4_whole_22 ?_
          refine lv_iload_n hx hb dX4_whole_25 rfl (lv_at hl 2 rfl) ?_
          refine k_ri (run_RN (As := [.int (nI k)]) (rest := []) ⟨hx, hb, hml, hown, hts⟩ (c_X0_isAllRipe l D cI cJ cO a h w pc br kd et nb (nI k) hn) ⟨va_cnB 1 hts ggX4_whole_X0_isAllRipe rfl rfl rfl (nw_X4_149 hK) (hts _ (List.mem_of_getElem? (i := 3) rfl)) (by decide +kernel) ⟨Nat.le_of_ble_eq_true rfl, Nat.le_of_ble_eq_true rfl⟩, (hts _ (List.mem_of_getElem? (i := 17) rfl)), (hts _ (List.mem_of_getElem? (i := 18) rfl))⟩ hP hK [1, 2, 3, 4] rfl rfl rfl rfl rfl hl.1 rfl (Nat.le_of_ble_eq_true rfl) dX4_whole_26 ⟨Nat.le_refl _, Nat.le_refl _⟩) (fun r_8 q_9 => ?_)
          obtain rfl := q_9
          refine lv_if_eq (tgt := 42) hx hb dX4_whole_29 (by decide) (fun c_10 => ?_) (fun c_10 => ?_)
          · have c_10 := b2_f c_10
            refine lv_iinc (v := (nI (k + 1))) (lv' := [(2, .int (nI (k + 1))), (0, .ref (a 0)), (1, .int c)]) hx hb dX4_whole_42 hl (k := 2) rfl (nI_add _ 1) (by decide) rfl (fun ls hl => ?_)
            refine lv_goto (tgt := 15) hx hb dX4_whole_45 (by decide) ?_
            exact ih_6 (k + 1) td2 bs2 mo2 go2 (by omega) (nc_s hs (fun z => c_10 z.1)) (by omega) _ _ hP hD hS ls (lv_sub hl [1, 2, 0] rfl)
          · have c_10 := b2_t c_10
            refine lv_aload_n hx hb dX4_whole_32 rfl (lv_at hl 0 rfl) ?_
            refine lv_iload_n hx hb dX4_whole_33 rfl (lv_at hl 1 rfl) ?_
            refine k_mi (wr := []) [0, 1, 2, 3, 4, 5, 6, 7] [] (run_MV (As := [.int c]) (rest := []) ⟨hx, hb, hml, hown, hts⟩ (c_X4_shearsAllSoft l D cI cJ cO a ft tr h w pc br kd et nb td2 bs2 mo2 go2 c c.toNatClampNeg hn hnb (c_3.1.lt) (inN.vp c_3.1 (by omega)) rfl) (cwV 1 hts gX4_whole_X4_shearsAllSoft rfl rfl rfl (by decide +kernel) ⟨Nat.le_of_ble_eq_true rfl, Nat.le_of_ble_eq_true rfl⟩) hP hK hD [0, 1, 2, 3, 4, 5, 6, 7] (by decide) rfl rfl rfl rfl rfl hl.1 rfl (Nat.le_of_ble_eq_true rfl) dX4_whole_34 ⟨Nat.le_refl _, Nat.le_refl _⟩) hP hD hS hA rfl rfl (by decide) (by decide) (fun r_11 w_13 H locs q_12 hP hD hS => ?_)
            obtain ⟨td2_14, bs2_15, mo2_16, go2_17, rfl, rfl⟩ := q_12
            have hP : va_P D vwCl [(a 0, .inr (4, [.ref (a 1), .ref (a 5), .ref (a 9), .ref (a 12), .int ft, .int tr])), (a 1, .inr (0, [.int (nI h), .int (nI w), .int pc, .int br, .ref (a 2), .ref (a 3), .ref (a 4)])), (a 2, .inl (cI, 16, .inl kd)), (a 3, .inl (cI, 16, .inl et)), (a 4, .inl (cI, 64, .inl nb)), (a 9, .inr (2, [.ref (a 10), .ref (a 11), .int mo2_16, .int go2_17])), (a 10, .inl (cI, 15, .inl td2_14)), (a 11, .inl (cI, 15, .inl bs2_15))] H := hP.sub [0, 1, 2, 3, 4, 5, 6, 7] rfl
            have hD : va_D A [(a 0, .inr (4, [.ref (a 1), .ref (a 5), .ref (a 9), .ref (a 12), .int ft, .int tr])), (a 1, .inr (0, [.int (nI h), .int (nI w), .int pc, .int br, .ref (a 2), .ref (a 3), .ref (a 4)])), (a 2, .inl (cI, 16, .inl kd)), (a 3, .inl (cI, 16, .inl et)), (a 4, .inl (cI, 64, .inl nb)), (a 9, .inr (2, [.ref (a 10), .ref (a 11), .int mo2_16, .int go2_17])), (a 10, .inl (cI, 15, .inl td2_14)), (a 11, .inl (cI, 15, .inl bs2_15))] := hD.sub [0, 1, 2, 3, 4, 5, 6, 7] (by decide) rfl
            refine lv_if_eq (tgt := 42) hx hb dX4_whole_37 (by decide) (fun c_18 => ?_) (fun c_18 => ?_)
            · have c_18 := b2_f c_18
              refine lv_iinc (v := (nI (k + 1))) (lv' := [(2, .int (nI (k + 1))), (0, .ref (a 0)), (1, .int c)]) hx hb dX4_whole_42 hl (k := 2) rfl (nI_add _ 1) (by decide) rfl (fun ls hl => ?_)
              refine lv_goto (tgt := 15) hx hb dX4_whole_45 (by decide) ?_
              exact ih_6 (k + 1) td2_14 bs2_15 mo2_16 go2_17 (by omega) (nc_s hs (fun z => c_18 z.2)) (by omega) _ _ hP hD hS ls (lv_sub hl [1, 2, 0] rfl)
            · have c_18 := b2_t c_18
              refine lv_iload_n hx hb dX4_whole_40 rfl (lv_at hl 2 rfl) ?_
              refine mi_ret (v := (nI k)) hx hb hr hlk hP hD hS dX4_whole_41 ?_
              exact ⟨td2_14, bs2_15, mo2_16, go2_17, (by rw [whoR, if_pos c_3, ffN_at (P := fun k => ¬ whP h w (h * w) pc br kd et c.toNatClampNeg k) hs (fun z => z ⟨c_10, c_18⟩) (by omega), if_pos (by omega)]), rfl⟩
    exact key_5 _ 0 td bs mo go (by omega) (fun z hz => absurd hz (Nat.not_lt_zero z)) (Nat.lt_succ_self _) _ _ hP hD hS ls (lv_sub hl [1, 2, 0] rfl)
  · have c_3 := b2_f c_3
    refine lv_iconst (v := (-1)) hx hb dX4_whole_11 (by decide) ?_
    refine mi_ret (v := (-1)) hx hb hr hlk hP hD hS dX4_whole_12 ?_
    exact ⟨td, bs, mo, go, (by rw [whoR, if_neg c_3]), rfl⟩
theorem iwX4_stops_X0 : ∀ x ∈ wsX00, x ∈ wsX4_stops := by decide +kernel
theorem iwX4_stops_X4 : ∀ x ∈ wsX40, x ∈ wsX4_stops := by decide +kernel
set_option maxRecDepth 100000 in
set_option maxHeartbeats 4000000 in
/-- X4_stops -/
theorem c_X4_stops (l : Launch) (D : va_G) (cI cJ cO : ClassId) (a : Nat → Nat) (ft : Int32) (tr : Int32) (h : Nat) (w : Nat) (pc : Int32) (br : Int32) (kd : Nat → Int32) (et : Nat → Int32) (nb : Nat → Int32) (td : Nat → Int32) (bs : Nat → Int32) (mo : Int32) (go : Int32) (ws : Int32) (hn : h * w ≤ 16) (hnb : nbOk h w nb (h * w)) (hh : h ≤ 4) : MG l yX4_stops wsX4_stops 22 566 0 0 D [(cI, .int), (cJ, .long), (cO, .object "ShornHill$Sheet")] [.ref (a 0), .int ws] [(a 0, .inr (4, [.ref (a 1), .ref (a 5), .ref (a 9), .ref (a 12), .int ft, .int tr])), (a 1, .inr (0, [.int (nI h), .int (nI w), .int pc, .int br, .ref (a 2), .ref (a 3), .ref (a 4)])), (a 2, .inl (cI, 16, .inl kd)), (a 3, .inl (cI, 16, .inl et)), (a 4, .inl (cI, 64, .inl nb)), (a 9, .inr (2, [.ref (a 10), .ref (a 11), .int mo, .int go])), (a 10, .inl (cI, 15, .inl td)), (a 11, .inl (cI, 15, .inl bs))] (QI D (fun (r : Int32) (w1 : va_W) => ∃ (td2 : Nat → Int32) (bs2 : Nat → Int32) (mo2 : Int32) (go2 : Int32), r = (stoR h w (h * w) pc br kd et ws) ∧ w1 = [(a 0, .inr (4, [.ref (a 1), .ref (a 5), .ref (a 9), .ref (a 12), .int ft, .int tr])), (a 1, .inr (0, [.int (nI h), .int (nI w), .int pc, .int br, .ref (a 2), .ref (a 3), .ref (a 4)])), (a 2, .inl (cI, 16, .inl kd)), (a 3, .inl (cI, 16, .inl et)), (a 4, .inl (cI, 64, .inl nb)), (a 9, .inr (2, [.ref (a 10), .ref (a 11), .int mo2, .int go2])), (a 10, .inl (cI, 15, .inl td2)), (a 11, .inl (cI, 15, .inl bs2))])) := by
  refine MG.of (cc := cX4_stops) (maxL := 3) (ret := (some .int)) (by decide) rfl (Nat.le_of_ble_eq_true rfl) ?_
  intro P_ E_ S_ M_ B_ T_ K_ hx hb hml hr hts hown hlk hnm A hA hP hK hD hS ls hl
  have hl : lv_has ls 3 [(0, .ref (a 0)), (1, .int ws)] := hl
  have hin0 : ∀ x ∈ u_ws RX0 TX0 7, x ∈ wsX4_stops := iwX4_stops_X0
  have hin4 : ∀ x ∈ u_ws RX4 TX4 6, x ∈ wsX4_stops := iwX4_stops_X4
  refine lv_aload_n hx hb dX4_stops_0 rfl (lv_at hl 0 rfl) ?_
  refine va_get (D := D) (ci := 4) (v := .ref (a 1)) (C := RX4) (T := TX4) (N := 6) hx hb hts hin4 hown hK.1 hP 0 rfl rfl 0 (by decide) (hts _ (List.mem_of_getElem? (i := 1) rfl)) (fun _ h9 => h9) rfl dX4_stops_1 ?_
  refine k_ri (run_RN (As := []) (rest := []) ⟨hx, hb, hml, hown, hts⟩ (c_X0_stands l D cI cJ cO a h w pc br kd et nb hh) ⟨va_cnB 0 hts ggX4_stops_X0_stands rfl rfl rfl (nw_X4_106 hK) (hts _ (List.mem_of_getElem? (i := 3) rfl)) (by decide +kernel) ⟨Nat.le_of_ble_eq_true rfl, Nat.le_of_ble_eq_true rfl⟩, (hts _ (List.mem_of_getElem? (i := 2) rfl)), (hts _ (List.mem_of_getElem? (i := 4) rfl))⟩ hP hK [1, 2, 3, 4] rfl rfl rfl rfl rfl hl.1 rfl (Nat.le_of_ble_eq_true rfl) dX4_stops_4 ⟨Nat.le_refl _, Nat.le_refl _⟩) (fun r_1 q_2 => ?_)
  obtain rfl := q_2
  refine lv_if_ne (tgt := 13) hx hb dX4_stops_7 (by decide) (fun c_3 => ?_) (fun c_3 => ?_)
  · have c_3 := b2_t c_3
    have ch : ¬ h = 0 := by omega
    refine lv_iload_n hx hb dX4_stops_13 rfl (lv_at hl 1 rfl) ?_
    refine k_ri (run_RS (As := [.int ws]) (rest := []) ⟨hx, hb, hml, hown, hts⟩ (c_X4_isWeeks l D cI cJ cO ws) (va_cwS 1 hts gX4_stops_X4_isWeeks rfl rfl rfl (by decide +kernel) ⟨Nat.le_of_ble_eq_true rfl, Nat.le_of_ble_eq_true rfl⟩) hP hK [] rfl rfl hl.1 rfl (Nat.le_of_ble_eq_true rfl) dX4_stops_14 ⟨Nat.le_refl _, Nat.le_refl _⟩) (fun r_4 q_5 => ?_)
    obtain rfl := q_5
    refine lv_if_ne (tgt := 23) hx hb dX4_stops_17 (by decide) (fun c_6 => ?_) (fun c_6 => ?_)
    · have c_6 := b2_t c_6
      refine lv_aload_n hx hb dX4_stops_23 rfl (lv_at hl 0 rfl) ?_
      refine lv_iload_n hx hb dX4_stops_24 rfl (lv_at hl 1 rfl) ?_
      refine k_mi (wr := []) [0, 1, 2, 3, 4, 5, 6, 7] [] (run_MV (As := [.int ws]) (rest := []) ⟨hx, hb, hml, hown, hts⟩ (c_X4_canBeShornWhole l D cI cJ cO a ft tr h w pc br kd et nb td bs mo go ws hn hnb) (cwV 1 hts gX4_stops_X4_canBeShornWhole rfl rfl rfl (by decide +kernel) ⟨Nat.le_of_ble_eq_true rfl, Nat.le_of_ble_eq_true rfl⟩) hP hK hD [0, 1, 2, 3, 4, 5, 6, 7] (by decide) rfl rfl rfl rfl rfl hl.1 rfl (Nat.le_of_ble_eq_true rfl) dX4_stops_25 ⟨Nat.le_refl _, Nat.le_refl _⟩) hP hD hS hA rfl rfl (by decide) (by decide) (fun r_7 w_9 H locs q_8 hP hD hS => ?_)
      obtain ⟨td2_10, bs2_11, mo2_12, go2_13, rfl, rfl⟩ := q_8
      have hP : va_P D vwCl [(a 0, .inr (4, [.ref (a 1), .ref (a 5), .ref (a 9), .ref (a 12), .int ft, .int tr])), (a 1, .inr (0, [.int (nI h), .int (nI w), .int pc, .int br, .ref (a 2), .ref (a 3), .ref (a 4)])), (a 2, .inl (cI, 16, .inl kd)), (a 3, .inl (cI, 16, .inl et)), (a 4, .inl (cI, 64, .inl nb)), (a 9, .inr (2, [.ref (a 10), .ref (a 11), .int mo2_12, .int go2_13])), (a 10, .inl (cI, 15, .inl td2_10)), (a 11, .inl (cI, 15, .inl bs2_11))] H := hP.sub [0, 1, 2, 3, 4, 5, 6, 7] rfl
      have hD : va_D A [(a 0, .inr (4, [.ref (a 1), .ref (a 5), .ref (a 9), .ref (a 12), .int ft, .int tr])), (a 1, .inr (0, [.int (nI h), .int (nI w), .int pc, .int br, .ref (a 2), .ref (a 3), .ref (a 4)])), (a 2, .inl (cI, 16, .inl kd)), (a 3, .inl (cI, 16, .inl et)), (a 4, .inl (cI, 64, .inl nb)), (a 9, .inr (2, [.ref (a 10), .ref (a 11), .int mo2_12, .int go2_13])), (a 10, .inl (cI, 15, .inl td2_10)), (a 11, .inl (cI, 15, .inl bs2_11))] := hD.sub [0, 1, 2, 3, 4, 5, 6, 7] (by decide) rfl
      refine lv_if_eq (tgt := 34) hx hb dX4_stops_28 (by decide) (fun c_14 => ?_) (fun c_14 => ?_)
      · have c_14 := b2_f c_14
        refine lv_iconst (v := 0) hx hb dX4_stops_34 (by decide) ?_
        refine lv_istore_n (lv' := [(2, .int 0), (0, .ref (a 0)), (1, .int ws)]) hx hb dX4_stops_35 rfl hl (by decide) rfl (fun ls hl => ?_)
        have key_16 : ∀ (n_15 : Nat) (k : Nat) (td2 : Nat → Int32) (bs2 : Nat → Int32) (mo2 : Int32) (go2 : Int32), (k ≤ h * w) → (∀ z, z < k → ¬ spR h w (h * w) pc br kd et ws z) → h * w - k < n_15 → ∀ (H : Heap) (locs : List Loc), va_P D vwCl [(a 0, .inr (4, [.ref (a 1), .ref (a 5), .ref (a 9), .ref (a 12), .int ft, .int tr])), (a 1, .inr (0, [.int (nI h), .int (nI w), .int pc, .int br, .ref (a 2), .ref (a 3), .ref (a 4)])), (a 2, .inl (cI, 16, .inl kd)), (a 3, .inl (cI, 16, .inl et)), (a 4, .inl (cI, 64, .inl nb)), (a 9, .inr (2, [.ref (a 10), .ref (a 11), .int mo2, .int go2])), (a 10, .inl (cI, 15, .inl td2)), (a 11, .inl (cI, 15, .inl bs2))] H → va_D A [(a 0, .inr (4, [.ref (a 1), .ref (a 5), .ref (a 9), .ref (a 12), .int ft, .int tr])), (a 1, .inr (0, [.int (nI h), .int (nI w), .int pc, .int br, .ref (a 2), .ref (a 3), .ref (a 4)])), (a 2, .inl (cI, 16, .inl kd)), (a 3, .inl (cI, 16, .inl et)), (a 4, .inl (cI, 64, .inl nb)), (a 9, .inr (2, [.ref (a 10), .ref (a 11), .int mo2, .int go2])), (a 10, .inl (cI, 15, .inl td2)), (a 11, .inl (cI, 15, .inl bs2))] → va_S A S_.heap H locs → ∀ ls : Array Slot, lv_has ls 3 [(0, .ref (a 0)), (1, .int ws), (2, .int (nI k))] → W P_ l E_ ({ frames := 22, cells := 0, slots := 0, locals := 566 } : Room) S_ M_ (([.ref (a 0), .int ws] : List Value).toArray) B_ T_ K_ H locs 0 0 (MQ B_ ((QI D (fun (r : Int32) (w1 : va_W) => ∃ (td2 : Nat → Int32) (bs2 : Nat → Int32) (mo2 : Int32) (go2 : Int32), r = (stoR h w (h * w) pc br kd et ws) ∧ w1 = [(a 0, .inr (4, [.ref (a 1), .ref (a 5), .ref (a 9), .ref (a 12), .int ft, .int tr])), (a 1, .inr (0, [.int (nI h), .int (nI w), .int pc, .int br, .ref (a 2), .ref (a 3), .ref (a 4)])), (a 2, .inl (cI, 16, .inl kd)), (a 3, .inl (cI, 16, .inl et)), (a 4, .inl (cI, 64, .inl nb)), (a 9, .inr (2, [.ref (a 10), .ref (a 11), .int mo2, .int go2])), (a 10, .inl (cI, 15, .inl td2)), (a 11, .inl (cI, 15, .inl bs2))])) A) (([.ref (a 0), .int ws] : List Value).toArray) S_ 0 0 A) (F0 M_ 36 ls []) := by
          intro n_15
          induction n_15 with
          | zero =>
            intro k td2 bs2 mo2 go2 hk hs hmu_n_15
            exact absurd hmu_n_15 (Nat.not_lt_zero _)
          | succ n_15 ih_17 =>
            intro k td2 bs2 mo2 go2 hk hs hmu_n_15 H locs hP hD hS ls hl
            have hl : lv_has ls 3 [(0, .ref (a 0)), (1, .int ws), (2, .int (nI k))] := hl
            have hP : va_P D vwCl [(a 0, .inr (4, [.ref (a 1), .ref (a 5), .ref (a 9), .ref (a 12), .int ft, .int tr])), (a 1, .inr (0, [.int (nI h), .int (nI w), .int pc, .int br, .ref (a 2), .ref (a 3), .ref (a 4)])), (a 2, .inl (cI, 16, .inl kd)), (a 3, .inl (cI, 16, .inl et)), (a 4, .inl (cI, 64, .inl nb)), (a 9, .inr (2, [.ref (a 10), .ref (a 11), .int mo2, .int go2])), (a 10, .inl (cI, 15, .inl td2)), (a 11, .inl (cI, 15, .inl bs2))] H := hP
            have hD : va_D A [(a 0, .inr (4, [.ref (a 1), .ref (a 5), .ref (a 9), .ref (a 12), .int ft, .int tr])), (a 1, .inr (0, [.int (nI h), .int (nI w), .int pc, .int br, .ref (a 2), .ref (a 3), .ref (a 4)])), (a 2, .inl (cI, 16, .inl kd)), (a 3, .inl (cI, 16, .inl et)), (a 4, .inl (cI, 64, .inl nb)), (a 9, .inr (2, [.ref (a 10), .ref (a 11), .int mo2, .int go2])), (a 10, .inl (cI, 15, .inl td2)), (a 11, .inl (cI, 15, .inl bs2))] := hD
            refine lv_iload_n hx hb dX4_stops_36 rfl (lv_at hl 2 rfl) ?_
            refine lv_aload_n hx hb dX4_stops_37 rfl (lv_at hl 0 rfl) ?_
            refine va_get (D := D) (ci := 4) (v := .ref (a 1)) (C := RX4) (T := TX4) (N := 6) hx hb hts hin4 hown hK.1 hP 0 rfl rfl 0 (by decide) (hts _ (List.mem_of_getElem? (i := 1) rfl)) (fun _ h9 => h9) rfl dX4_stops_38 ?_
            refine k_ri (run_RN (As := []) (rest := [.int (nI k)]) ⟨hx, hb, hml, hown, hts⟩ (c_X0_cells l D cI cJ cO a h w pc br kd et nb) ⟨va_cnB 0 hts ggX4_stops_X0_cells rfl rfl rfl (nw_X4_143 hK) (hts _ (List.mem_of_getElem? (i := 3) rfl)) (by decide +kernel) ⟨Nat.le_of_ble_eq_true rfl, Nat.le_of_ble_eq_true rfl⟩, (hts _ (List.mem_of_getElem? (i := 23) rfl)), (hts _ (List.mem_of_getElem? (i := 24) rfl))⟩ hP hK [1, 2, 3, 4] rfl rfl rfl rfl rfl hl.1 rfl (Nat.le_of_ble_eq_true rfl) dX4_stops_41 ⟨Nat.le_refl _, Nat.le_refl _⟩) (fun r_18 q_19 => ?_)
            obtain rfl := q_19
            refine lv_icmp_ge (tgt := 77) hx hb dX4_stops_44 (by decide) (fun c_20 => ?_) (fun c_20 => ?_)
            · have c_20 : h * w ≤ k := (nI_leI (a := h * w) (b := k) (by omega) (by omega)).mp c_20
              refine lv_bipush (v := (-9)) hx hb dX4_stops_77 (by decide) ?_
              refine mi_ret (v := (-9)) hx hb hr hlk hP hD hS dX4_stops_79 ?_
              obtain rfl : k = h * w := by omega
              have hff := ffN_all (P := fun c => ¬ spR h w (h * w) pc br kd et ws c) (n := h * w) hs
              exact ⟨td2, bs2, mo2, go2, (by rw [stoR, if_neg (show ¬ h = 0 by omega), if_pos c_6, if_neg c_14, hff, if_neg (Nat.lt_irrefl _)]), rfl⟩
            · have c_20 : k < h * w := Nat.lt_of_not_le (fun z => c_20 ((nI_leI (a := h * w) (b := k) (by omega) (by omega)).mpr z))
              refine lv_aload_n hx hb dX4_stops_47 rfl (lv_at hl 0 rfl) ?_
              refine va_get (D := D) (ci := 4) (v := .ref (a 1)) (C := RX4) (T := TX4) (N := 6) hx hb hts hin4 hown hK.1 hP 0 rfl rfl 0 (by decide) (hts _ (List.mem_of_getElem? (i := 1) rfl)) (fun _ h9 => h9) rfl dX4_stops_48 ?_
              refine va_getN (D := D) (ci := 0) (v := .ref (a 2)) (C := RX0) (T := TX0) (N := 7) hx hb hts hin0 hown hK.1 hP 1 rfl rfl 4 (by decide) (va_Nw.use rfl (nw_X4_91 hK)) (fun _ h9 => h9) rfl dX4_stops_51 ?_
              refine lv_iload_n hx hb dX4_stops_54 rfl (lv_at hl 2 rfl) ?_
              refine k_iald hx hb hK hP 2 0 rfl rfl (j := k) (vp_in_nI (show k < 16 by omega) (by decide)) (nI_clamp (by omega)) dX4_stops_55 ?_
              refine lv_iconst (v := 3) hx hb dX4_stops_56 (by decide) ?_
              refine lv_icmp_ne (tgt := 71) hx hb dX4_stops_57 (by decide) (fun c_21 => ?_) (fun c_21 => ?_)
              · refine lv_iinc (v := (nI (k + 1))) (lv' := [(2, .int (nI (k + 1))), (0, .ref (a 0)), (1, .int ws)]) hx hb dX4_stops_71 hl (k := 2) rfl (nI_add _ 1) (by decide) rfl (fun ls hl => ?_)
                refine lv_goto (tgt := 36) hx hb dX4_stops_74 (by decide) ?_
                exact ih_17 (k + 1) td2 bs2 mo2 go2 (by omega) (nc_s hs (fun z => c_21 z.1)) (by omega) _ _ hP hD hS ls (lv_sub hl [1, 2, 0] rfl)
              · refine lv_aload_n hx hb dX4_stops_60 rfl (lv_at hl 0 rfl) ?_
                refine lv_iload_n hx hb dX4_stops_61 rfl (lv_at hl 1 rfl) ?_
                refine lv_iload_n hx hb dX4_stops_62 rfl (lv_at hl 2 rfl) ?_
                refine k_mi (wr := []) [0, 1, 2, 3, 4, 5, 6, 7] [] (run_MV (As := [.int ws, .int (nI k)]) (rest := []) ⟨hx, hb, hml, hown, hts⟩ (c_X4_couldBeShornWhole l D cI cJ cO a ft tr h w pc br kd et nb td2 bs2 mo2 go2 ws (nI k) k hn hnb (by assumption) (vp_in_nI (show k < 16 by omega) (by decide)) (nI_clamp (by omega))) (cwV 2 hts gX4_stops_X4_couldBeShornWhole rfl rfl rfl (by decide +kernel) ⟨Nat.le_of_ble_eq_true rfl, Nat.le_of_ble_eq_true rfl⟩) hP hK hD [0, 1, 2, 3, 4, 5, 6, 7] (by decide) rfl rfl rfl rfl rfl hl.1 rfl (Nat.le_of_ble_eq_true rfl) dX4_stops_63 ⟨Nat.le_refl _, Nat.le_refl _⟩) hP hD hS hA rfl rfl (by decide) (by decide) (fun r_22 w_24 H locs q_23 hP hD hS => ?_)
                obtain ⟨td2_25, bs2_26, mo2_27, go2_28, rfl, rfl⟩ := q_23
                have hP : va_P D vwCl [(a 0, .inr (4, [.ref (a 1), .ref (a 5), .ref (a 9), .ref (a 12), .int ft, .int tr])), (a 1, .inr (0, [.int (nI h), .int (nI w), .int pc, .int br, .ref (a 2), .ref (a 3), .ref (a 4)])), (a 2, .inl (cI, 16, .inl kd)), (a 3, .inl (cI, 16, .inl et)), (a 4, .inl (cI, 64, .inl nb)), (a 9, .inr (2, [.ref (a 10), .ref (a 11), .int mo2_27, .int go2_28])), (a 10, .inl (cI, 15, .inl td2_25)), (a 11, .inl (cI, 15, .inl bs2_26))] H := hP.sub [0, 1, 2, 3, 4, 5, 6, 7] rfl
                have hD : va_D A [(a 0, .inr (4, [.ref (a 1), .ref (a 5), .ref (a 9), .ref (a 12), .int ft, .int tr])), (a 1, .inr (0, [.int (nI h), .int (nI w), .int pc, .int br, .ref (a 2), .ref (a 3), .ref (a 4)])), (a 2, .inl (cI, 16, .inl kd)), (a 3, .inl (cI, 16, .inl et)), (a 4, .inl (cI, 64, .inl nb)), (a 9, .inr (2, [.ref (a 10), .ref (a 11), .int mo2_27, .int go2_28])), (a 10, .inl (cI, 15, .inl td2_25)), (a 11, .inl (cI, 15, .inl bs2_26))] := hD.sub [0, 1, 2, 3, 4, 5, 6, 7] (by decide) rfl
                refine lv_if_eq (tgt := 71) hx hb dX4_stops_66 (by decide) (fun c_29 => ?_) (fun c_29 => ?_)
                · have c_29 := b2_f c_29
                  refine lv_iinc (v := (nI (k + 1))) (lv' := [(2, .int (nI (k + 1))), (0, .ref (a 0)), (1, .int ws)]) hx hb dX4_stops_71 hl (k := 2) rfl (nI_add _ 1) (by decide) rfl (fun ls hl => ?_)
                  refine lv_goto (tgt := 36) hx hb dX4_stops_74 (by decide) ?_
                  exact ih_17 (k + 1) td2_25 bs2_26 mo2_27 go2_28 (by omega) (nc_s hs (fun z => c_29 z.2)) (by omega) _ _ hP hD hS ls (lv_sub hl [1, 2, 0] rfl)
                · have c_29 := b2_t c_29
                  refine lv_iload_n hx hb dX4_stops_69 rfl (lv_at hl 2 rfl) ?_
                  refine mi_ret (v := (nI k)) hx hb hr hlk hP hD hS dX4_stops_70 ?_
                  exact ⟨td2_25, bs2_26, mo2_27, go2_28, (by rw [stoR, if_neg (show ¬ h = 0 by omega), if_pos c_6, if_neg c_14, ffN_at (P := fun c => ¬ spR h w (h * w) pc br kd et ws c) hs (fun z => z ⟨by assumption, by assumption⟩) (by omega), if_pos (by omega)]), rfl⟩
        exact key_16 _ 0 td2_10 bs2_11 mo2_12 go2_13 (by omega) (fun z hz => absurd hz (Nat.not_lt_zero z)) (Nat.lt_succ_self _) _ _ hP hD hS ls (lv_sub hl [1, 2, 0] rfl)
      · have c_14 := b2_t c_14
        refine lv_bipush (v := (-9)) hx hb dX4_stops_31 (by decide) ?_
        refine mi_ret (v := (-9)) hx hb hr hlk hP hD hS dX4_stops_33 ?_
        exact ⟨td2_10, bs2_11, mo2_12, go2_13, (by rw [stoR, if_neg ch, if_pos c_6, if_pos c_14]), rfl⟩
    · have c_6 := b2_f c_6
      refine lv_bipush (v := (-2)) hx hb dX4_stops_20 (by decide) ?_
      refine mi_ret (v := (-2)) hx hb hr hlk hP hD hS dX4_stops_22 ?_
      exact ⟨td, bs, mo, go, (by rw [stoR, if_neg ch, if_neg c_6]), rfl⟩
  · have c_3 := b2_f c_3
    have ch : h = 0 := by omega
    refine lv_bipush (v := (-3)) hx hb dX4_stops_10 (by decide) ?_
    refine mi_ret (v := (-3)) hx hb hr hlk hP hD hS dX4_stops_12 ?_
    exact ⟨td, bs, mo, go, (by rw [stoR, if_pos ch]), rfl⟩
