theorem iwX4_shearsAllSoft_X4 : ∀ x ∈ wsX40, x ∈ wsX4_shearsAllSoft := by decide +kernel
set_option maxRecDepth 100000 in
set_option maxHeartbeats 4000000 in
/-- X4_shearsAllSoft -/
theorem c_X4_shearsAllSoft (l : Launch) (D : va_G) (cI cJ cO : ClassId) (a : Nat → Nat) (ft : Int32) (tr : Int32) (h : Nat) (w : Nat) (pc : Int32) (br : Int32) (kd : Nat → Int32) (et : Nat → Int32) (nb : Nat → Int32) (td : Nat → Int32) (bs : Nat → Int32) (mo : Int32) (go : Int32) (c : Int32) (j : Nat) (hn : h * w ≤ 16) (hnb : nbOk h w nb (h * w)) (hjn : j < h * w) (hv_c : vp_in c 16) (hj_c : c.toNatClampNeg = j) : MG l yX4_shearsAllSoft wsX4_shearsAllSoft 19 499 0 0 D [(cI, .int), (cJ, .long), (cO, .object "ShornHill$Sheet")] [.ref (a 0), .int c] [(a 0, .inr (4, [.ref (a 1), .ref (a 5), .ref (a 9), .ref (a 12), .int ft, .int tr])), (a 1, .inr (0, [.int (nI h), .int (nI w), .int pc, .int br, .ref (a 2), .ref (a 3), .ref (a 4)])), (a 2, .inl (cI, 16, .inl kd)), (a 3, .inl (cI, 16, .inl et)), (a 4, .inl (cI, 64, .inl nb)), (a 9, .inr (2, [.ref (a 10), .ref (a 11), .int mo, .int go])), (a 10, .inl (cI, 15, .inl td)), (a 11, .inl (cI, 15, .inl bs))] (QI D (fun (r : Int32) (w1 : va_W) => ∃ (td2 : Nat → Int32) (bs2 : Nat → Int32) (mo2 : Int32) (go2 : Int32), r = (b2 (allS h w (h * w) kd j)) ∧ w1 = [(a 0, .inr (4, [.ref (a 1), .ref (a 5), .ref (a 9), .ref (a 12), .int ft, .int tr])), (a 1, .inr (0, [.int (nI h), .int (nI w), .int pc, .int br, .ref (a 2), .ref (a 3), .ref (a 4)])), (a 2, .inl (cI, 16, .inl kd)), (a 3, .inl (cI, 16, .inl et)), (a 4, .inl (cI, 64, .inl nb)), (a 9, .inr (2, [.ref (a 10), .ref (a 11), .int mo2, .int go2])), (a 10, .inl (cI, 15, .inl td2)), (a 11, .inl (cI, 15, .inl bs2))])) := by
  refine MG.of (cc := cX4_shearsAllSoft) (maxL := 3) (ret := (some .boolean)) (by decide) rfl (Nat.le_of_ble_eq_true rfl) ?_
  intro P_ E_ S_ M_ B_ T_ K_ hx hb hml hr hts hown hlk hnm A hA hP hK hD hS ls hl
  have hl : lv_has ls 3 [(0, .ref (a 0)), (1, .int c)] := hl
  have hin4 : ∀ x ∈ u_ws RX4 TX4 6, x ∈ wsX4_shearsAllSoft := iwX4_shearsAllSoft_X4
  refine lv_aload_n hx hb dX4_shearsAllSoft_0 rfl (lv_at hl 0 rfl) ?_
  refine va_get (D := D) (ci := 4) (v := .ref (a 1)) (C := RX4) (T := TX4) (N := 6) hx hb hts hin4 hown hK.1 hP 0 rfl rfl 0 (by decide) (hts _ (List.mem_of_getElem? (i := 1) rfl)) (fun _ h9 => h9) rfl dX4_shearsAllSoft_1 ?_
  refine k_ri (run_RN (As := []) (rest := []) ⟨hx, hb, hml, hown, hts⟩ (c_X0_softCells l D cI cJ cO a h w pc br kd et nb hn) ⟨va_cnB 0 hts ggX4_shearsAllSoft_X0_softCells rfl rfl rfl (nw_X4_79 hK) (hts _ (List.mem_of_getElem? (i := 3) rfl)) (by decide +kernel) ⟨Nat.le_of_ble_eq_true rfl, Nat.le_of_ble_eq_true rfl⟩, (hts _ (List.mem_of_getElem? (i := 2) rfl)), (hts _ (List.mem_of_getElem? (i := 4) rfl))⟩ hP hK [1, 2, 3, 4] rfl rfl rfl rfl rfl hl.1 rfl (Nat.le_of_ble_eq_true rfl) dX4_shearsAllSoft_4 ⟨Nat.le_refl _, Nat.le_refl _⟩) (fun r_1 q_2 => ?_)
  obtain rfl := q_2
  refine lv_istore_n (lv' := [(2, .int (sofS kd (h * w))), (0, .ref (a 0)), (1, .int c)]) hx hb dX4_shearsAllSoft_7 rfl hl (by decide) rfl (fun ls hl => ?_)
  refine lv_aload_n hx hb dX4_shearsAllSoft_8 rfl (lv_at hl 1 rfl) ?_
  refine lv_iload_n hx hb dX4_shearsAllSoft_9 rfl (lv_at hl 2 rfl) ?_
  refine lv_iload_n hx hb dX4_shearsAllSoft_10 rfl (lv_at hl 0 rfl) ?_
  refine k_mi (wr := []) [0, 1, 2, 3, 4, 5, 6, 7] [] (run_MV (As := [.int c, .int (sofS kd (h * w))]) (rest := []) ⟨hx, hb, hml, hown, hts⟩ (c_X4_mostShorn l D cI cJ cO a ft tr h w pc br kd et nb td bs mo go c (sofS kd (h * w)) j hn hnb (sm_sof _ _ hn) hjn hv_c hj_c) (cwV 2 hts gX4_shearsAllSoft_X4_mostShorn rfl rfl rfl (by decide +kernel) ⟨Nat.le_of_ble_eq_true rfl, Nat.le_of_ble_eq_true rfl⟩) hP hK hD [0, 1, 2, 3, 4, 5, 6, 7] (by decide) rfl rfl rfl rfl rfl hl.1 rfl (Nat.le_of_ble_eq_true rfl) dX4_shearsAllSoft_11 ⟨Nat.le_refl _, Nat.le_refl _⟩) hP hD hS hA rfl rfl (by decide) (by decide) (fun r_3 w_5 H locs q_4 hP hD hS => ?_)
  obtain ⟨td2_6, bs2_7, rfl, hbs_8, rfl⟩ := q_4
  have hP : va_P D vwCl [(a 0, .inr (4, [.ref (a 1), .ref (a 5), .ref (a 9), .ref (a 12), .int ft, .int tr])), (a 1, .inr (0, [.int (nI h), .int (nI w), .int pc, .int br, .ref (a 2), .ref (a 3), .ref (a 4)])), (a 2, .inl (cI, 16, .inl kd)), (a 3, .inl (cI, 16, .inl et)), (a 4, .inl (cI, 64, .inl nb)), (a 9, .inr (2, [.ref (a 10), .ref (a 11), .int (nI (msF h w j (sofS kd (h * w)))), .int (nI (popN 16 (sN (sofS kd (h * w)))))])), (a 10, .inl (cI, 15, .inl td2_6)), (a 11, .inl (cI, 15, .inl bs2_7))] H := hP.sub [0, 1, 2, 3, 4, 5, 6, 7] rfl
  have hD : va_D A [(a 0, .inr (4, [.ref (a 1), .ref (a 5), .ref (a 9), .ref (a 12), .int ft, .int tr])), (a 1, .inr (0, [.int (nI h), .int (nI w), .int pc, .int br, .ref (a 2), .ref (a 3), .ref (a 4)])), (a 2, .inl (cI, 16, .inl kd)), (a 3, .inl (cI, 16, .inl et)), (a 4, .inl (cI, 64, .inl nb)), (a 9, .inr (2, [.ref (a 10), .ref (a 11), .int (nI (msF h w j (sofS kd (h * w)))), .int (nI (popN 16 (sN (sofS kd (h * w)))))])), (a 10, .inl (cI, 15, .inl td2_6)), (a 11, .inl (cI, 15, .inl bs2_7))] := hD.sub [0, 1, 2, 3, 4, 5, 6, 7] (by decide) rfl
  refine lv_iload_n hx hb dX4_shearsAllSoft_14 rfl (lv_at hl 0 rfl) ?_
  refine k_ri (run_RS (As := [.int (sofS kd (h * w))]) (rest := [.int (nI (msF h w j (sofS kd (h * w))))]) ⟨hx, hb, hml, hown, hts⟩ (c_J6_bitCount_0f7a4 l D cI cJ cO (sofS kd (h * w)) (sm_sof _ _ hn)) (va_cwS 1 hts gX4_shearsAllSoft_J6_bitCount_0f7a4 rfl rfl rfl (by decide +kernel) ⟨Nat.le_of_ble_eq_true rfl, Nat.le_of_ble_eq_true rfl⟩) hP hK [] rfl rfl hl.1 rfl (Nat.le_of_ble_eq_true rfl) dX4_shearsAllSoft_15 ⟨Nat.le_refl _, Nat.le_refl _⟩) (fun r_9 q_10 => ?_)
  obtain rfl := q_10
  have hm1 := msF_le h w j (sofS kd (h * w))
  have hm2 := popN_le 16 (sN (sofS kd (h * w)))
  refine lv_icmp_ne (tgt := 25) hx hb dX4_shearsAllSoft_18 (by decide) (fun c_11 => ?_) (fun c_11 => ?_)
  · have c_11 : ¬ msF h w j (sofS kd (h * w)) = popN 16 (sN (sofS kd (h * w))) := fun z => c_11 ((nI_eq (a := msF h w j (sofS kd (h * w))) (b := popN 16 (sN (sofS kd (h * w)))) (by omega) (by omega)).mpr z)
    refine lv_iconst (v := 0) hx hb dX4_shearsAllSoft_25 (by decide) ?_
    refine mz_ret (v := 0) hx hb hr hlk hP hD hS dX4_shearsAllSoft_26 (by decide) ?_
    exact ⟨_, _, _, _, b2_0 (by assumption), rfl⟩
  · have c_11 : msF h w j (sofS kd (h * w)) = popN 16 (sN (sofS kd (h * w))) := (nI_eq (a := msF h w j (sofS kd (h * w))) (b := popN 16 (sN (sofS kd (h * w)))) (by omega) (by omega)).mp c_11
    refine lv_iconst (v := 1) hx hb dX4_shearsAllSoft_21 (by decide) ?_
    refine lv_goto (tgt := 26) hx hb dX4_shearsAllSoft_22 (by decide) ?_
    refine mz_ret (v := 1) hx hb hr hlk hP hD hS dX4_shearsAllSoft_26 (by decide) ?_
    exact ⟨_, _, _, _, b2_1 (by assumption), rfl⟩
