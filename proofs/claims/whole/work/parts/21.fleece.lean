theorem iwX4_mostShorn_X2 : ∀ x ∈ wsX20, x ∈ wsX4_mostShorn := by decide +kernel
theorem iwX4_mostShorn_X4 : ∀ x ∈ wsX40, x ∈ wsX4_mostShorn := by decide +kernel
set_option maxRecDepth 100000 in
set_option maxHeartbeats 4000000 in
/-- X4_mostShorn -/
theorem c_X4_mostShorn (l : Launch) (D : va_G) (cI cJ cO : ClassId) (a : Nat → Nat) (ft : Int32) (tr : Int32) (h : Nat) (w : Nat) (pc : Int32) (br : Int32) (kd : Nat → Int32) (et : Nat → Int32) (nb : Nat → Int32) (td : Nat → Int32) (bs : Nat → Int32) (mo : Int32) (go : Int32) (c : Int32) (u : Int32) (j : Nat) (hn : h * w ≤ 16) (hnb : nbOk h w nb (h * w)) (hu : sN u < 65536) (hjn : j < h * w) (hv_c : vp_in c 16) (hj_c : c.toNatClampNeg = j) : MG l yX4_mostShorn wsX4_mostShorn 18 477 0 0 D [(cI, .int), (cJ, .long), (cO, .object "ShornHill$Sheet")] [.ref (a 0), .int c, .int u] [(a 0, .inr (4, [.ref (a 1), .ref (a 5), .ref (a 9), .ref (a 12), .int ft, .int tr])), (a 1, .inr (0, [.int (nI h), .int (nI w), .int pc, .int br, .ref (a 2), .ref (a 3), .ref (a 4)])), (a 2, .inl (cI, 16, .inl kd)), (a 3, .inl (cI, 16, .inl et)), (a 4, .inl (cI, 64, .inl nb)), (a 9, .inr (2, [.ref (a 10), .ref (a 11), .int mo, .int go])), (a 10, .inl (cI, 15, .inl td)), (a 11, .inl (cI, 15, .inl bs))] (QI D (fun (r : Int32) (w1 : va_W) => ∃ (td2 : Nat → Int32) (bs2 : Nat → Int32), r = (nI (msF h w j u)) ∧ (∀ k, k + 1 < msF h w j u → bs2 k = (flF h w j u).2.1 k) ∧ w1 = [(a 0, .inr (4, [.ref (a 1), .ref (a 5), .ref (a 9), .ref (a 12), .int ft, .int tr])), (a 1, .inr (0, [.int (nI h), .int (nI w), .int pc, .int br, .ref (a 2), .ref (a 3), .ref (a 4)])), (a 2, .inl (cI, 16, .inl kd)), (a 3, .inl (cI, 16, .inl et)), (a 4, .inl (cI, 64, .inl nb)), (a 9, .inr (2, [.ref (a 10), .ref (a 11), .int (nI (msF h w j u)), .int (nI (popN 16 (sN u)))])), (a 10, .inl (cI, 15, .inl td2)), (a 11, .inl (cI, 15, .inl bs2))])) := by
  refine MG.of (cc := cX4_mostShorn) (maxL := 3) (ret := (some .int)) (by decide) rfl (Nat.le_of_ble_eq_true rfl) ?_
  intro P_ E_ S_ M_ B_ T_ K_ hx hb hml hr hts hown hlk hnm A hA hP hK hD hS ls hl
  have hl : lv_has ls 3 [(0, .ref (a 0)), (1, .int c), (2, .int u)] := hl
  have hin2 : ∀ x ∈ u_ws RX2 TX2 4, x ∈ wsX4_mostShorn := iwX4_mostShorn_X2
  have hin4 : ∀ x ∈ u_ws RX4 TX4 6, x ∈ wsX4_mostShorn := iwX4_mostShorn_X4
  refine lv_aload_n hx hb dX4_mostShorn_0 rfl (lv_at hl 0 rfl) ?_
  refine va_get (D := D) (ci := 4) (v := .ref (a 9)) (C := RX4) (T := TX4) (N := 6) hx hb hts hin4 hown hK.1 hP 0 rfl rfl 2 (by decide) (hts _ (List.mem_of_getElem? (i := 1) rfl)) (fun _ h9 => h9) rfl dX4_mostShorn_1 ?_
  refine lv_iconst (v := 0) hx hb dX4_mostShorn_4 (by decide) ?_
  refine va_putN (D := D) (ci := 2) (v := .int 0) (ty := .int) (C := RX2) (T := TX2) (N := 4) hx hb hts hin2 tyX2 tyX2_ok nmX2 hown hK.1 hP hD hS 5 rfl rfl 2 (by decide) (va_Nw.use rfl (nw_X4_246 hK)) (fun _ h9 => h9) rfl (by decide +kernel) rfl rfl (Nat.le_of_ble_eq_true rfl) dX4_mostShorn_5 (fun H locs hP hD hS => ?_)
  have hP : va_P D vwCl [(a 0, .inr (4, [.ref (a 1), .ref (a 5), .ref (a 9), .ref (a 12), .int ft, .int tr])), (a 1, .inr (0, [.int (nI h), .int (nI w), .int pc, .int br, .ref (a 2), .ref (a 3), .ref (a 4)])), (a 2, .inl (cI, 16, .inl kd)), (a 3, .inl (cI, 16, .inl et)), (a 4, .inl (cI, 64, .inl nb)), (a 9, .inr (2, [.ref (a 10), .ref (a 11), .int 0, .int go])), (a 10, .inl (cI, 15, .inl td)), (a 11, .inl (cI, 15, .inl bs))] H := hP
  have hD : va_D A [(a 0, .inr (4, [.ref (a 1), .ref (a 5), .ref (a 9), .ref (a 12), .int ft, .int tr])), (a 1, .inr (0, [.int (nI h), .int (nI w), .int pc, .int br, .ref (a 2), .ref (a 3), .ref (a 4)])), (a 2, .inl (cI, 16, .inl kd)), (a 3, .inl (cI, 16, .inl et)), (a 4, .inl (cI, 64, .inl nb)), (a 9, .inr (2, [.ref (a 10), .ref (a 11), .int 0, .int go])), (a 10, .inl (cI, 15, .inl td)), (a 11, .inl (cI, 15, .inl bs))] := hD
  refine lv_aload_n hx hb dX4_mostShorn_8 rfl (lv_at hl 0 rfl) ?_
  refine va_get (D := D) (ci := 4) (v := .ref (a 9)) (C := RX4) (T := TX4) (N := 6) hx hb hts hin4 hown hK.1 hP 0 rfl rfl 2 (by decide) (hts _ (List.mem_of_getElem? (i := 1) rfl)) (fun _ h9 => h9) rfl dX4_mostShorn_9 ?_
  refine lv_iload_n hx hb dX4_mostShorn_12 rfl (lv_at hl 2 rfl) ?_
  refine k_ri (run_RS (As := [.int u]) (rest := [.ref (a 9)]) ⟨hx, hb, hml, hown, hts⟩ (c_J6_bitCount_0f7a4 l D cI cJ cO u hu) (va_cwS 1 hts gX4_mostShorn_J6_bitCount_0f7a4 rfl rfl rfl (by decide +kernel) ⟨Nat.le_of_ble_eq_true rfl, Nat.le_of_ble_eq_true rfl⟩) hP hK [] rfl rfl hl.1 rfl (Nat.le_of_ble_eq_true rfl) dX4_mostShorn_13 ⟨Nat.le_refl _, Nat.le_refl _⟩) (fun r_1 q_2 => ?_)
  obtain rfl := q_2
  refine va_putN (D := D) (ci := 2) (v := .int (nI (popN 16 (sN u)))) (ty := .int) (C := RX2) (T := TX2) (N := 4) hx hb hts hin2 tyX2 tyX2_ok nmX2 hown hK.1 hP hD hS 5 rfl rfl 3 (by decide) (va_Nw.use rfl (nw_X4_249 hK)) (fun _ h9 => h9) rfl (by decide +kernel) rfl rfl (Nat.le_of_ble_eq_true rfl) dX4_mostShorn_16 (fun H locs hP hD hS => ?_)
  have hP : va_P D vwCl [(a 0, .inr (4, [.ref (a 1), .ref (a 5), .ref (a 9), .ref (a 12), .int ft, .int tr])), (a 1, .inr (0, [.int (nI h), .int (nI w), .int pc, .int br, .ref (a 2), .ref (a 3), .ref (a 4)])), (a 2, .inl (cI, 16, .inl kd)), (a 3, .inl (cI, 16, .inl et)), (a 4, .inl (cI, 64, .inl nb)), (a 9, .inr (2, [.ref (a 10), .ref (a 11), .int 0, .int (nI (popN 16 (sN u)))])), (a 10, .inl (cI, 15, .inl td)), (a 11, .inl (cI, 15, .inl bs))] H := hP
  have hD : va_D A [(a 0, .inr (4, [.ref (a 1), .ref (a 5), .ref (a 9), .ref (a 12), .int ft, .int tr])), (a 1, .inr (0, [.int (nI h), .int (nI w), .int pc, .int br, .ref (a 2), .ref (a 3), .ref (a 4)])), (a 2, .inl (cI, 16, .inl kd)), (a 3, .inl (cI, 16, .inl et)), (a 4, .inl (cI, 64, .inl nb)), (a 9, .inr (2, [.ref (a 10), .ref (a 11), .int 0, .int (nI (popN 16 (sN u)))])), (a 10, .inl (cI, 15, .inl td)), (a 11, .inl (cI, 15, .inl bs))] := hD
  refine lv_aload_n hx hb dX4_mostShorn_19 rfl (lv_at hl 0 rfl) ?_
  refine va_get (D := D) (ci := 4) (v := .ref (a 9)) (C := RX4) (T := TX4) (N := 6) hx hb hts hin4 hown hK.1 hP 0 rfl rfl 2 (by decide) (hts _ (List.mem_of_getElem? (i := 1) rfl)) (fun _ h9 => h9) rfl dX4_mostShorn_20 ?_
  refine lv_aload_n hx hb dX4_mostShorn_23 rfl (lv_at hl 0 rfl) ?_
  refine va_get (D := D) (ci := 4) (v := .ref (a 1)) (C := RX4) (T := TX4) (N := 6) hx hb hts hin4 hown hK.1 hP 0 rfl rfl 0 (by decide) (hts _ (List.mem_of_getElem? (i := 2) rfl)) (fun _ h9 => h9) rfl dX4_mostShorn_24 ?_
  refine lv_iload_n hx hb dX4_mostShorn_27 rfl (lv_at hl 1 rfl) ?_
  refine lv_iload_n hx hb dX4_mostShorn_28 rfl (lv_at hl 2 rfl) ?_
  refine lv_iload_n hx hb dX4_mostShorn_29 rfl (lv_at hl 1 rfl) ?_
  refine k_ri (run_RS (As := [.int u, .int c]) (rest := [.int c, .ref (a 1), .ref (a 9)]) ⟨hx, hb, hml, hown, hts⟩ (c_X4_without l D cI cJ cO u c) (va_cwS 2 hts gX4_mostShorn_X4_without rfl rfl rfl (by decide +kernel) ⟨Nat.le_of_ble_eq_true rfl, Nat.le_of_ble_eq_true rfl⟩) hP hK [] rfl rfl hl.1 rfl (Nat.le_of_ble_eq_true rfl) dX4_mostShorn_30 ⟨Nat.le_refl _, Nat.le_refl _⟩) (fun r_3 q_4 => ?_)
  obtain rfl := q_4
  refine lv_iconst (v := 1) hx hb dX4_mostShorn_33 (by decide) ?_
  refine k_mv (wr := [(a 0, .inr (4, [.ref (a 1), .ref (a 5), .ref (a 9), .ref (a 12), .int ft, .int tr]))]) [5, 6, 7, 1, 2, 3, 4] [0] (run_MS (As := [.ref (a 9), .ref (a 1), .int c, .int (wo u c), .int 1]) (rest := []) ⟨hx, hb, hml, hown, hts⟩ (c_X4_shear l D cI cJ cO a h w pc br kd et nb (popN 16 (sN u)) 1 0 bs td (wo u c) c j hn hnb (popN_le 16 _) (Nat.le_refl 1) rfl (Nat.zero_le 16) hjn hv_c hj_c) (va_cwS 5 hts gX4_mostShorn_X4_shear rfl rfl rfl (by decide +kernel) ⟨Nat.le_of_ble_eq_true rfl, Nat.le_of_ble_eq_true rfl⟩) hP hK hD [5, 6, 7, 1, 2, 3, 4] (by decide) rfl rfl hl.1 rfl (Nat.le_of_ble_eq_true rfl) dX4_mostShorn_34 ⟨Nat.le_refl _, Nat.le_refl _⟩) hP hD hS hA rfl rfl (by decide) (by decide) (fun w_7 H locs q_6 hP hD hS => ?_)
  obtain rfl := q_6
  have hP : va_P D vwCl [(a 0, .inr (4, [.ref (a 1), .ref (a 5), .ref (a 9), .ref (a 12), .int ft, .int tr])), (a 1, .inr (0, [.int (nI h), .int (nI w), .int pc, .int br, .ref (a 2), .ref (a 3), .ref (a 4)])), (a 2, .inl (cI, 16, .inl kd)), (a 3, .inl (cI, 16, .inl et)), (a 4, .inl (cI, 64, .inl nb)), (a 9, .inr (2, [.ref (a 10), .ref (a 11), .int (nI ((dfF h w (popN 16 (sN u)) 15 1 j (wo u c) (0, bs, td)).1)), .int (nI (popN 16 (sN u)))])), (a 10, .inl (cI, 15, .inl ((dfF h w (popN 16 (sN u)) 15 1 j (wo u c) (0, bs, td)).2.2))), (a 11, .inl (cI, 15, .inl ((dfF h w (popN 16 (sN u)) 15 1 j (wo u c) (0, bs, td)).2.1)))] H := hP.sub [0, 4, 5, 6, 7, 1, 2, 3] rfl
  have hD : va_D A [(a 0, .inr (4, [.ref (a 1), .ref (a 5), .ref (a 9), .ref (a 12), .int ft, .int tr])), (a 1, .inr (0, [.int (nI h), .int (nI w), .int pc, .int br, .ref (a 2), .ref (a 3), .ref (a 4)])), (a 2, .inl (cI, 16, .inl kd)), (a 3, .inl (cI, 16, .inl et)), (a 4, .inl (cI, 64, .inl nb)), (a 9, .inr (2, [.ref (a 10), .ref (a 11), .int (nI ((dfF h w (popN 16 (sN u)) 15 1 j (wo u c) (0, bs, td)).1)), .int (nI (popN 16 (sN u)))])), (a 10, .inl (cI, 15, .inl ((dfF h w (popN 16 (sN u)) 15 1 j (wo u c) (0, bs, td)).2.2))), (a 11, .inl (cI, 15, .inl ((dfF h w (popN 16 (sN u)) 15 1 j (wo u c) (0, bs, td)).2.1)))] := hD.sub [0, 4, 5, 6, 7, 1, 2, 3] (by decide) rfl
  refine lv_aload_n hx hb dX4_mostShorn_37 rfl (lv_at hl 0 rfl) ?_
  refine va_get (D := D) (ci := 4) (v := .ref (a 9)) (C := RX4) (T := TX4) (N := 6) hx hb hts hin4 hown hK.1 hP 0 rfl rfl 2 (by decide) (hts _ (List.mem_of_getElem? (i := 1) rfl)) (fun _ h9 => h9) rfl dX4_mostShorn_38 ?_
  refine va_getN (D := D) (ci := 2) (v := .int (nI ((dfF h w (popN 16 (sN u)) 15 1 j (wo u c) (0, bs, td)).1))) (C := RX2) (T := TX2) (N := 4) hx hb hts hin2 hown hK.1 hP 5 rfl rfl 2 (by decide) (va_Nw.use rfl (nw_X4_246 hK)) (fun _ h9 => h9) rfl dX4_mostShorn_41 ?_
  refine mi_ret (v := (nI ((dfF h w (popN 16 (sN u)) 15 1 j (wo u c) (0, bs, td)).1))) hx hb hr hlk hP hD hS dX4_mostShorn_44 ?_
  rw [msF_go h w bs td (eqj hv_c hj_c)]
  exact ⟨_, _, rfl, flF_go h w bs td (eqj hv_c hj_c), rfl⟩
theorem iwX4_fleece_X2 : ∀ x ∈ wsX20, x ∈ wsX4_fleece := by decide +kernel
theorem iwX4_fleece_X4 : ∀ x ∈ wsX40, x ∈ wsX4_fleece := by decide +kernel
set_option maxRecDepth 100000 in
set_option maxHeartbeats 4000000 in
/-- X4_fleece -/
theorem c_X4_fleece (l : Launch) (D : va_G) (cI cJ cO : ClassId) (a : Nat → Nat) (ft : Int32) (tr : Int32) (h : Nat) (w : Nat) (pc : Int32) (br : Int32) (kd : Nat → Int32) (et : Nat → Int32) (nb : Nat → Int32) (td : Nat → Int32) (bs : Nat → Int32) (mo : Int32) (go : Int32) (ws : Int32) (c : Int32) (v : Int32) (hn : h * w ≤ 16) (hnb : nbOk h w nb (h * w)) : MG l yX4_fleece wsX4_fleece 19 499 0 0 D [(cI, .int), (cJ, .long), (cO, .object "ShornHill$Sheet")] [.ref (a 0), .int ws, .int c, .int v] [(a 0, .inr (4, [.ref (a 1), .ref (a 5), .ref (a 9), .ref (a 12), .int ft, .int tr])), (a 1, .inr (0, [.int (nI h), .int (nI w), .int pc, .int br, .ref (a 2), .ref (a 3), .ref (a 4)])), (a 2, .inl (cI, 16, .inl kd)), (a 3, .inl (cI, 16, .inl et)), (a 4, .inl (cI, 64, .inl nb)), (a 9, .inr (2, [.ref (a 10), .ref (a 11), .int mo, .int go])), (a 10, .inl (cI, 15, .inl td)), (a 11, .inl (cI, 15, .inl bs))] (QI D (fun (r : Int32) (w1 : va_W) => ∃ (td2 : Nat → Int32) (bs2 : Nat → Int32) (mo2 : Int32) (go2 : Int32), r = (fleR (h * w) pc br kd et h w ws c v) ∧ w1 = [(a 0, .inr (4, [.ref (a 1), .ref (a 5), .ref (a 9), .ref (a 12), .int ft, .int tr])), (a 1, .inr (0, [.int (nI h), .int (nI w), .int pc, .int br, .ref (a 2), .ref (a 3), .ref (a 4)])), (a 2, .inl (cI, 16, .inl kd)), (a 3, .inl (cI, 16, .inl et)), (a 4, .inl (cI, 64, .inl nb)), (a 9, .inr (2, [.ref (a 10), .ref (a 11), .int mo2, .int go2])), (a 10, .inl (cI, 15, .inl td2)), (a 11, .inl (cI, 15, .inl bs2))])) := by
  refine MG.of (cc := cX4_fleece) (maxL := 5) (ret := (some .int)) (by decide) rfl (Nat.le_of_ble_eq_true rfl) ?_
  intro P_ E_ S_ M_ B_ T_ K_ hx hb hml hr hts hown hlk hnm A hA hP hK hD hS ls hl
  have hl : lv_has ls 5 [(0, .ref (a 0)), (1, .int ws), (2, .int c), (3, .int v)] := hl
  have hin2 : ∀ x ∈ u_ws RX2 TX2 4, x ∈ wsX4_fleece := iwX4_fleece_X2
  have hin4 : ∀ x ∈ u_ws RX4 TX4 6, x ∈ wsX4_fleece := iwX4_fleece_X4
  refine lv_aload_n hx hb dX4_fleece_0 rfl (lv_at hl 0 rfl) ?_
  refine va_get (D := D) (ci := 4) (v := .ref (a 1)) (C := RX4) (T := TX4) (N := 6) hx hb hts hin4 hown hK.1 hP 0 rfl rfl 0 (by decide) (hts _ (List.mem_of_getElem? (i := 1) rfl)) (fun _ h9 => h9) rfl dX4_fleece_1 ?_
  refine lv_iload_n hx hb dX4_fleece_4 rfl (lv_at hl 2 rfl) ?_
  refine k_ri (run_RN (As := [.int c]) (rest := []) ⟨hx, hb, hml, hown, hts⟩ (c_X0_has l D cI cJ cO a h w pc br kd et nb c hn) ⟨va_cnB 1 hts ggX4_fleece_X0_has rfl rfl rfl (nw_X4_88 hK) (hts _ (List.mem_of_getElem? (i := 4) rfl)) (by decide +kernel) ⟨Nat.le_of_ble_eq_true rfl, Nat.le_of_ble_eq_true rfl⟩, (hts _ (List.mem_of_getElem? (i := 3) rfl)), (hts _ (List.mem_of_getElem? (i := 5) rfl))⟩ hP hK [1, 2, 3, 4] rfl rfl rfl rfl rfl hl.1 rfl (Nat.le_of_ble_eq_true rfl) dX4_fleece_5 ⟨Nat.le_refl _, Nat.le_refl _⟩) (fun r_1 q_2 => ?_)
  obtain rfl := q_2
  refine lv_if_ne (tgt := 13) hx hb dX4_fleece_8 (by decide) (fun c_3 => ?_) (fun c_3 => ?_)
  · have c_3 := b2_t c_3
    refine lv_iload_n hx hb dX4_fleece_13 rfl (lv_at hl 1 rfl) ?_
    refine k_ri (run_RS (As := [.int ws]) (rest := []) ⟨hx, hb, hml, hown, hts⟩ (c_X4_isWeeks l D cI cJ cO ws) (va_cwS 1 hts gX4_fleece_X4_isWeeks rfl rfl rfl (by decide +kernel) ⟨Nat.le_of_ble_eq_true rfl, Nat.le_of_ble_eq_true rfl⟩) hP hK [] rfl rfl hl.1 rfl (Nat.le_of_ble_eq_true rfl) dX4_fleece_14 ⟨Nat.le_refl _, Nat.le_refl _⟩) (fun r_4 q_5 => ?_)
    obtain rfl := q_5
    refine lv_if_eq (tgt := 31) hx hb dX4_fleece_17 (by decide) (fun c_6 => ?_) (fun c_6 => ?_)
    · have c_6 := b2_f c_6
      refine lv_bipush (v := (-2)) hx hb dX4_fleece_31 (by decide) ?_
      refine mi_ret (v := (-2)) hx hb hr hlk hP hD hS dX4_fleece_33 ?_
      refine ⟨td, bs, mo, go, ?_, rfl⟩
      rw [fleR, if_pos c_3, if_neg (fun z => c_6 z.1)]
    · have c_6 := b2_t c_6
      refine lv_iload_n hx hb dX4_fleece_20 rfl (lv_at hl 3 rfl) ?_
      refine lv_iconst (v := (-1)) hx hb dX4_fleece_21 (by decide) ?_
      refine lv_icmp_lt (tgt := 31) hx hb dX4_fleece_22 (by decide) (fun c_7 => ?_) (fun c_7 => ?_)
      · have cb : ¬ btw v (-1) 14 := by simp only [inN, softP, btw, inS, ripP, Int32.lt_iff_toInt_lt, Int32.le_iff_toInt_le, ← Int32.toInt_inj, ti_0, ti_1, ti_2, ti_3, ti_4, ti_8, ti_9, ti_10, ti_14, ti_15, ti_20, ti_60, ti_m1] at c_7 ⊢; omega
        refine lv_bipush (v := (-2)) hx hb dX4_fleece_31 (by decide) ?_
        refine mi_ret (v := (-2)) hx hb hr hlk hP hD hS dX4_fleece_33 ?_
        refine ⟨td, bs, mo, go, ?_, rfl⟩
        rw [fleR, if_pos c_3, if_neg (fun z => cb z.2)]
      · refine lv_iload_n hx hb dX4_fleece_25 rfl (lv_at hl 3 rfl) ?_
        refine lv_bipush (v := 15) hx hb dX4_fleece_26 (by decide) ?_
        refine lv_icmp_lt (tgt := 34) hx hb dX4_fleece_28 (by decide) (fun c_8 => ?_) (fun c_8 => ?_)
        · have cb : btw v (-1) 14 := by simp only [inN, softP, btw, inS, ripP, Int32.lt_iff_toInt_lt, Int32.le_iff_toInt_le, ← Int32.toInt_inj, ti_0, ti_1, ti_2, ti_3, ti_4, ti_8, ti_9, ti_10, ti_14, ti_15, ti_20, ti_60, ti_m1] at c_7 c_8 ⊢; omega
          refine lv_aload_n hx hb dX4_fleece_34 rfl (lv_at hl 0 rfl) ?_
          refine va_get (D := D) (ci := 4) (v := .ref (a 1)) (C := RX4) (T := TX4) (N := 6) hx hb hts hin4 hown hK.1 hP 0 rfl rfl 0 (by decide) (hts _ (List.mem_of_getElem? (i := 1) rfl)) (fun _ h9 => h9) rfl dX4_fleece_35 ?_
          refine lv_iload_n hx hb dX4_fleece_38 rfl (lv_at hl 2 rfl) ?_
          refine lv_iload_n hx hb dX4_fleece_39 rfl (lv_at hl 1 rfl) ?_
          refine k_ri (run_RN (As := [.int c, .int ws]) (rest := []) ⟨hx, hb, hml, hown, hts⟩ (c_X0_isRipe l D cI cJ cO a h w pc br kd et nb c ws c.toNatClampNeg (inN.vp c_3 (by omega)) rfl) ⟨va_cnB 2 hts ggX4_fleece_X0_isRipe rfl rfl rfl (nw_X4_126 hK) (hts _ (List.mem_of_getElem? (i := 4) rfl)) (by decide +kernel) ⟨Nat.le_of_ble_eq_true rfl, Nat.le_of_ble_eq_true rfl⟩, (hts _ (List.mem_of_getElem? (i := 17) rfl)), (hts _ (List.mem_of_getElem? (i := 18) rfl))⟩ hP hK [1, 2, 3, 4] rfl rfl rfl rfl rfl hl.1 rfl (Nat.le_of_ble_eq_true rfl) dX4_fleece_40 ⟨Nat.le_refl _, Nat.le_refl _⟩) (fun r_9 q_10 => ?_)
          obtain rfl := q_10
          refine lv_if_ne (tgt := 49) hx hb dX4_fleece_43 (by decide) (fun c_11 => ?_) (fun c_11 => ?_)
          · have c_11 := b2_t c_11
            refine lv_aload_n hx hb dX4_fleece_49 rfl (lv_at hl 0 rfl) ?_
            refine lv_iload_n hx hb dX4_fleece_50 rfl (lv_at hl 2 rfl) ?_
            refine lv_aload_n hx hb dX4_fleece_51 rfl (lv_at hl 0 rfl) ?_
            refine va_get (D := D) (ci := 4) (v := .ref (a 1)) (C := RX4) (T := TX4) (N := 6) hx hb hts hin4 hown hK.1 hP 0 rfl rfl 0 (by decide) (hts _ (List.mem_of_getElem? (i := 1) rfl)) (fun _ h9 => h9) rfl dX4_fleece_52 ?_
            refine lv_iload_n hx hb dX4_fleece_55 rfl (lv_at hl 1 rfl) ?_
            refine k_ri (run_RN (As := [.int ws]) (rest := [.int c, .ref (a 0)]) ⟨hx, hb, hml, hown, hts⟩ (c_X0_ripeCells l D cI cJ cO a h w pc br kd et nb ws hn) ⟨va_cnB 1 hts ggX4_fleece_X0_ripeCells rfl rfl rfl (nw_X4_123 hK) (hts _ (List.mem_of_getElem? (i := 4) rfl)) (by decide +kernel) ⟨Nat.le_of_ble_eq_true rfl, Nat.le_of_ble_eq_true rfl⟩, (hts _ (List.mem_of_getElem? (i := 39) rfl)), (hts _ (List.mem_of_getElem? (i := 40) rfl))⟩ hP hK [1, 2, 3, 4] rfl rfl rfl rfl rfl hl.1 rfl (Nat.le_of_ble_eq_true rfl) dX4_fleece_56 ⟨Nat.le_refl _, Nat.le_refl _⟩) (fun r_12 q_13 => ?_)
            obtain rfl := q_13
            refine k_mi (wr := []) [0, 1, 2, 3, 4, 5, 6, 7] [] (run_MV (As := [.int c, .int (ripS pc br kd et ws (h * w))]) (rest := []) ⟨hx, hb, hml, hown, hts⟩ (c_X4_mostShorn l D cI cJ cO a ft tr h w pc br kd et nb td bs mo go c (ripS pc br kd et ws (h * w)) c.toNatClampNeg hn hnb (sm_rip _ _ _ _ _ _ hn) (c_3.lt) (inN.vp c_3 (by omega)) rfl) (cwV 2 hts gX4_fleece_X4_mostShorn rfl rfl rfl (by decide +kernel) ⟨Nat.le_of_ble_eq_true rfl, Nat.le_of_ble_eq_true rfl⟩) hP hK hD [0, 1, 2, 3, 4, 5, 6, 7] (by decide) rfl rfl rfl rfl rfl hl.1 rfl (Nat.le_of_ble_eq_true rfl) dX4_fleece_59 ⟨Nat.le_refl _, Nat.le_refl _⟩) hP hD hS hA rfl rfl (by decide) (by decide) (fun r_14 w_16 H locs q_15 hP hD hS => ?_)
            obtain ⟨td2_17, bs2_18, rfl, hbs, rfl⟩ := q_15
            have hP : va_P D vwCl [(a 0, .inr (4, [.ref (a 1), .ref (a 5), .ref (a 9), .ref (a 12), .int ft, .int tr])), (a 1, .inr (0, [.int (nI h), .int (nI w), .int pc, .int br, .ref (a 2), .ref (a 3), .ref (a 4)])), (a 2, .inl (cI, 16, .inl kd)), (a 3, .inl (cI, 16, .inl et)), (a 4, .inl (cI, 64, .inl nb)), (a 9, .inr (2, [.ref (a 10), .ref (a 11), .int (nI (msF h w c.toNatClampNeg (ripS pc br kd et ws (h * w)))), .int (nI (popN 16 (sN (ripS pc br kd et ws (h * w)))))])), (a 10, .inl (cI, 15, .inl td2_17)), (a 11, .inl (cI, 15, .inl bs2_18))] H := hP.sub [0, 1, 2, 3, 4, 5, 6, 7] rfl
            have hD : va_D A [(a 0, .inr (4, [.ref (a 1), .ref (a 5), .ref (a 9), .ref (a 12), .int ft, .int tr])), (a 1, .inr (0, [.int (nI h), .int (nI w), .int pc, .int br, .ref (a 2), .ref (a 3), .ref (a 4)])), (a 2, .inl (cI, 16, .inl kd)), (a 3, .inl (cI, 16, .inl et)), (a 4, .inl (cI, 64, .inl nb)), (a 9, .inr (2, [.ref (a 10), .ref (a 11), .int (nI (msF h w c.toNatClampNeg (ripS pc br kd et ws (h * w)))), .int (nI (popN 16 (sN (ripS pc br kd et ws (h * w)))))])), (a 10, .inl (cI, 15, .inl td2_17)), (a 11, .inl (cI, 15, .inl bs2_18))] := hD.sub [0, 1, 2, 3, 4, 5, 6, 7] (by decide) rfl
            refine lv_istore (lv' := [(4, .int (nI (msF h w c.toNatClampNeg (ripS pc br kd et ws (h * w))))), (0, .ref (a 0)), (1, .int ws), (2, .int c), (3, .int v)]) hx hb dX4_fleece_62 hl (by decide) rfl (fun ls hl => ?_)
            refine lv_iload_n hx hb dX4_fleece_64 rfl (lv_at hl 4 rfl) ?_
            refine lv_iconst (v := (-1)) hx hb dX4_fleece_65 (by decide) ?_
            refine lv_icmp_ne (tgt := 72) hx hb dX4_fleece_66 (by decide) (fun c_19 => ?_) (fun c_19 => ?_)
            · have hv0 : 0 ≤ v.toInt := by have e : ¬ v.toInt = -1 := fun z => c_19 (Int32.toInt_inj.mp z); have := cb.1; omega
              refine lv_iload_n hx hb dX4_fleece_72 rfl (lv_at hl 4 rfl) ?_
              refine lv_iload hx hb dX4_fleece_73 (lv_at hl 0 rfl) ?_
              refine lv_iconst (v := 1) hx hb dX4_fleece_75 (by decide) ?_
              refine lv_isub hx hb dX4_fleece_76 ?_
              refine lv_icmp_ge (tgt := 92) hx hb dX4_fleece_77 (by decide) (fun c_20 => ?_) (fun c_20 => ?_)
              · have hm0 := msF_le h w c.toNatClampNeg (ripS pc br kd et ws (h * w))
                have hme : (nI (msF h w c.toNatClampNeg (ripS pc br kd et ws (h * w))) - 1).toInt = (msF h w c.toNatClampNeg (ripS pc br kd et ws (h * w)) : Int) - 1 := subT (by decide) (by rw [ti_1]; have := msF_pos h w c.toNatClampNeg (ripS pc br kd et ws (h * w)); omega) (by omega)
                have ck : ¬ v.toInt + 1 < msF h w c.toNatClampNeg (ripS pc br kd et ws (h * w)) := by rw [Int32.le_iff_toInt_le, hme] at c_20; omega
                refine lv_bipush (v := (-9)) hx hb dX4_fleece_92 (by decide) ?_
                refine mi_ret (v := (-9)) hx hb hr hlk hP hD hS dX4_fleece_94 ?_
                refine ⟨td2_17, bs2_18, (nI (msF h w c.toNatClampNeg (ripS pc br kd et ws (h * w)))), (nI (popN 16 (sN (ripS pc br kd et ws (h * w))))), ?_, rfl⟩
                rw [fleR, if_pos c_3, if_pos ⟨c_6, cb⟩, if_pos c_11, if_neg c_19, if_neg ck]
              · have hm0 := msF_le h w c.toNatClampNeg (ripS pc br kd et ws (h * w))
                have hme : (nI (msF h w c.toNatClampNeg (ripS pc br kd et ws (h * w))) - 1).toInt = (msF h w c.toNatClampNeg (ripS pc br kd et ws (h * w)) : Int) - 1 := subT (by decide) (by rw [ti_1]; have := msF_pos h w c.toNatClampNeg (ripS pc br kd et ws (h * w)); omega) (by omega)
                have ck : v.toInt + 1 < msF h w c.toNatClampNeg (ripS pc br kd et ws (h * w)) := by rw [Int32.le_iff_toInt_le, hme] at c_20; omega
                refine lv_aload_n hx hb dX4_fleece_80 rfl (lv_at hl 1 rfl) ?_
                refine va_get (D := D) (ci := 4) (v := .ref (a 9)) (C := RX4) (T := TX4) (N := 6) hx hb hts hin4 hown hK.1 hP 0 rfl rfl 2 (by decide) (hts _ (List.mem_of_getElem? (i := 2) rfl)) (fun _ h9 => h9) rfl dX4_fleece_81 ?_
                refine va_getN (D := D) (ci := 2) (v := .ref (a 11)) (C := RX2) (T := TX2) (N := 4) hx hb hts hin2 hown hK.1 hP 5 rfl rfl 1 (by decide) (va_Nw.use rfl (nw_X4_140 hK)) (fun _ h9 => h9) rfl dX4_fleece_84 ?_
                refine lv_iload_n hx hb dX4_fleece_87 rfl (lv_at hl 4 rfl) ?_
                refine k_iald hx hb hK hP 7 0 rfl rfl (j := v.toNatClampNeg) (vp_in_iff.mpr ⟨hv0, by have := msF_le h w c.toNatClampNeg (ripS pc br kd et ws (h * w)); omega⟩) rfl dX4_fleece_88 ?_
                refine lv_goto (tgt := 94) hx hb dX4_fleece_89 (by decide) ?_
                refine mi_ret (v := (bs2_18 v.toNatClampNeg)) hx hb hr hlk hP hD hS dX4_fleece_94 ?_
                refine ⟨td2_17, bs2_18, (nI (msF h w c.toNatClampNeg (ripS pc br kd et ws (h * w)))), (nI (popN 16 (sN (ripS pc br kd et ws (h * w))))), ?_, rfl⟩
                rw [fleR, if_pos c_3, if_pos ⟨c_6, cb⟩, if_pos c_11, if_neg c_19, if_pos ck]
                exact hbs _ (by show v.toInt.toNat + 1 < _; omega)
            · refine lv_iload hx hb dX4_fleece_69 (lv_at hl 0 rfl) ?_
              refine mi_ret (v := (nI (msF h w c.toNatClampNeg (ripS pc br kd et ws (h * w))))) hx hb hr hlk hP hD hS dX4_fleece_71 ?_
              refine ⟨td2_17, bs2_18, (nI (msF h w c.toNatClampNeg (ripS pc br kd et ws (h * w)))), (nI (popN 16 (sN (ripS pc br kd et ws (h * w))))), ?_, rfl⟩
              rw [fleR, if_pos c_3, if_pos ⟨c_6, cb⟩, if_pos c_11, if_pos c_19]
          · have c_11 := b2_f c_11
            refine lv_bipush (v := (-3)) hx hb dX4_fleece_46 (by decide) ?_
            refine mi_ret (v := (-3)) hx hb hr hlk hP hD hS dX4_fleece_48 ?_
            refine ⟨td, bs, mo, go, ?_, rfl⟩
            rw [fleR, if_pos c_3, if_pos ⟨c_6, cb⟩, if_neg c_11]
        · have cb : ¬ btw v (-1) 14 := by simp only [inN, softP, btw, inS, ripP, Int32.lt_iff_toInt_lt, Int32.le_iff_toInt_le, ← Int32.toInt_inj, ti_0, ti_1, ti_2, ti_3, ti_4, ti_8, ti_9, ti_10, ti_14, ti_15, ti_20, ti_60, ti_m1] at c_7 c_8 ⊢; omega
          refine lv_bipush (v := (-2)) hx hb dX4_fleece_31 (by decide) ?_
          refine mi_ret (v := (-2)) hx hb hr hlk hP hD hS dX4_fleece_33 ?_
          refine ⟨td, bs, mo, go, ?_, rfl⟩
          rw [fleR, if_pos c_3, if_neg (fun z => cb z.2)]
  · have c_3 := b2_f c_3
    refine lv_iconst (v := (-1)) hx hb dX4_fleece_11 (by decide) ?_
    refine mi_ret (v := (-1)) hx hb hr hlk hP hD hS dX4_fleece_12 ?_
    refine ⟨td, bs, mo, go, ?_, rfl⟩
    rw [fleR, if_neg c_3]
