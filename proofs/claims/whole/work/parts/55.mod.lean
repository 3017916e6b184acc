theorem iwX5_isWholeFrom_X5 : ∀ x ∈ wsX50, x ∈ wsX5_isWholeFrom := by decide +kernel
set_option maxRecDepth 100000 in
set_option maxHeartbeats 4000000 in
/-- X5_isWholeFrom -/
theorem c_X5_isWholeFrom (l : Launch) (D : va_G) (cI cJ cO : ClassId) (b : Nat → Nat) (fa : Int32) (h : Nat) (w : Nat) (pc : Int32) (br : Int32) (ra : Int32) (q1 : Int32) (q2 : Int32) (q3 : Int32) (q4 : Int32) (fw : Int32) (ea : Int32) (sn : Int32) (mo : Int32) (rc : Nat) (tr : Int32) (kd : Nat → Int32) (et : Nat → Int32) (pl : Nat → Int32) (nx : Nat → Int32) (rb : Nat → Int32) (ws : Int32) (j : Nat) (hn : h * w ≤ 16) (hkd : ∀ k, k < 16 → kdOk (kd k)) (het : ∀ k, k < 16 → etOk (et k)) (hbr : 0 < h * w → 1 ≤ br.toInt) (hjn : j < h * w) : MG l yX5_isWholeFrom wsX5_isWholeFrom 3 77 0 0 D [(cI, .int), (cJ, .long), (cO, .object "ShornHill$Sheet")] [.ref (b 0), .int ws, .int (nI j)] [(b 0, .inr (5, [.int fa, .int (nI h), .int (nI w), .int pc, .int br, .ref (b 1), .ref (b 2), .int ra, .int q1, .int q2, .int q3, .int q4, .ref (b 3), .int fw, .int ea, .int sn, .ref (b 4), .ref (b 5), .ref (b 6), .int mo, .int (nI rc), .ref (b 7), .ref (b 8), .ref (b 9), .ref (b 10), .ref (b 11), .ref (b 12), .ref (b 13), .ref (b 14), .int tr])), (b 1, .inl (cI, 16, .inl kd)), (b 2, .inl (cI, 16, .inl et)), (b 4, .inl (cI, 17, .inl pl)), (b 5, .inl (cI, 17, .inl nx)), (b 6, .inl (cI, 16, .inl rb))] (QI D (fun (r : Int32) (w1 : va_W) => ∃ (mo2 : Int32) (pl3 : Nat → Int32) (nx3 : Nat → Int32) (rb3 : Nat → Int32), r = (b2 (iwP h w (h * w) pc br kd et ws j)) ∧ w1 = [(b 0, .inr (5, [.int fa, .int (nI h), .int (nI w), .int pc, .int br, .ref (b 1), .ref (b 2), .int ra, .int q1, .int q2, .int q3, .int q4, .ref (b 3), .int fw, .int ea, .int sn, .ref (b 4), .ref (b 5), .ref (b 6), .int mo2, .int (nI rc), .ref (b 7), .ref (b 8), .ref (b 9), .ref (b 10), .ref (b 11), .ref (b 12), .ref (b 13), .ref (b 14), .int tr])), (b 1, .inl (cI, 16, .inl kd)), (b 2, .inl (cI, 16, .inl et)), (b 4, .inl (cI, 17, .inl pl3)), (b 5, .inl (cI, 17, .inl nx3)), (b 6, .inl (cI, 16, .inl rb3))])) := by
  refine MG.of (cc := cX5_isWholeFrom) (maxL := 4) (ret := (some .boolean)) (by decide) rfl (Nat.le_of_ble_eq_true rfl) ?_
  intro P_ E_ S_ M_ B_ T_ K_ hx hb hml hr hts hown hlk hnm A hA hP hK hD hS ls hl
  have hl : lv_has ls 4 [(0, .ref (b 0)), (1, .int ws), (2, .int (nI j))] := hl
  have hin5 : ∀ x ∈ u_ws RX5 TX5 30, x ∈ wsX5_isWholeFrom := iwX5_isWholeFrom_X5
  have hG16 := popN_le 16 (sN (ripS pc br kd et ws (h * w)))
  have hM16 := msF_le h w j (ripS pc br kd et ws (h * w))
  have hth := th_le kd hn
  refine lv_aload_n hx hb dX5_isWholeFrom_0 rfl (lv_at hl 0 rfl) ?_
  refine lv_iload_n hx hb dX5_isWholeFrom_1 rfl (lv_at hl 1 rfl) ?_
  refine k_ri (run_RV (As := [.int ws]) (rest := []) ⟨hx, hb, hml, hown, hts⟩ (c_X5_ripeBy l D cI cJ cO b fa h w pc br ra q1 q2 q3 q4 fw ea sn mo rc tr kd et ws hn hkd het hbr) (cwV 1 hts gX5_isWholeFrom_X5_ripeBy rfl rfl rfl (by decide +kernel) ⟨Nat.le_of_ble_eq_true rfl, Nat.le_of_ble_eq_true rfl⟩) hP hK [0, 1, 2] rfl rfl rfl rfl rfl hl.1 rfl (Nat.le_of_ble_eq_true rfl) dX5_isWholeFrom_2 ⟨Nat.le_refl _, Nat.le_refl _⟩) (fun r_1 q_2 => ?_)
  obtain rfl := q_2
  refine lv_istore_n (lv' := [(3, .int (ripS pc br kd et ws (h * w))), (0, .ref (b 0)), (1, .int ws), (2, .int (nI j))]) hx hb dX5_isWholeFrom_5 rfl hl (by decide) rfl (fun ls hl => ?_)
  refine lv_iload_n hx hb dX5_isWholeFrom_6 rfl (lv_at hl 0 rfl) ?_
  refine lv_iload_n hx hb dX5_isWholeFrom_7 rfl (lv_at hl 3 rfl) ?_
  refine k_ri (run_RS (As := [.int (ripS pc br kd et ws (h * w)), .int (nI j)]) (rest := []) ⟨hx, hb, hml, hown, hts⟩ (c_X5_isIn l D cI cJ cO (ripS pc br kd et ws (h * w)) (nI j) (nI_inN (by omega) (by decide))) (va_cwS 2 hts gX5_isWholeFrom_X5_isIn rfl rfl rfl (by decide +kernel) ⟨Nat.le_of_ble_eq_true rfl, Nat.le_of_ble_eq_true rfl⟩) hP hK [] rfl rfl hl.1 rfl (Nat.le_of_ble_eq_true rfl) dX5_isWholeFrom_8 ⟨Nat.le_refl _, Nat.le_refl _⟩) (fun r_3 q_4 => ?_)
  obtain rfl := q_4
  refine lv_if_eq (tgt := 30) hx hb dX5_isWholeFrom_11 (by decide) (fun c_5 => ?_) (fun c_5 => ?_)
  · have c_5 := b2_f c_5
    refine lv_iconst (v := 0) hx hb dX5_isWholeFrom_30 (by decide) ?_
    refine mz_ret (v := 0) hx hb hr hlk hP hD hS dX5_isWholeFrom_31 (by decide) ?_
    refine ⟨mo, pl, nx, rb, ?_, rfl⟩
    exact b2_0 (fun z => c_5 z.1)
  · have c_5 := b2_t c_5
    refine lv_iload_n hx hb dX5_isWholeFrom_14 rfl (lv_at hl 0 rfl) ?_
    refine k_ri (run_RS (As := [.int (ripS pc br kd et ws (h * w))]) (rest := []) ⟨hx, hb, hml, hown, hts⟩ (c_X5_bits l D cI cJ cO (ripS pc br kd et ws (h * w)) (sm_rip _ _ _ _ _ _ hn)) (va_cwS 1 hts gX5_isWholeFrom_X5_bits rfl rfl rfl (by decide +kernel) ⟨Nat.le_of_ble_eq_true rfl, Nat.le_of_ble_eq_true rfl⟩) hP hK [] rfl rfl hl.1 rfl (Nat.le_of_ble_eq_true rfl) dX5_isWholeFrom_15 ⟨Nat.le_refl _, Nat.le_refl _⟩) (fun r_6 q_7 => ?_)
    obtain rfl := q_7
    refine lv_aload_n hx hb dX5_isWholeFrom_18 rfl (lv_at hl 1 rfl) ?_
    refine k_ri (run_RV (As := []) (rest := [.int (nI (popN 16 (sN (ripS pc br kd et ws (h * w)))))]) ⟨hx, hb, hml, hown, hts⟩ (c_X5_cells l D cI cJ cO b fa h w pc br ra q1 q2 q3 q4 fw ea sn mo rc tr) (cwV 0 hts gX5_isWholeFrom_X5_cells rfl rfl rfl (by decide +kernel) ⟨Nat.le_of_ble_eq_true rfl, Nat.le_of_ble_eq_true rfl⟩) hP hK [0] rfl rfl rfl rfl rfl hl.1 rfl (Nat.le_of_ble_eq_true rfl) dX5_isWholeFrom_19 ⟨Nat.le_refl _, Nat.le_refl _⟩) (fun r_8 q_9 => ?_)
    obtain rfl := q_9
    refine lv_aload_n hx hb dX5_isWholeFrom_22 rfl (lv_at hl 1 rfl) ?_
    refine k_ri (run_RV (As := []) (rest := [.int (nI (h * w)), .int (nI (popN 16 (sN (ripS pc br kd et ws (h * w)))))]) ⟨hx, hb, hml, hown, hts⟩ (c_X5_thornsNow l D cI cJ cO b fa h w pc br ra q1 q2 q3 q4 fw ea sn mo rc tr kd hn) (cwV 0 hts gX5_isWholeFrom_X5_thornsNow rfl rfl rfl (by decide +kernel) ⟨Nat.le_of_ble_eq_true rfl, Nat.le_of_ble_eq_true rfl⟩) hP hK [0, 1] rfl rfl rfl rfl rfl hl.1 rfl (Nat.le_of_ble_eq_true rfl) dX5_isWholeFrom_23 ⟨Nat.le_refl _, Nat.le_refl _⟩) (fun r_10 q_11 => ?_)
    obtain rfl := q_11
    refine lv_isub hx hb dX5_isWholeFrom_26 ?_
    refine k_top (y := (nI (h * w - thN kd (h * w)))) (pk_sub hth) ?_
    refine lv_icmp_ge (tgt := 32) hx hb dX5_isWholeFrom_27 (by decide) (fun c_12 => ?_) (fun c_12 => ?_)
    · have c_12 : h * w - thN kd (h * w) ≤ popN 16 (sN (ripS pc br kd et ws (h * w))) := (nI_leI (a := h * w - thN kd (h * w)) (b := popN 16 (sN (ripS pc br kd et ws (h * w)))) (by omega) (by omega)).mp c_12
      refine lv_aload_n hx hb dX5_isWholeFrom_32 rfl (lv_at hl 1 rfl) ?_
      refine lv_iload_n hx hb dX5_isWholeFrom_33 rfl (lv_at hl 0 rfl) ?_
      refine lv_iload_n hx hb dX5_isWholeFrom_34 rfl (lv_at hl 3 rfl) ?_
      refine k_mv (wr := [(b 1, .inl (cI, 16, .inl kd)), (b 2, .inl (cI, 16, .inl et))]) [0, 3, 4, 5] [1, 2] (run_MV (As := [.int (ripS pc br kd et ws (h * w)), .int (nI j)]) (rest := []) ⟨hx, hb, hml, hown, hts⟩ (c_X5_goFleece l D cI cJ cO b fa h w pc br ra q1 q2 q3 q4 fw ea sn mo rc tr pl nx rb (ripS pc br kd et ws (h * w)) j hn (sm_rip _ _ _ _ _ _ hn) hjn (by assumption)) (cwV 2 hts gX5_isWholeFrom_X5_goFleece rfl rfl rfl (by decide +kernel) ⟨Nat.le_of_ble_eq_true rfl, Nat.le_of_ble_eq_true rfl⟩) hP hK hD [0, 3, 4, 5] (by decide) rfl rfl rfl rfl rfl hl.1 rfl (Nat.le_of_ble_eq_true rfl) dX5_isWholeFrom_35 ⟨Nat.le_refl _, Nat.le_refl _⟩) hP hD hS hA rfl rfl (by decide) (by decide) (fun w_15 H locs q_14 hP hD hS => ?_)
      obtain ⟨pl3_16, nx3_17, rb3_18, hbs_19, rfl⟩ := q_14
      have hP : va_P D vwCl [(b 0, .inr (5, [.int fa, .int (nI h), .int (nI w), .int pc, .int br, .ref (b 1), .ref (b 2), .int ra, .int q1, .int q2, .int q3, .int q4, .ref (b 3), .int fw, .int ea, .int sn, .ref (b 4), .ref (b 5), .ref (b 6), .int (nI (msF h w j (ripS pc br kd et ws (h * w)))), .int (nI rc), .ref (b 7), .ref (b 8), .ref (b 9), .ref (b 10), .ref (b 11), .ref (b 12), .ref (b 13), .ref (b 14), .int tr])), (b 1, .inl (cI, 16, .inl kd)), (b 2, .inl (cI, 16, .inl et)), (b 4, .inl (cI, 17, .inl pl3_16)), (b 5, .inl (cI, 17, .inl nx3_17)), (b 6, .inl (cI, 16, .inl rb3_18))] H := hP.sub [2, 0, 1, 3, 4, 5] rfl
      have hD : va_D A [(b 0, .inr (5, [.int fa, .int (nI h), .int (nI w), .int pc, .int br, .ref (b 1), .ref (b 2), .int ra, .int q1, .int q2, .int q3, .int q4, .ref (b 3), .int fw, .int ea, .int sn, .ref (b 4), .ref (b 5), .ref (b 6), .int (nI (msF h w j (ripS pc br kd et ws (h * w)))), .int (nI rc), .ref (b 7), .ref (b 8), .ref (b 9), .ref (b 10), .ref (b 11), .ref (b 12), .ref (b 13), .ref (b 14), .int tr])), (b 1, .inl (cI, 16, .inl kd)), (b 2, .inl (cI, 16, .inl et)), (b 4, .inl (cI, 17, .inl pl3_16)), (b 5, .inl (cI, 17, .inl nx3_17)), (b 6, .inl (cI, 16, .inl rb3_18))] := hD.sub [2, 0, 1, 3, 4, 5] (by decide) rfl
      refine lv_aload_n hx hb dX5_isWholeFrom_38 rfl (lv_at hl 1 rfl) ?_
      refine va_get (D := D) (ci := 5) (v := .int (nI (msF h w j (ripS pc br kd et ws (h * w))))) (C := RX5) (T := TX5) (N := 30) hx hb hts hin5 hown hK.1 hP 0 rfl rfl 19 (by decide) (hts _ (List.mem_of_getElem? (i := 1) rfl)) (fun _ h9 => h9) rfl dX5_isWholeFrom_39 ?_
      refine lv_iload_n hx hb dX5_isWholeFrom_42 rfl (lv_at hl 0 rfl) ?_
      refine k_ri (run_RS (As := [.int (ripS pc br kd et ws (h * w))]) (rest := [.int (nI (msF h w j (ripS pc br kd et ws (h * w))))]) ⟨hx, hb, hml, hown, hts⟩ (c_X5_bits l D cI cJ cO (ripS pc br kd et ws (h * w)) (sm_rip _ _ _ _ _ _ hn)) (va_cwS 1 hts gX5_isWholeFrom_X5_bits rfl rfl rfl (by decide +kernel) ⟨Nat.le_of_ble_eq_true rfl, Nat.le_of_ble_eq_true rfl⟩) hP hK [] rfl rfl hl.1 rfl (Nat.le_of_ble_eq_true rfl) dX5_isWholeFrom_43 ⟨Nat.le_refl _, Nat.le_refl _⟩) (fun r_20 q_21 => ?_)
      obtain rfl := q_21
      refine lv_icmp_ne (tgt := 53) hx hb dX5_isWholeFrom_46 (by decide) (fun c_22 => ?_) (fun c_22 => ?_)
      · have c_22 : ¬ msF h w j (ripS pc br kd et ws (h * w)) = popN 16 (sN (ripS pc br kd et ws (h * w))) := fun z => c_22 ((nI_eq (a := msF h w j (ripS pc br kd et ws (h * w))) (b := popN 16 (sN (ripS pc br kd et ws (h * w)))) (by omega) (by omega)).mpr z)
        refine lv_iconst (v := 0) hx hb dX5_isWholeFrom_53 (by decide) ?_
        refine mz_ret (v := 0) hx hb hr hlk hP hD hS dX5_isWholeFrom_54 (by decide) ?_
        have hrs : ripS pc br kd et ws (h * w) = sofS kd (h * w) := (rip_sof hn).mp (by omega)
        refine ⟨(nI (msF h w j (ripS pc br kd et ws (h * w)))), pl3_16, nx3_17, rb3_18, ?_, rfl⟩
        exact b2_0 (fun z => by have y := z.2.2; unfold allS at y; rw [← hrs] at y; exact absurd y (by assumption))
      · have c_22 : msF h w j (ripS pc br kd et ws (h * w)) = popN 16 (sN (ripS pc br kd et ws (h * w))) := (nI_eq (a := msF h w j (ripS pc br kd et ws (h * w))) (b := popN 16 (sN (ripS pc br kd et ws (h * w)))) (by omega) (by omega)).mp c_22
        refine lv_iconst (v := 1) hx hb dX5_isWholeFrom_49 (by decide) ?_
        refine lv_goto (tgt := 54) hx hb dX5_isWholeFrom_50 (by decide) ?_
        refine mz_ret (v := 1) hx hb hr hlk hP hD hS dX5_isWholeFrom_54 (by decide) ?_
        have hrs : ripS pc br kd et ws (h * w) = sofS kd (h * w) := (rip_sof hn).mp (by omega)
        refine ⟨(nI (msF h w j (ripS pc br kd et ws (h * w)))), pl3_16, nx3_17, rb3_18, ?_, rfl⟩
        exact b2_1 ⟨c_5, hrs, by unfold allS; rw [← hrs]; assumption⟩
    · have c_12 : popN 16 (sN (ripS pc br kd et ws (h * w))) < h * w - thN kd (h * w) := Nat.lt_of_not_le (fun z => c_12 ((nI_leI (a := h * w - thN kd (h * w)) (b := popN 16 (sN (ripS pc br kd et ws (h * w)))) (by omega) (by omega)).mpr z))
      refine lv_iconst (v := 0) hx hb dX5_isWholeFrom_30 (by decide) ?_
      refine mz_ret (v := 0) hx hb hr hlk hP hD hS dX5_isWholeFrom_31 (by decide) ?_
      refine ⟨mo, pl, nx, rb, ?_, rfl⟩
      exact b2_0 (fun z => absurd (rip_sof hn |>.mpr z.2.1) (fun y => y (by omega)))
set_option maxRecDepth 100000 in
set_option maxHeartbeats 4000000 in
/-- X5_isWhole -/
theorem c_X5_isWhole (l : Launch) (D : va_G) (cI cJ cO : ClassId) (b : Nat → Nat) (fa : Int32) (h : Nat) (w : Nat) (pc : Int32) (br : Int32) (ra : Int32) (q1 : Int32) (q2 : Int32) (q3 : Int32) (q4 : Int32) (fw : Int32) (ea : Int32) (sn : Int32) (mo : Int32) (rc : Nat) (tr : Int32) (kd : Nat → Int32) (et : Nat → Int32) (pl : Nat → Int32) (nx : Nat → Int32) (rb : Nat → Int32) (ws : Int32) (hn : h * w ≤ 16) (hkd : ∀ k, k < 16 → kdOk (kd k)) (het : ∀ k, k < 16 → etOk (et k)) (hbr : 0 < h * w → 1 ≤ br.toInt) : MG l yX5_isWhole wsX5_isWhole 4 100 0 0 D [(cI, .int), (cJ, .long), (cO, .object "ShornHill$Sheet")] [.ref (b 0), .int ws] [(b 0, .inr (5, [.int fa, .int (nI h), .int (nI w), .int pc, .int br, .ref (b 1), .ref (b 2), .int ra, .int q1, .int q2, .int q3, .int q4, .ref (b 3), .int fw, .int ea, .int sn, .ref (b 4), .ref (b 5), .ref (b 6), .int mo, .int (nI rc), .ref (b 7), .ref (b 8), .ref (b 9), .ref (b 10), .ref (b 11), .ref (b 12), .ref (b 13), .ref (b 14), .int tr])), (b 1, .inl (cI, 16, .inl kd)), (b 2, .inl (cI, 16, .inl et)), (b 4, .inl (cI, 17, .inl pl)), (b 5, .inl (cI, 17, .inl nx)), (b 6, .inl (cI, 16, .inl rb))] (QI D (fun (r : Int32) (w1 : va_W) => ∃ (mo2 : Int32) (pl3 : Nat → Int32) (nx3 : Nat → Int32) (rb3 : Nat → Int32), r = (b2 (cbP h w (h * w) pc br kd et ws)) ∧ w1 = [(b 0, .inr (5, [.int fa, .int (nI h), .int (nI w), .int pc, .int br, .ref (b 1), .ref (b 2), .int ra, .int q1, .int q2, .int q3, .int q4, .ref (b 3), .int fw, .int ea, .int sn, .ref (b 4), .ref (b 5), .ref (b 6), .int mo2, .int (nI rc), .ref (b 7), .ref (b 8), .ref (b 9), .ref (b 10), .ref (b 11), .ref (b 12), .ref (b 13), .ref (b 14), .int tr])), (b 1, .inl (cI, 16, .inl kd)), (b 2, .inl (cI, 16, .inl et)), (b 4, .inl (cI, 17, .inl pl3)), (b 5, .inl (cI, 17, .inl nx3)), (b 6, .inl (cI, 16, .inl rb3))])) := by
  refine MG.of (cc := cX5_isWhole) (maxL := 4) (ret := (some .boolean)) (by decide) rfl (Nat.le_of_ble_eq_true rfl) ?_
  intro P_ E_ S_ M_ B_ T_ K_ hx hb hml hr hts hown hlk hnm A hA hP hK hD hS ls hl
  have hl : lv_has ls 4 [(0, .ref (b 0)), (1, .int ws)] := hl
  refine lv_iconst (v := 0) hx hb dX5_isWhole_0 (by decide) ?_
  refine lv_istore_n (lv' := [(2, .int 0), (0, .ref (b 0)), (1, .int ws)]) hx hb dX5_isWhole_1 rfl hl (by decide) rfl (fun ls hl => ?_)
  refine lv_iconst (v := 0) hx hb dX5_isWhole_2 (by decide) ?_
  refine lv_istore_n (lv' := [(3, .int 0), (2, .int 0), (0, .ref (b 0)), (1, .int ws)]) hx hb dX5_isWhole_3 rfl hl (by decide) rfl (fun ls hl => ?_)
  have key_2 : ∀ (n_1 : Nat) (c : Nat) (o : Nat) (mo2 : Int32) (pl3 : Nat → Int32) (nx3 : Nat → Int32) (rb3 : Nat → Int32), (c ≤ h * w) → (o ≤ 1) → ((o = 0 ∧ ∀ z, z < c → ¬ iwP h w (h * w) pc br kd et ws z) ∨ (o = 1 ∧ cbP h w (h * w) pc br kd et ws)) → h * w - c < n_1 → ∀ (H : Heap) (locs : List Loc), va_P D vwCl [(b 0, .inr (5, [.int fa, .int (nI h), .int (nI w), .int pc, .int br, .ref (b 1), .ref (b 2), .int ra, .int q1, .int q2, .int q3, .int q4, .ref (b 3), .int fw, .int ea, .int sn, .ref (b 4), .ref (b 5), .ref (b 6), .int mo2, .int (nI rc), .ref (b 7), .ref (b 8), .ref (b 9), .ref (b 10), .ref (b 11), .ref (b 12), .ref (b 13), .ref (b 14), .int tr])), (b 1, .inl (cI, 16, .inl kd)), (b 2, .inl (cI, 16, .inl et)), (b 4, .inl (cI, 17, .inl pl3)), (b 5, .inl (cI, 17, .inl nx3)), (b 6, .inl (cI, 16, .inl rb3))] H → va_D A [(b 0, .inr (5, [.int fa, .int (nI h), .int (nI w), .int pc, .int br, .ref (b 1), .ref (b 2), .int ra, .int q1, .int q2, .int q3, .int q4, .ref (b 3), .int fw, .int ea, .int sn, .ref (b 4), .ref (b 5), .ref (b 6), .int mo2, .int (nI rc), .ref (b 7), .ref (b 8), .ref (b 9), .ref (b 10), .ref (b 11), .ref (b 12), .ref (b 13), .ref (b 14), .int tr])), (b 1, .inl (cI, 16, .inl kd)), (b 2, .inl (cI, 16, .inl et)), (b 4, .inl (cI, 17, .inl pl3)), (b 5, .inl (cI, 17, .inl nx3)), (b 6, .inl (cI, 16, .inl rb3))] → va_S A S_.heap H locs → ∀ ls : Array Slot, lv_has ls 4 [(0, .ref (b 0)), (1, .int ws), (2, .int (nI o)), (3, .int (nI c))] → W P_ l E_ ({ frames := 4, cells := 0, slots := 0, locals := 100 } : Room) S_ M_ (([.ref (b 0), .int ws] : List Value).toArray) B_ T_ K_ H locs 0 0 (MQ B_ ((QI D (fun (r : Int32) (w1 : va_W) => ∃ (mo2 : Int32) (pl3 : Nat → Int32) (nx3 : Nat → Int32) (rb3 : Nat → Int32), r = (b2 (cbP h w (h * w) pc br kd et ws)) ∧ w1 = [(b 0, .inr (5, [.int fa, .int (nI h), .int (nI w), .int pc, .int br, .ref (b 1), .ref (b 2), .int ra, .int q1, .int q2, .int q3, .int q4, .ref (b 3), .int fw, .int ea, .int sn, .ref (b 4), .ref (b 5), .ref (b 6), .int mo2, .int (nI rc), .ref (b 7), .ref (b 8), .ref (b 9), .ref (b 10), .ref (b 11), .ref (b 12), .ref (b 13), .ref (b 14), .int tr])), (b 1, .inl (cI, 16, .inl kd)), (b 2, .inl (cI, 16, .inl et)), (b 4, .inl (cI, 17, .inl pl3)), (b 5, .inl (cI, 17, .inl nx3)), (b 6, .inl (cI, 16, .inl rb3))])) A) (([.ref (b 0), .int ws] : List Value).toArray) S_ 0 0 A) (F0 M_ 4 ls []) := by
    intro n_1
    induction n_1 with
    | zero =>
      intro c o mo2 pl3 nx3 rb3 hk ho hI hmu_n_1
      exact absurd hmu_n_1 (Nat.not_lt_zero _)
    | succ n_1 ih_3 =>
      intro c o mo2 pl3 nx3 rb3 hk ho hI hmu_n_1 H locs hP hD hS ls hl
      have hl : lv_has ls 4 [(0, .ref (b 0)), (1, .int ws), (2, .int (nI o)), (3, .int (nI c))] := hl
      have hP : va_P D vwCl [(b 0, .inr (5, [.int fa, .int (nI h), .int (nI w), .int pc, .int br, .ref (b 1), .ref (b 2), .int ra, .int q1, .int q2, .int q3, .int q4, .ref (b 3), .int fw, .int ea, .int sn, .ref (b 4), .ref (b 5), .ref (b 6), .int mo2, .int (nI rc), .ref (b 7), .ref (b 8), .ref (b 9), .ref (b 10), .ref (b 11), .ref (b 12), .ref (b 13), .ref (b 14), .int tr])), (b 1, .inl (cI, 16, .inl kd)), (b 2, .inl (cI, 16, .inl et)), (b 4, .inl (cI, 17, .inl pl3)), (b 5, .inl (cI, 17, .inl nx3)), (b 6, .inl (cI, 16, .inl rb3))] H := hP
      have hD : va_D A [(b 0, .inr (5, [.int fa, .int (nI h), .int (nI w), .int pc, .int br, .ref (b 1), .ref (b 2), .int ra, .int q1, .int q2, .int q3, .int q4, .ref (b 3), .int fw, .int ea, .int sn, .ref (b 4), .ref (b 5), .ref (b 6), .int mo2, .int (nI rc), .ref (b 7), .ref (b 8), .ref (b 9), .ref (b 10), .ref (b 11), .ref (b 12), .ref (b 13), .ref (b 14), .int tr])), (b 1, .inl (cI, 16, .inl kd)), (b 2, .inl (cI, 16, .inl et)), (b 4, .inl (cI, 17, .inl pl3)), (b 5, .inl (cI, 17, .inl nx3)), (b 6, .inl (cI, 16, .inl rb3))] := hD
      refine lv_iload_n hx hb dX5_isWhole_4 rfl (lv_at hl 3 rfl) ?_
      refine lv_aload_n hx hb dX5_isWhole_5 rfl (lv_at hl 0 rfl) ?_
      refine k_ri (run_RV (As := []) (rest := [.int (nI c)]) ⟨hx, hb, hml, hown, hts⟩ (c_X5_cells l D cI cJ cO b fa h w pc br ra q1 q2 q3 q4 fw ea sn mo2 rc tr) (cwV 0 hts gX5_isWhole_X5_cells rfl rfl rfl (by decide +kernel) ⟨Nat.le_of_ble_eq_true rfl, Nat.le_of_ble_eq_true rfl⟩) hP hK [0] rfl rfl rfl rfl rfl hl.1 rfl (Nat.le_of_ble_eq_true rfl) dX5_isWhole_6 ⟨Nat.le_refl _, Nat.le_refl _⟩) (fun r_4 q_5 => ?_)
      obtain rfl := q_5
      refine lv_icmp_ge (tgt := 29) hx hb dX5_isWhole_9 (by decide) (fun c_6 => ?_) (fun c_6 => ?_)
      · have c_6 : h * w ≤ c := (nI_leI (a := h * w) (b := c) (by omega) (by omega)).mp c_6
        have hnar : narrow FieldType.boolean (Value.int (nI o)) = Value.int (nI o) := by rcases hI with ⟨z, -⟩ | ⟨z, -⟩ <;> rw [z] <;> decide
        refine lv_iload_n hx hb dX5_isWhole_29 rfl (lv_at hl 2 rfl) ?_
        refine mz_ret (v := (nI o)) hx hb hr hlk hP hD hS dX5_isWhole_30 (by assumption) ?_
        obtain rfl : c = h * w := by omega
        rcases hI with ⟨rfl, h0⟩ | ⟨rfl, h1⟩
        · refine ⟨_, _, _, _, b2_0 (iw_no hn h0), rfl⟩
        · refine ⟨_, _, _, _, b2_1 h1, rfl⟩
      · have c_6 : c < h * w := Nat.lt_of_not_le (fun z => c_6 ((nI_leI (a := h * w) (b := c) (by omega) (by omega)).mpr z))
        refine lv_iload_n hx hb dX5_isWhole_12 rfl (lv_at hl 2 rfl) ?_
        refine lv_if_ne (tgt := 29) hx hb dX5_isWhole_13 (by decide) (fun c_7 => ?_) (fun c_7 => ?_)
        · have c_7 : ¬ o = 0 := fun z => c_7 ((nI_eq (a := o) (b := 0) (by omega) (by omega)).mpr z)
          have hnar : narrow FieldType.boolean (Value.int (nI o)) = Value.int (nI o) := by rcases hI with ⟨z, -⟩ | ⟨z, -⟩ <;> rw [z] <;> decide
          refine lv_iload_n hx hb dX5_isWhole_29 rfl (lv_at hl 2 rfl) ?_
          refine mz_ret (v := (nI o)) hx hb hr hlk hP hD hS dX5_isWhole_30 (by assumption) ?_
          obtain ⟨rfl, h1⟩ := hI.resolve_left (fun z => by omega)
          refine ⟨_, _, _, _, b2_1 h1, rfl⟩
        · have c_7 : o = 0 := (nI_eq (a := o) (b := 0) (by omega) (by omega)).mp c_7
          obtain ⟨-, hno⟩ := hI.resolve_right (fun z => by omega)
          refine lv_aload_n hx hb dX5_isWhole_16 rfl (lv_at hl 0 rfl) ?_
          refine lv_iload_n hx hb dX5_isWhole_17 rfl (lv_at hl 1 rfl) ?_
          refine lv_iload_n hx hb dX5_isWhole_18 rfl (lv_at hl 3 rfl) ?_
          refine k_mi (wr := []) [0, 1, 2, 3, 4, 5] [] (run_MV (As := [.int ws, .int (nI c)]) (rest := []) ⟨hx, hb, hml, hown, hts⟩ (c_X5_isWholeFrom l D cI cJ cO b fa h w pc br ra q1 q2 q3 q4 fw ea sn mo2 rc tr kd et pl3 nx3 rb3 ws c hn hkd het hbr (by omega)) (cwV 2 hts gX5_isWhole_X5_isWholeFrom rfl rfl rfl (by decide +kernel) ⟨Nat.le_of_ble_eq_true rfl, Nat.le_of_ble_eq_true rfl⟩) hP hK hD [0, 1, 2, 3, 4, 5] (by decide) rfl rfl rfl rfl rfl hl.1 rfl (Nat.le_of_ble_eq_true rfl) dX5_isWhole_19 ⟨Nat.le_refl _, Nat.le_refl _⟩) hP hD hS hA rfl rfl (by decide) (by decide) (fun r_8 w_10 H locs q_9 hP hD hS => ?_)
          obtain ⟨mo2_11, pl3_12, nx3_13, rb3_14, rfl, rfl⟩ := q_9
          have hP : va_P D vwCl [(b 0, .inr (5, [.int fa, .int (nI h), .int (nI w), .int pc, .int br, .ref (b 1), .ref (b 2), .int ra, .int q1, .int q2, .int q3, .int q4, .ref (b 3), .int fw, .int ea, .int sn, .ref (b 4), .ref (b 5), .ref (b 6), .int mo2_11, .int (nI rc), .ref (b 7), .ref (b 8), .ref (b 9), .ref (b 10), .ref (b 11), .ref (b 12), .ref (b 13), .ref (b 14), .int tr])), (b 1, .inl (cI, 16, .inl kd)), (b 2, .inl (cI, 16, .inl et)), (b 4, .inl (cI, 17, .inl pl3_12)), (b 5, .inl (cI, 17, .inl nx3_13)), (b 6, .inl (cI, 16, .inl rb3_14))] H := hP.sub [0, 1, 2, 3, 4, 5] rfl
          have hD : va_D A [(b 0, .inr (5, [.int fa, .int (nI h), .int (nI w), .int pc, .int br, .ref (b 1), .ref (b 2), .int ra, .int q1, .int q2, .int q3, .int q4, .ref (b 3), .int fw, .int ea, .int sn, .ref (b 4), .ref (b 5), .ref (b 6), .int mo2_11, .int (nI rc), .ref (b 7), .ref (b 8), .ref (b 9), .ref (b 10), .ref (b 11), .ref (b 12), .ref (b 13), .ref (b 14), .int tr])), (b 1, .inl (cI, 16, .inl kd)), (b 2, .inl (cI, 16, .inl et)), (b 4, .inl (cI, 17, .inl pl3_12)), (b 5, .inl (cI, 17, .inl nx3_13)), (b 6, .inl (cI, 16, .inl rb3_14))] := hD.sub [0, 1, 2, 3, 4, 5] (by decide) rfl
          by_cases hiw : iwP h w (h * w) pc br kd et ws c
          · refine k_top (y := nI 1) (b2_1 hiw).symm ?_
            refine lv_istore_n (lv' := [(2, .int (nI 1)), (0, .ref (b 0)), (1, .int ws), (3, .int (nI c))]) hx hb dX5_isWhole_22 rfl hl (by decide) rfl (fun ls hl => ?_)
            refine lv_iinc (v := (nI (c + 1))) (lv' := [(3, .int (nI (c + 1))), (2, .int (nI 1)), (0, .ref (b 0)), (1, .int ws)]) hx hb dX5_isWhole_23 hl (k := 3) rfl (nI_add _ 1) (by decide) rfl (fun ls hl => ?_)
            refine lv_goto (tgt := 4) hx hb dX5_isWhole_26 (by decide) ?_
            exact ih_3 (c + 1) 1 mo2_11 pl3_12 nx3_13 rb3_14 (by omega) (by decide) (Or.inr ⟨rfl, iw_cb hn (by omega) hiw⟩) (by omega) _ _ hP hD hS ls (lv_sub hl [2, 3, 1, 0] rfl)
          · refine k_top (y := nI 0) (b2_0 hiw).symm ?_
            refine lv_istore_n (lv' := [(2, .int (nI 0)), (0, .ref (b 0)), (1, .int ws), (3, .int (nI c))]) hx hb dX5_isWhole_22 rfl hl (by decide) rfl (fun ls hl => ?_)
            refine lv_iinc (v := (nI (c + 1))) (lv' := [(3, .int (nI (c + 1))), (2, .int (nI 0)), (0, .ref (b 0)), (1, .int ws)]) hx hb dX5_isWhole_23 hl (k := 3) rfl (nI_add _ 1) (by decide) rfl (fun ls hl => ?_)
            refine lv_goto (tgt := 4) hx hb dX5_isWhole_26 (by decide) ?_
            exact ih_3 (c + 1) 0 mo2_11 pl3_12 nx3_13 rb3_14 (by omega) (by decide) (Or.inl ⟨rfl, nc_s hno hiw⟩) (by omega) _ _ hP hD hS ls (lv_sub hl [2, 3, 1, 0] rfl)
  exact key_2 _ 0 0 mo pl nx rb (by omega) (by omega) (Or.inl ⟨rfl, fun z hz => absurd hz (Nat.not_lt_zero z)⟩) (Nat.lt_succ_self _) _ _ hP hD hS ls (lv_sub hl [2, 3, 1, 0] rfl)
