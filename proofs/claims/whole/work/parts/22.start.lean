theorem iwX4_start_X4 : ∀ x ∈ wsX40, x ∈ wsX4_start := by decide +kernel
set_option maxRecDepth 100000 in
set_option maxHeartbeats 4000000 in
/-- X4_start -/
theorem c_X4_start (l : Launch) (D : va_G) (cI cJ cO : ClassId) (a : Nat → Nat) (ft : Int32) (tr : Int32) (h : Nat) (w : Nat) (pc : Int32) (br : Int32) (kd : Nat → Int32) (et : Nat → Int32) (nb : Nat → Int32) (td : Nat → Int32) (bs : Nat → Int32) (mo : Int32) (go : Int32) (ws : Int32) (hn : h * w ≤ 16) (hnb : nbOk h w nb (h * w)) (hh : h ≤ 4) : MG l yX4_start wsX4_start 19 499 0 0 D [(cI, .int), (cJ, .long), (cO, .object "ShornHill$Sheet")] [.ref (a 0), .int ws] [(a 0, .inr (4, [.ref (a 1), .ref (a 5), .ref (a 9), .ref (a 12), .int ft, .int tr])), (a 1, .inr (0, [.int (nI h), .int (nI w), .int pc, .int br, .ref (a 2), .ref (a 3), .ref (a 4)])), (a 2, .inl (cI, 16, .inl kd)), (a 3, .inl (cI, 16, .inl et)), (a 4, .inl (cI, 64, .inl nb)), (a 9, .inr (2, [.ref (a 10), .ref (a 11), .int mo, .int go])), (a 10, .inl (cI, 15, .inl td)), (a 11, .inl (cI, 15, .inl bs))] (QI D (fun (r : Int32) (w1 : va_W) => ∃ (td2 : Nat → Int32) (bs2 : Nat → Int32) (mo2 : Int32) (go2 : Int32), r = (staR h (h * w) pc br kd et w ws) ∧ w1 = [(a 0, .inr (4, [.ref (a 1), .ref (a 5), .ref (a 9), .ref (a 12), .int ft, .int tr])), (a 1, .inr (0, [.int (nI h), .int (nI w), .int pc, .int br, .ref (a 2), .ref (a 3), .ref (a 4)])), (a 2, .inl (cI, 16, .inl kd)), (a 3, .inl (cI, 16, .inl et)), (a 4, .inl (cI, 64, .inl nb)), (a 9, .inr (2, [.ref (a 10), .ref (a 11), .int mo2, .int go2])), (a 10, .inl (cI, 15, .inl td2)), (a 11, .inl (cI, 15, .inl bs2))])) := by
  refine MG.of (cc := cX4_start) (maxL := 7) (ret := (some .int)) (by decide) rfl (Nat.le_of_ble_eq_true rfl) ?_
  intro P_ E_ S_ M_ B_ T_ K_ hx hb hml hr hts hown hlk hnm A hA hP hK hD hS ls hl
  have hl : lv_has ls 7 [(0, .ref (a 0)), (1, .int ws)] := hl
  have hin4 : ∀ x ∈ u_ws RX4 TX4 6, x ∈ wsX4_start := iwX4_start_X4
  refine lv_aload_n hx hb dX4_start_0 rfl (lv_at hl 0 rfl) ?_
  refine va_get (D := D) (ci := 4) (v := .ref (a 1)) (C := RX4) (T := TX4) (N := 6) hx hb hts hin4 hown hK.1 hP 0 rfl rfl 0 (by decide) (hts _ (List.mem_of_getElem? (i := 1) rfl)) (fun _ h9 => h9) rfl dX4_start_1 ?_
  refine k_ri (run_RN (As := []) (rest := []) ⟨hx, hb, hml, hown, hts⟩ (c_X0_stands l D cI cJ cO a h w pc br kd et nb hh) ⟨va_cnB 0 hts ggX4_start_X0_stands rfl rfl rfl (nw_X4_106 hK) (hts _ (List.mem_of_getElem? (i := 3) rfl)) (by decide +kernel) ⟨Nat.le_of_ble_eq_true rfl, Nat.le_of_ble_eq_true rfl⟩, (hts _ (List.mem_of_getElem? (i := 2) rfl)), (hts _ (List.mem_of_getElem? (i := 4) rfl))⟩ hP hK [1, 2, 3, 4] rfl rfl rfl rfl rfl hl.1 rfl (Nat.le_of_ble_eq_true rfl) dX4_start_4 ⟨Nat.le_refl _, Nat.le_refl _⟩) (fun r_1 q_2 => ?_)
  obtain rfl := q_2
  refine lv_if_ne (tgt := 13) hx hb dX4_start_7 (by decide) (fun c_3 => ?_) (fun c_3 => ?_)
  · have c_3 := b2_t c_3
    have ch : ¬ h = 0 := by omega
    refine lv_iload_n hx hb dX4_start_13 rfl (lv_at hl 1 rfl) ?_
    refine k_ri (run_RS (As := [.int ws]) (rest := []) ⟨hx, hb, hml, hown, hts⟩ (c_X4_isWeeks l D cI cJ cO ws) (va_cwS 1 hts gX4_start_X4_isWeeks rfl rfl rfl (by decide +kernel) ⟨Nat.le_of_ble_eq_true rfl, Nat.le_of_ble_eq_true rfl⟩) hP hK [] rfl rfl hl.1 rfl (Nat.le_of_ble_eq_true rfl) dX4_start_14 ⟨Nat.le_refl _, Nat.le_refl _⟩) (fun r_4 q_5 => ?_)
    obtain rfl := q_5
    refine lv_if_ne (tgt := 23) hx hb dX4_start_17 (by decide) (fun c_6 => ?_) (fun c_6 => ?_)
    · have c_6 := b2_t c_6
      refine lv_aload_n hx hb dX4_start_23 rfl (lv_at hl 0 rfl) ?_
      refine va_get (D := D) (ci := 4) (v := .ref (a 1)) (C := RX4) (T := TX4) (N := 6) hx hb hts hin4 hown hK.1 hP 0 rfl rfl 0 (by decide) (hts _ (List.mem_of_getElem? (i := 1) rfl)) (fun _ h9 => h9) rfl dX4_start_24 ?_
      refine lv_iload_n hx hb dX4_start_27 rfl (lv_at hl 1 rfl) ?_
      refine k_ri (run_RN (As := [.int ws]) (rest := []) ⟨hx, hb, hml, hown, hts⟩ (c_X0_ripeCells l D cI cJ cO a h w pc br kd et nb ws hn) ⟨va_cnB 1 hts ggX4_start_X0_ripeCells rfl rfl rfl (nw_X4_123 hK) (hts _ (List.mem_of_getElem? (i := 3) rfl)) (by decide +kernel) ⟨Nat.le_of_ble_eq_true rfl, Nat.le_of_ble_eq_true rfl⟩, (hts _ (List.mem_of_getElem? (i := 11) rfl)), (hts _ (List.mem_of_getElem? (i := 12) rfl))⟩ hP hK [1, 2, 3, 4] rfl rfl rfl rfl rfl hl.1 rfl (Nat.le_of_ble_eq_true rfl) dX4_start_28 ⟨Nat.le_refl _, Nat.le_refl _⟩) (fun r_7 q_8 => ?_)
      obtain rfl := q_8
      refine lv_istore_n (lv' := [(2, .int (ripS pc br kd et ws (h * w))), (0, .ref (a 0)), (1, .int ws)]) hx hb dX4_start_31 rfl hl (by decide) rfl (fun ls hl => ?_)
      refine lv_iconst (v := 0) hx hb dX4_start_32 (by decide) ?_
      refine lv_istore_n (lv' := [(3, .int 0), (2, .int (ripS pc br kd et ws (h * w))), (0, .ref (a 0)), (1, .int ws)]) hx hb dX4_start_33 rfl hl (by decide) rfl (fun ls hl => ?_)
      refine lv_bipush (v := (-9)) hx hb dX4_start_34 (by decide) ?_
      refine lv_istore (lv' := [(4, .int (-9)), (3, .int 0), (2, .int (ripS pc br kd et ws (h * w))), (0, .ref (a 0)), (1, .int ws)]) hx hb dX4_start_36 hl (by decide) rfl (fun ls hl => ?_)
      refine lv_iconst (v := 0) hx hb dX4_start_38 (by decide) ?_
      refine lv_istore (lv' := [(5, .int 0), (4, .int (-9)), (3, .int 0), (2, .int (ripS pc br kd et ws (h * w))), (0, .ref (a 0)), (1, .int ws)]) hx hb dX4_start_39 hl (by decide) rfl (fun ls hl => ?_)
      have key_10 : ∀ (n_9 : Nat) (k : Nat) (td2 : Nat → Int32) (bs2 : Nat → Int32) (mo2 : Int32) (go2 : Int32) (q : Nat × Int32), (k ≤ h * w) → (staF h w (ripS pc br kd et ws (h * w)) k = q) → (q.1 ≤ 16) → h * w - k < n_9 → ∀ (H : Heap) (locs : List Loc), va_P D vwCl [(a 0, .inr (4, [.ref (a 1), .ref (a 5), .ref (a 9), .ref (a 12), .int ft, .int tr])), (a 1, .inr (0, [.int (nI h), .int (nI w), .int pc, .int br, .ref (a 2), .ref (a 3), .ref (a 4)])), (a 2, .inl (cI, 16, .inl kd)), (a 3, .inl (cI, 16, .inl et)), (a 4, .inl (cI, 64, .inl nb)), (a 9, .inr (2, [.ref (a 10), .ref (a 11), .int mo2, .int go2])), (a 10, .inl (cI, 15, .inl td2)), (a 11, .inl (cI, 15, .inl bs2))] H → va_D A [(a 0, .inr (4, [.ref (a 1), .ref (a 5), .ref (a 9), .ref (a 12), .int ft, .int tr])), (a 1, .inr (0, [.int (nI h), .int (nI w), .int pc, .int br, .ref (a 2), .ref (a 3), .ref (a 4)])), (a 2, .inl (cI, 16, .inl kd)), (a 3, .inl (cI, 16, .inl et)), (a 4, .inl (cI, 64, .inl nb)), (a 9, .inr (2, [.ref (a 10), .ref (a 11), .int mo2, .int go2])), (a 10, .inl (cI, 15, .inl td2)), (a 11, .inl (cI, 15, .inl bs2))] → va_S A S_.heap H locs → ∀ ls : Array Slot, lv_has ls 7 [(0, .ref (a 0)), (1, .int ws), (2, .int (ripS pc br kd et ws (h * w))), (3, .int (nI q.1)), (4, .int q.2), (5, .int (nI k))] → W P_ l E_ ({ frames := 19, cells := 0, slots := 0, locals := 499 } : Room) S_ M_ (([.ref (a 0), .int ws] : List Value).toArray) B_ T_ K_ H locs 0 0 (MQ B_ ((QI D (fun (r : Int32) (w1 : va_W) => ∃ (td2 : Nat → Int32) (bs2 : Nat → Int32) (mo2 : Int32) (go2 : Int32), r = (staR h (h * w) pc br kd et w ws) ∧ w1 = [(a 0, .inr (4, [.ref (a 1), .ref (a 5), .ref (a 9), .ref (a 12), .int ft, .int tr])), (a 1, .inr (0, [.int (nI h), .int (nI w), .int pc, .int br, .ref (a 2), .ref (a 3), .ref (a 4)])), (a 2, .inl (cI, 16, .inl kd)), (a 3, .inl (cI, 16, .inl et)), (a 4, .inl (cI, 64, .inl nb)), (a 9, .inr (2, [.ref (a 10), .ref (a 11), .int mo2, .int go2])), (a 10, .inl (cI, 15, .inl td2)), (a 11, .inl (cI, 15, .inl bs2))])) A) (([.ref (a 0), .int ws] : List Value).toArray) S_ 0 0 A) (F0 M_ 41 ls []) := by
        intro n_9
        induction n_9 with
        | zero =>
          intro k td2 bs2 mo2 go2 q hk hq hq16 hmu_n_9
          exact absurd hmu_n_9 (Nat.not_lt_zero _)
        | succ n_9 ih_11 =>
          intro k td2 bs2 mo2 go2 q hk hq hq16 hmu_n_9 H locs hP hD hS ls hl
          have hl : lv_has ls 7 [(0, .ref (a 0)), (1, .int ws), (2, .int (ripS pc br kd et ws (h * w))), (3, .int (nI q.1)), (4, .int q.2), (5, .int (nI k))] := hl
          have hP : va_P D vwCl [(a 0, .inr (4, [.ref (a 1), .ref (a 5), .ref (a 9), .ref (a 12), .int ft, .int tr])), (a 1, .inr (0, [.int (nI h), .int (nI w), .int pc, .int br, .ref (a 2), .ref (a 3), .ref (a 4)])), (a 2, .inl (cI, 16, .inl kd)), (a 3, .inl (cI, 16, .inl et)), (a 4, .inl (cI, 64, .inl nb)), (a 9, .inr (2, [.ref (a 10), .ref (a 11), .int mo2, .int go2])), (a 10, .inl (cI, 15, .inl td2)), (a 11, .inl (cI, 15, .inl bs2))] H := hP
          have hD : va_D A [(a 0, .inr (4, [.ref (a 1), .ref (a 5), .ref (a 9), .ref (a 12), .int ft, .int tr])), (a 1, .inr (0, [.int (nI h), .int (nI w), .int pc, .int br, .ref (a 2), .ref (a 3), .ref (a 4)])), (a 2, .inl (cI, 16, .inl kd)), (a 3, .inl (cI, 16, .inl et)), (a 4, .inl (cI, 64, .inl nb)), (a 9, .inr (2, [.ref (a 10), .ref (a 11), .int mo2, .int go2])), (a 10, .inl (cI, 15, .inl td2)), (a 11, .inl (cI, 15, .inl bs2))] := hD
          refine lv_iload hx hb dX4_start_41 (lv_at hl 5 rfl) ?_
          refine lv_aload_n hx hb dX4_start_43 rfl (lv_at hl 0 rfl) ?_
          refine va_get (D := D) (ci := 4) (v := .ref (a 1)) (C := RX4) (T := TX4) (N := 6) hx hb hts hin4 hown hK.1 hP 0 rfl rfl 0 (by decide) (hts _ (List.mem_of_getElem? (i := 1) rfl)) (fun _ h9 => h9) rfl dX4_start_44 ?_
          refine k_ri (run_RN (As := []) (rest := [.int (nI k)]) ⟨hx, hb, hml, hown, hts⟩ (c_X0_cells l D cI cJ cO a h w pc br kd et nb) ⟨va_cnB 0 hts ggX4_start_X0_cells rfl rfl rfl (nw_X4_143 hK) (hts _ (List.mem_of_getElem? (i := 3) rfl)) (by decide +kernel) ⟨Nat.le_of_ble_eq_true rfl, Nat.le_of_ble_eq_true rfl⟩, (hts _ (List.mem_of_getElem? (i := 15) rfl)), (hts _ (List.mem_of_getElem? (i := 16) rfl))⟩ hP hK [1, 2, 3, 4] rfl rfl rfl rfl rfl hl.1 rfl (Nat.le_of_ble_eq_true rfl) dX4_start_47 ⟨Nat.le_refl _, Nat.le_refl _⟩) (fun r_12 q_13 => ?_)
          obtain rfl := q_13
          refine lv_icmp_ge (tgt := 94) hx hb dX4_start_50 (by decide) (fun c_14 => ?_) (fun c_14 => ?_)
          · have c_14 : h * w ≤ k := (nI_leI (a := h * w) (b := k) (by omega) (by omega)).mp c_14
            refine lv_iload hx hb dX4_start_94 (lv_at hl 4 rfl) ?_
            refine mi_ret (v := q.2) hx hb hr hlk hP hD hS dX4_start_96 ?_
            obtain rfl : k = h * w := by omega
            refine ⟨td2, bs2, mo2, go2, ?_, rfl⟩
            rw [staR, if_neg (show ¬ h = 0 by omega), if_pos (by assumption)]
            rw [hq]
          · have c_14 : k < h * w := Nat.lt_of_not_le (fun z => c_14 ((nI_leI (a := h * w) (b := k) (by omega) (by omega)).mpr z))
            refine lv_iload_n hx hb dX4_start_53 rfl (lv_at hl 2 rfl) ?_
            refine lv_iload hx hb dX4_start_54 (lv_at hl 5 rfl) ?_
            refine k_ri (run_RS (As := [.int (ripS pc br kd et ws (h * w)), .int (nI k)]) (rest := []) ⟨hx, hb, hml, hown, hts⟩ (c_X4_isIn l D cI cJ cO (ripS pc br kd et ws (h * w)) (nI k)) (va_cwS 2 hts gX4_start_X4_isIn rfl rfl rfl (by decide +kernel) ⟨Nat.le_of_ble_eq_true rfl, Nat.le_of_ble_eq_true rfl⟩) hP hK [] rfl rfl hl.1 rfl (Nat.le_of_ble_eq_true rfl) dX4_start_56 ⟨Nat.le_refl _, Nat.le_refl _⟩) (fun r_15 q_16 => ?_)
            obtain rfl := q_16
            refine lv_if_eq (tgt := 72) hx hb dX4_start_59 (by decide) (fun c_17 => ?_) (fun c_17 => ?_)
            · have c_17 := b2_f c_17
              refine lv_iconst (v := 0) hx hb dX4_start_72 (by decide) ?_
              refine lv_istore (lv' := [(6, .int 0), (0, .ref (a 0)), (1, .int ws), (2, .int (ripS pc br kd et ws (h * w))), (3, .int (nI q.1)), (4, .int q.2), (5, .int (nI k))]) hx hb dX4_start_73 hl (by decide) rfl (fun ls hl => ?_)
              have hms := msF_le h w k (ripS pc br kd et ws (h * w))
              refine lv_iload hx hb dX4_start_75 (lv_at hl 0 rfl) ?_
              refine lv_iload_n hx hb dX4_start_77 rfl (lv_at hl 4 rfl) ?_
              refine lv_icmp_le (tgt := 88) hx hb dX4_start_78 (by decide) (fun c_18 => ?_) (fun c_18 => ?_)
              · have c_18 : 0 ≤ q.1 := (nI_leI (a := 0) (b := q.1) (by omega) (by omega)).mp c_18
                refine lv_iinc (v := (nI (k + 1))) (lv' := [(5, .int (nI (k + 1))), (6, .int 0), (0, .ref (a 0)), (1, .int ws), (2, .int (ripS pc br kd et ws (h * w))), (3, .int (nI q.1)), (4, .int q.2)]) hx hb dX4_start_88 hl (k := 6) rfl (nI_add _ 1) (by decide) rfl (fun ls hl => ?_)
                refine lv_goto (tgt := 41) hx hb dX4_start_91 (by decide) ?_
                exact ih_11 (k + 1) td2 bs2 mo2 go2 q (by omega) (by rw [staF, if_neg (show ¬ inS (ripS pc br kd et ws (h * w)) (nI k) by assumption), hq, if_neg (by omega)]) hq16 (by omega) _ _ hP hD hS ls (lv_sub hl [2, 3, 4, 5, 6, 0] rfl)
              · exact absurd ((nI_leI (a := 0) (b := q.1) (by omega) (by omega)).mpr (Nat.zero_le _)) c_18
            · have c_17 := b2_t c_17
              refine lv_aload_n hx hb dX4_start_62 rfl (lv_at hl 0 rfl) ?_
              refine lv_iload hx hb dX4_start_63 (lv_at hl 5 rfl) ?_
              refine lv_iload_n hx hb dX4_start_65 rfl (lv_at hl 2 rfl) ?_
              refine k_mi (wr := []) [0, 1, 2, 3, 4, 5, 6, 7] [] (run_MV (As := [.int (nI k), .int (ripS pc br kd et ws (h * w))]) (rest := []) ⟨hx, hb, hml, hown, hts⟩ (c_X4_mostShorn l D cI cJ cO a ft tr h w pc br kd et nb td2 bs2 mo2 go2 (nI k) (ripS pc br kd et ws (h * w)) k hn hnb (sm_rip _ _ _ _ _ _ hn) (by omega) (vp_in_nI (show k < 16 by omega) (by decide)) (nI_clamp (by omega))) (cwV 2 hts gX4_start_X4_mostShorn rfl rfl rfl (by decide +kernel) ⟨Nat.le_of_ble_eq_true rfl, Nat.le_of_ble_eq_true rfl⟩) hP hK hD [0, 1, 2, 3, 4, 5, 6, 7] (by decide) rfl rfl rfl rfl rfl hl.1 rfl (Nat.le_of_ble_eq_true rfl) dX4_start_66 ⟨Nat.le_refl _, Nat.le_refl _⟩) hP hD hS hA rfl rfl (by decide) (by decide) (fun r_19 w_21 H locs q_20 hP hD hS => ?_)
              obtain ⟨td2_22, bs2_23, rfl, hbs_24, rfl⟩ := q_20
              have hP : va_P D vwCl [(a 0, .inr (4, [.ref (a 1), .ref (a 5), .ref (a 9), .ref (a 12), .int ft, .int tr])), (a 1, .inr (0, [.int (nI h), .int (nI w), .int pc, .int br, .ref (a 2), .ref (a 3), .ref (a 4)])), (a 2, .inl (cI, 16, .inl kd)), (a 3, .inl (cI, 16, .inl et)), (a 4, .inl (cI, 64, .inl nb)), (a 9, .inr (2, [.ref (a 10), .ref (a 11), .int (nI (msF h w k (ripS pc br kd et ws (h * w)))), .int (nI (popN 16 (sN (ripS pc br kd et ws (h * w)))))])), (a 10, .inl (cI, 15, .inl td2_22)), (a 11, .inl (cI, 15, .inl bs2_23))] H := hP.sub [0, 1, 2, 3, 4, 5, 6, 7] rfl
              have hD : va_D A [(a 0, .inr (4, [.ref (a 1), .ref (a 5), .ref (a 9), .ref (a 12), .int ft, .int tr])), (a 1, .inr (0, [.int (nI h), .int (nI w), .int pc, .int br, .ref (a 2), .ref (a 3), .ref (a 4)])), (a 2, .inl (cI, 16, .inl kd)), (a 3, .inl (cI, 16, .inl et)), (a 4, .inl (cI, 64, .inl nb)), (a 9, .inr (2, [.ref (a 10), .ref (a 11), .int (nI (msF h w k (ripS pc br kd et ws (h * w)))), .int (nI (popN 16 (sN (ripS pc br kd et ws (h * w)))))])), (a 10, .inl (cI, 15, .inl td2_22)), (a 11, .inl (cI, 15, .inl bs2_23))] := hD.sub [0, 1, 2, 3, 4, 5, 6, 7] (by decide) rfl
              refine lv_goto (tgt := 73) hx hb dX4_start_69 (by decide) ?_
              refine lv_istore (lv' := [(6, .int (nI (msF h w k (ripS pc br kd et ws (h * w))))), (0, .ref (a 0)), (1, .int ws), (2, .int (ripS pc br kd et ws (h * w))), (3, .int (nI q.1)), (4, .int q.2), (5, .int (nI k))]) hx hb dX4_start_73 hl (by decide) rfl (fun ls hl => ?_)
              have hms := msF_le h w k (ripS pc br kd et ws (h * w))
              refine lv_iload hx hb dX4_start_75 (lv_at hl 0 rfl) ?_
              refine lv_iload_n hx hb dX4_start_77 rfl (lv_at hl 4 rfl) ?_
              refine lv_icmp_le (tgt := 88) hx hb dX4_start_78 (by decide) (fun c_25 => ?_) (fun c_25 => ?_)
              · have c_25 : msF h w k (ripS pc br kd et ws (h * w)) ≤ q.1 := (nI_leI (a := msF h w k (ripS pc br kd et ws (h * w))) (b := q.1) (by omega) (by omega)).mp c_25
                refine lv_iinc (v := (nI (k + 1))) (lv' := [(5, .int (nI (k + 1))), (6, .int (nI (msF h w k (ripS pc br kd et ws (h * w))))), (0, .ref (a 0)), (1, .int ws), (2, .int (ripS pc br kd et ws (h * w))), (3, .int (nI q.1)), (4, .int q.2)]) hx hb dX4_start_88 hl (k := 6) rfl (nI_add _ 1) (by decide) rfl (fun ls hl => ?_)
                refine lv_goto (tgt := 41) hx hb dX4_start_91 (by decide) ?_
                exact ih_11 (k + 1) td2_22 bs2_23 (nI (msF h w k (ripS pc br kd et ws (h * w)))) (nI (popN 16 (sN (ripS pc br kd et ws (h * w))))) q (by omega) (by rw [staF, if_pos (show inS (ripS pc br kd et ws (h * w)) (nI k) by assumption), hq, if_neg (by omega)]) hq16 (by omega) _ _ hP hD hS ls (lv_sub hl [2, 3, 4, 5, 6, 0] rfl)
              · have c_25 : q.1 < msF h w k (ripS pc br kd et ws (h * w)) := Nat.lt_of_not_le (fun z => c_25 ((nI_leI (a := msF h w k (ripS pc br kd et ws (h * w))) (b := q.1) (by omega) (by omega)).mpr z))
                refine lv_iload hx hb dX4_start_81 (lv_at hl 0 rfl) ?_
                refine lv_istore_n (lv' := [(3, .int (nI (msF h w k (ripS pc br kd et ws (h * w))))), (6, .int (nI (msF h w k (ripS pc br kd et ws (h * w))))), (0, .ref (a 0)), (1, .int ws), (2, .int (ripS pc br kd et ws (h * w))), (4, .int q.2), (5, .int (nI k))]) hx hb dX4_start_83 rfl hl (by decide) rfl (fun ls hl => ?_)
                refine lv_iload hx hb dX4_start_84 (lv_at hl 6 rfl) ?_
                refine lv_istore (lv' := [(4, .int (nI k)), (3, .int (nI (msF h w k (ripS pc br kd et ws (h * w))))), (6, .int (nI (msF h w k (ripS pc br kd et ws (h * w))))), (0, .ref (a 0)), (1, .int ws), (2, .int (ripS pc br kd et ws (h * w))), (5, .int (nI k))]) hx hb dX4_start_86 hl (by decide) rfl (fun ls hl => ?_)
                refine lv_iinc (v := (nI (k + 1))) (lv' := [(5, .int (nI (k + 1))), (4, .int (nI k)), (3, .int (nI (msF h w k (ripS pc br kd et ws (h * w))))), (6, .int (nI (msF h w k (ripS pc br kd et ws (h * w))))), (0, .ref (a 0)), (1, .int ws), (2, .int (ripS pc br kd et ws (h * w)))]) hx hb dX4_start_88 hl (k := 6) rfl (nI_add _ 1) (by decide) rfl (fun ls hl => ?_)
                refine lv_goto (tgt := 41) hx hb dX4_start_91 (by decide) ?_
                exact ih_11 (k + 1) td2_22 bs2_23 (nI (msF h w k (ripS pc br kd et ws (h * w)))) (nI (popN 16 (sN (ripS pc br kd et ws (h * w))))) (msF h w k (ripS pc br kd et ws (h * w)), nI k) (by omega) (by rw [staF, if_pos (show inS (ripS pc br kd et ws (h * w)) (nI k) by assumption), hq, if_pos (by omega)]) (msF_le _ _ _ _) (by omega) _ _ hP hD hS ls (lv_sub hl [4, 5, 6, 2, 1, 0] rfl)
      exact key_10 _ 0 td bs mo go (0, -9) (by omega) rfl (by decide) (Nat.lt_succ_self _) _ _ hP hD hS ls (lv_sub hl [4, 5, 3, 2, 1, 0] rfl)
    · have c_6 := b2_f c_6
      refine lv_bipush (v := (-2)) hx hb dX4_start_20 (by decide) ?_
      refine mi_ret (v := (-2)) hx hb hr hlk hP hD hS dX4_start_22 ?_
      refine ⟨td, bs, mo, go, ?_, rfl⟩
      rw [staR, if_neg ch, if_neg c_6]
  · have c_3 := b2_f c_3
    have ch : h = 0 := by omega
    refine lv_bipush (v := (-3)) hx hb dX4_start_10 (by decide) ?_
    refine mi_ret (v := (-3)) hx hb hr hlk hP hD hS dX4_start_12 ?_
    refine ⟨td, bs, mo, go, ?_, rfl⟩
    rw [staR, if_pos ch]
