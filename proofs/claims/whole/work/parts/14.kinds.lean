theorem iwX4_kinds_X0 : ∀ x ∈ wsX00, x ∈ wsX4_kinds := by decide +kernel
theorem iwX4_kinds_X4 : ∀ x ∈ wsX40, x ∈ wsX4_kinds := by decide +kernel
set_option maxRecDepth 100000 in
set_option maxHeartbeats 4000000 in
/-- X4_kinds -/
theorem c_X4_kinds (l : Launch) (D : va_G) (cI cJ cO : ClassId) (a : Nat → Nat) (ft : Int32) (tr : Int32) (h : Nat) (w : Nat) (pc : Int32) (br : Int32) (kd : Nat → Int32) (et : Nat → Int32) (nb : Nat → Int32) (rc : Nat) (ro : Nat → Int32) (rb : Nat → Int32) (rv : Nat → Int32) (c : Int32) (hn : h * w ≤ 16) (hro : ∀ k, k < rc → vp_in (ro k) 16) (hrc : rc ≤ 8) : MG l yX4_kinds wsX4_kinds 3 66 0 0 D [(cI, .int), (cJ, .long), (cO, .object "ShornHill$Sheet")] [.ref (a 0), .int c] [(a 0, .inr (4, [.ref (a 1), .ref (a 5), .ref (a 9), .ref (a 12), .int ft, .int tr])), (a 1, .inr (0, [.int (nI h), .int (nI w), .int pc, .int br, .ref (a 2), .ref (a 3), .ref (a 4)])), (a 2, .inl (cI, 16, .inl kd)), (a 3, .inl (cI, 16, .inl et)), (a 4, .inl (cI, 64, .inl nb)), (a 5, .inr (1, [.int (nI rc), .ref (a 6), .ref (a 7), .ref (a 8)])), (a 6, .inl (cI, 8, .inl ro)), (a 7, .inl (cI, 8, .inl rb)), (a 8, .inl (cI, 8, .inl rv))] (QI D (fun (r : Int32) (w1 : va_W) => r = (kiR (h * w) pc kd et rc ro rb rv c) ∧ w1 = [(a 0, .inr (4, [.ref (a 1), .ref (a 5), .ref (a 9), .ref (a 12), .int ft, .int tr])), (a 1, .inr (0, [.int (nI h), .int (nI w), .int pc, .int br, .ref (a 2), .ref (a 3), .ref (a 4)])), (a 2, .inl (cI, 16, .inl kd)), (a 3, .inl (cI, 16, .inl et)), (a 4, .inl (cI, 64, .inl nb)), (a 5, .inr (1, [.int (nI rc), .ref (a 6), .ref (a 7), .ref (a 8)])), (a 6, .inl (cI, 8, .inl ro)), (a 7, .inl (cI, 8, .inl rb)), (a 8, .inl (cI, 8, .inl rv))])) := by
  refine MG.of (cc := cX4_kinds) (maxL := 5) (ret := (some .int)) (by decide) rfl (Nat.le_of_ble_eq_true rfl) ?_
  intro P_ E_ S_ M_ B_ T_ K_ hx hb hml hr hts hown hlk hnm A hA hP hK hD hS ls hl
  have hl : lv_has ls 5 [(0, .ref (a 0)), (1, .int c)] := hl
  have hin0 : ∀ x ∈ u_ws RX0 TX0 7, x ∈ wsX4_kinds := iwX4_kinds_X0
  have hin4 : ∀ x ∈ u_ws RX4 TX4 6, x ∈ wsX4_kinds := iwX4_kinds_X4
  refine lv_aload_n hx hb dX4_kinds_0 rfl (lv_at hl 0 rfl) ?_
  refine va_get (D := D) (ci := 4) (v := .ref (a 1)) (C := RX4) (T := TX4) (N := 6) hx hb hts hin4 hown hK.1 hP 0 rfl rfl 0 (by decide) (hts _ (List.mem_of_getElem? (i := 1) rfl)) (fun _ h9 => h9) rfl dX4_kinds_1 ?_
  refine lv_iload_n hx hb dX4_kinds_4 rfl (lv_at hl 1 rfl) ?_
  refine k_ri (run_RN (As := [.int c]) (rest := []) ⟨hx, hb, hml, hown, hts⟩ (c_X0_isSoft l D cI cJ cO a h w pc br kd et nb c hn) ⟨va_cnB 1 hts ggX4_kinds_X0_isSoft rfl rfl rfl (nw_X4_100 hK) (hts _ (List.mem_of_getElem? (i := 4) rfl)) (by decide +kernel) ⟨Nat.le_of_ble_eq_true rfl, Nat.le_of_ble_eq_true rfl⟩, (hts _ (List.mem_of_getElem? (i := 3) rfl)), (hts _ (List.mem_of_getElem? (i := 5) rfl))⟩ hP hK [1, 2, 3, 4] rfl rfl rfl rfl rfl hl.1 rfl (Nat.le_of_ble_eq_true rfl) dX4_kinds_5 ⟨Nat.le_refl _, Nat.le_refl _⟩) (fun r_1 q_2 => ?_)
  obtain rfl := q_2
  refine lv_if_ne (tgt := 13) hx hb dX4_kinds_8 (by decide) (fun c_3 => ?_) (fun c_3 => ?_)
  · have c_3 := b2_t c_3
    refine lv_aload_n hx hb dX4_kinds_13 rfl (lv_at hl 0 rfl) ?_
    refine va_get (D := D) (ci := 4) (v := .ref (a 1)) (C := RX4) (T := TX4) (N := 6) hx hb hts hin4 hown hK.1 hP 0 rfl rfl 0 (by decide) (hts _ (List.mem_of_getElem? (i := 1) rfl)) (fun _ h9 => h9) rfl dX4_kinds_14 ?_
    refine va_getN (D := D) (ci := 0) (v := .ref (a 2)) (C := RX0) (T := TX0) (N := 7) hx hb hts hin0 hown hK.1 hP 1 rfl rfl 4 (by decide) (va_Nw.use rfl (nw_X4_91 hK)) (fun _ h9 => h9) rfl dX4_kinds_17 ?_
    refine lv_iload_n hx hb dX4_kinds_20 rfl (lv_at hl 1 rfl) ?_
    refine k_iald hx hb hK hP 2 0 rfl rfl (j := c.toNatClampNeg) (inN.vp c_3.1 (by omega)) rfl dX4_kinds_21 ?_
    refine lv_istore_n (lv' := [(2, .int (kd c.toNatClampNeg)), (0, .ref (a 0)), (1, .int c)]) hx hb dX4_kinds_22 rfl hl (by decide) rfl (fun ls hl => ?_)
    refine lv_iconst (v := 0) hx hb dX4_kinds_23 (by decide) ?_
    refine lv_istore_n (lv' := [(3, .int 0), (2, .int (kd c.toNatClampNeg)), (0, .ref (a 0)), (1, .int c)]) hx hb dX4_kinds_24 rfl hl (by decide) rfl (fun ls hl => ?_)
    refine lv_iconst (v := 0) hx hb dX4_kinds_25 (by decide) ?_
    refine lv_istore (lv' := [(4, .int 0), (3, .int 0), (2, .int (kd c.toNatClampNeg)), (0, .ref (a 0)), (1, .int c)]) hx hb dX4_kinds_26 hl (by decide) rfl (fun ls hl => ?_)
    have key_5 : ∀ (n_4 : Nat) (k : Nat) (g : Nat → Int32) (x3_n_4 : Int32), (k ≤ 3) → (∀ v, upd g c.toNatClampNeg v = upd kd c.toNatClampNeg v) → x3_n_4 = (setF (fun s => soP pc (upd kd c.toNatClampNeg (nI s)) et ro rb rv rc) 0 k) → 3 - k < n_4 → ∀ (H : Heap) (locs : List Loc), va_P D vwCl [(a 0, .inr (4, [.ref (a 1), .ref (a 5), .ref (a 9), .ref (a 12), .int ft, .int tr])), (a 1, .inr (0, [.int (nI h), .int (nI w), .int pc, .int br, .ref (a 2), .ref (a 3), .ref (a 4)])), (a 2, .inl (cI, 16, .inl g)), (a 3, .inl (cI, 16, .inl et)), (a 4, .inl (cI, 64, .inl nb)), (a 5, .inr (1, [.int (nI rc), .ref (a 6), .ref (a 7), .ref (a 8)])), (a 6, .inl (cI, 8, .inl ro)), (a 7, .inl (cI, 8, .inl rb)), (a 8, .inl (cI, 8, .inl rv))] H → va_D A [(a 0, .inr (4, [.ref (a 1), .ref (a 5), .ref (a 9), .ref (a 12), .int ft, .int tr])), (a 1, .inr (0, [.int (nI h), .int (nI w), .int pc, .int br, .ref (a 2), .ref (a 3), .ref (a 4)])), (a 2, .inl (cI, 16, .inl g)), (a 3, .inl (cI, 16, .inl et)), (a 4, .inl (cI, 64, .inl nb)), (a 5, .inr (1, [.int (nI rc), .ref (a 6), .ref (a 7), .ref (a 8)])), (a 6, .inl (cI, 8, .inl ro)), (a 7, .inl (cI, 8, .inl rb)), (a 8, .inl (cI, 8, .inl rv))] → va_S A S_.heap H locs → ∀ ls : Array Slot, lv_has ls 5 [(0, .ref (a 0)), (1, .int c), (2, .int (kd c.toNatClampNeg)), (3, .int x3_n_4), (4, .int (nI k))] → W P_ l E_ ({ frames := 3, cells := 0, slots := 0, locals := 66 } : Room) S_ M_ (([.ref (a 0), .int c] : List Value).toArray) B_ T_ K_ H locs 0 0 (MQ B_ ((QI D (fun (r : Int32) (w1 : va_W) => r = (kiR (h * w) pc kd et rc ro rb rv c) ∧ w1 = [(a 0, .inr (4, [.ref (a 1), .ref (a 5), .ref (a 9), .ref (a 12), .int ft, .int tr])), (a 1, .inr (0, [.int (nI h), .int (nI w), .int pc, .int br, .ref (a 2), .ref (a 3), .ref (a 4)])), (a 2, .inl (cI, 16, .inl kd)), (a 3, .inl (cI, 16, .inl et)), (a 4, .inl (cI, 64, .inl nb)), (a 5, .inr (1, [.int (nI rc), .ref (a 6), .ref (a 7), .ref (a 8)])), (a 6, .inl (cI, 8, .inl ro)), (a 7, .inl (cI, 8, .inl rb)), (a 8, .inl (cI, 8, .inl rv))])) A) (([.ref (a 0), .int c] : List Value).toArray) S_ 0 0 A) (F0 M_ 28 ls []) := by
      intro n_4
      induction n_4 with
      | zero =>
        intro k g x3_n_4 hk hg e_x3_n_4 hmu_n_4
        exact absurd hmu_n_4 (Nat.not_lt_zero _)
      | succ n_4 ih_6 =>
        intro k g x3_n_4 hk hg e_x3_n_4 hmu_n_4 H locs hP hD hS ls hl
        subst e_x3_n_4
        have hl : lv_has ls 5 [(0, .ref (a 0)), (1, .int c), (2, .int (kd c.toNatClampNeg)), (3, .int (setF (fun s => soP pc (upd kd c.toNatClampNeg (nI s)) et ro rb rv rc) 0 k)), (4, .int (nI k))] := hl
        have hP : va_P D vwCl [(a 0, .inr (4, [.ref (a 1), .ref (a 5), .ref (a 9), .ref (a 12), .int ft, .int tr])), (a 1, .inr (0, [.int (nI h), .int (nI w), .int pc, .int br, .ref (a 2), .ref (a 3), .ref (a 4)])), (a 2, .inl (cI, 16, .inl g)), (a 3, .inl (cI, 16, .inl et)), (a 4, .inl (cI, 64, .inl nb)), (a 5, .inr (1, [.int (nI rc), .ref (a 6), .ref (a 7), .ref (a 8)])), (a 6, .inl (cI, 8, .inl ro)), (a 7, .inl (cI, 8, .inl rb)), (a 8, .inl (cI, 8, .inl rv))] H := hP
        have hD : va_D A [(a 0, .inr (4, [.ref (a 1), .ref (a 5), .ref (a 9), .ref (a 12), .int ft, .int tr])), (a 1, .inr (0, [.int (nI h), .int (nI w), .int pc, .int br, .ref (a 2), .ref (a 3), .ref (a 4)])), (a 2, .inl (cI, 16, .inl g)), (a 3, .inl (cI, 16, .inl et)), (a 4, .inl (cI, 64, .inl nb)), (a 5, .inr (1, [.int (nI rc), .ref (a 6), .ref (a 7), .ref (a 8)])), (a 6, .inl (cI, 8, .inl ro)), (a 7, .inl (cI, 8, .inl rb)), (a 8, .inl (cI, 8, .inl rv))] := hD
        refine lv_iload hx hb dX4_kinds_28 (lv_at hl 4 rfl) ?_
        refine lv_iconst (v := 2) hx hb dX4_kinds_30 (by decide) ?_
        refine lv_icmp_gt (tgt := 73) hx hb dX4_kinds_31 (by decide) (fun c_7 => ?_) (fun c_7 => ?_)
        · have c_7 : 2 < k := (nI_ltI (a := 2) (b := k) (by omega) (by omega)).mp c_7
          refine lv_aload_n hx hb dX4_kinds_73 rfl (lv_at hl 0 rfl) ?_
          refine va_get (D := D) (ci := 4) (v := .ref (a 1)) (C := RX4) (T := TX4) (N := 6) hx hb hts hin4 hown hK.1 hP 0 rfl rfl 0 (by decide) (hts _ (List.mem_of_getElem? (i := 1) rfl)) (fun _ h9 => h9) rfl dX4_kinds_74 ?_
          refine va_getN (D := D) (ci := 0) (v := .ref (a 2)) (C := RX0) (T := TX0) (N := 7) hx hb hts hin0 hown hK.1 hP 1 rfl rfl 4 (by decide) (va_Nw.use rfl (nw_X4_91 hK)) (fun _ h9 => h9) rfl dX4_kinds_77 ?_
          refine lv_iload_n hx hb dX4_kinds_80 rfl (lv_at hl 1 rfl) ?_
          refine lv_iload_n hx hb dX4_kinds_81 rfl (lv_at hl 2 rfl) ?_
          refine k_iast hx hb hK hP hD hS 2 0 rfl rfl (j := c.toNatClampNeg) (inN.vp c_3.1 (by omega)) rfl dX4_kinds_82 (fun H locs hP hD hS => ?_)
          have hP : va_P D vwCl [(a 0, .inr (4, [.ref (a 1), .ref (a 5), .ref (a 9), .ref (a 12), .int ft, .int tr])), (a 1, .inr (0, [.int (nI h), .int (nI w), .int pc, .int br, .ref (a 2), .ref (a 3), .ref (a 4)])), (a 2, .inl (cI, 16, .inl (upd g c.toNatClampNeg (kd c.toNatClampNeg)))), (a 3, .inl (cI, 16, .inl et)), (a 4, .inl (cI, 64, .inl nb)), (a 5, .inr (1, [.int (nI rc), .ref (a 6), .ref (a 7), .ref (a 8)])), (a 6, .inl (cI, 8, .inl ro)), (a 7, .inl (cI, 8, .inl rb)), (a 8, .inl (cI, 8, .inl rv))] H := hP
          have hD : va_D A [(a 0, .inr (4, [.ref (a 1), .ref (a 5), .ref (a 9), .ref (a 12), .int ft, .int tr])), (a 1, .inr (0, [.int (nI h), .int (nI w), .int pc, .int br, .ref (a 2), .ref (a 3), .ref (a 4)])), (a 2, .inl (cI, 16, .inl (upd g c.toNatClampNeg (kd c.toNatClampNeg)))), (a 3, .inl (cI, 16, .inl et)), (a 4, .inl (cI, 64, .inl nb)), (a 5, .inr (1, [.int (nI rc), .ref (a 6), .ref (a 7), .ref (a 8)])), (a 6, .inl (cI, 8, .inl ro)), (a 7, .inl (cI, 8, .inl rb)), (a 8, .inl (cI, 8, .inl rv))] := hD
          rw [show (upd g c.toNatClampNeg (kd c.toNatClampNeg)) = kd from (by rw [hg]; exact upd_self _ _)] at hP hD
          refine lv_iload_n hx hb dX4_kinds_83 rfl (lv_at hl 3 rfl) ?_
          refine mi_ret (v := (setF (fun s => soP pc (upd kd c.toNatClampNeg (nI s)) et ro rb rv rc) 0 k)) hx hb hr hlk hP hD hS dX4_kinds_84 ?_
          refine ⟨?_, rfl⟩
          rw [kiR, if_pos c_3, show k = 3 by omega]
        · have c_7 : k ≤ 2 := Nat.le_of_not_lt (fun z => c_7 ((nI_ltI (a := 2) (b := k) (by omega) (by omega)).mpr z))
          refine lv_aload_n hx hb dX4_kinds_34 rfl (lv_at hl 0 rfl) ?_
          refine va_get (D := D) (ci := 4) (v := .ref (a 1)) (C := RX4) (T := TX4) (N := 6) hx hb hts hin4 hown hK.1 hP 0 rfl rfl 0 (by decide) (hts _ (List.mem_of_getElem? (i := 1) rfl)) (fun _ h9 => h9) rfl dX4_kinds_35 ?_
          refine va_getN (D := D) (ci := 0) (v := .ref (a 2)) (C := RX0) (T := TX0) (N := 7) hx hb hts hin0 hown hK.1 hP 1 rfl rfl 4 (by decide) (va_Nw.use rfl (nw_X4_91 hK)) (fun _ h9 => h9) rfl dX4_kinds_38 ?_
          refine lv_iload_n hx hb dX4_kinds_41 rfl (lv_at hl 1 rfl) ?_
          refine lv_iload hx hb dX4_kinds_42 (lv_at hl 4 rfl) ?_
          refine k_iast hx hb hK hP hD hS 2 0 rfl rfl (j := c.toNatClampNeg) (inN.vp c_3.1 (by omega)) rfl dX4_kinds_44 (fun H locs hP hD hS => ?_)
          have hP : va_P D vwCl [(a 0, .inr (4, [.ref (a 1), .ref (a 5), .ref (a 9), .ref (a 12), .int ft, .int tr])), (a 1, .inr (0, [.int (nI h), .int (nI w), .int pc, .int br, .ref (a 2), .ref (a 3), .ref (a 4)])), (a 2, .inl (cI, 16, .inl (upd g c.toNatClampNeg (nI k)))), (a 3, .inl (cI, 16, .inl et)), (a 4, .inl (cI, 64, .inl nb)), (a 5, .inr (1, [.int (nI rc), .ref (a 6), .ref (a 7), .ref (a 8)])), (a 6, .inl (cI, 8, .inl ro)), (a 7, .inl (cI, 8, .inl rb)), (a 8, .inl (cI, 8, .inl rv))] H := hP
          have hD : va_D A [(a 0, .inr (4, [.ref (a 1), .ref (a 5), .ref (a 9), .ref (a 12), .int ft, .int tr])), (a 1, .inr (0, [.int (nI h), .int (nI w), .int pc, .int br, .ref (a 2), .ref (a 3), .ref (a 4)])), (a 2, .inl (cI, 16, .inl (upd g c.toNatClampNeg (nI k)))), (a 3, .inl (cI, 16, .inl et)), (a 4, .inl (cI, 64, .inl nb)), (a 5, .inr (1, [.int (nI rc), .ref (a 6), .ref (a 7), .ref (a 8)])), (a 6, .inl (cI, 8, .inl ro)), (a 7, .inl (cI, 8, .inl rb)), (a 8, .inl (cI, 8, .inl rv))] := hD
          rw [show (upd g c.toNatClampNeg (nI k)) = (upd kd c.toNatClampNeg (nI k)) from (hg _)] at hP hD
          refine lv_aload_n hx hb dX4_kinds_45 rfl (lv_at hl 0 rfl) ?_
          refine va_get (D := D) (ci := 4) (v := .ref (a 5)) (C := RX4) (T := TX4) (N := 6) hx hb hts hin4 hown hK.1 hP 0 rfl rfl 1 (by decide) (hts _ (List.mem_of_getElem? (i := 2) rfl)) (fun _ h9 => h9) rfl dX4_kinds_46 ?_
          refine lv_aload_n hx hb dX4_kinds_49 rfl (lv_at hl 0 rfl) ?_
          refine va_get (D := D) (ci := 4) (v := .ref (a 1)) (C := RX4) (T := TX4) (N := 6) hx hb hts hin4 hown hK.1 hP 0 rfl rfl 0 (by decide) (hts _ (List.mem_of_getElem? (i := 1) rfl)) (fun _ h9 => h9) rfl dX4_kinds_50 ?_
          refine k_ri (run_RN (As := [.ref (a 1)]) (rest := []) ⟨hx, hb, hml, hown, hts⟩ (c_X1_areSo l D cI cJ cO a h w pc br (upd kd c.toNatClampNeg (nI k)) et nb rc ro rb rv hro hrc) ⟨va_cnB 1 hts ggX4_kinds_X1_areSo rfl rfl rfl (nw_X4_165 hK) (hts _ (List.mem_of_getElem? (i := 19) rfl)) (by decide +kernel) ⟨Nat.le_of_ble_eq_true rfl, Nat.le_of_ble_eq_true rfl⟩, (hts _ (List.mem_of_getElem? (i := 18) rfl)), (hts _ (List.mem_of_getElem? (i := 20) rfl))⟩ hP hK [5, 6, 7, 8, 1, 2, 3, 4] rfl rfl rfl rfl rfl hl.1 rfl (Nat.le_of_ble_eq_true rfl) dX4_kinds_53 ⟨Nat.le_refl _, Nat.le_refl _⟩) (fun r_8 q_9 => ?_)
          obtain rfl := q_9
          refine lv_if_eq (tgt := 67) hx hb dX4_kinds_56 (by decide) (fun c_10 => ?_) (fun c_10 => ?_)
          · have c_10 := b2_f c_10
            refine lv_iinc (v := (nI (k + 1))) (lv' := [(4, .int (nI (k + 1))), (0, .ref (a 0)), (1, .int c), (2, .int (kd c.toNatClampNeg)), (3, .int (setF (fun s => soP pc (upd kd c.toNatClampNeg (nI s)) et ro rb rv rc) 0 k))]) hx hb dX4_kinds_67 hl (k := 4) rfl (nI_add _ 1) (by decide) rfl (fun ls hl => ?_)
            refine lv_goto (tgt := 28) hx hb dX4_kinds_70 (by decide) ?_
            exact ih_6 (k + 1) (upd kd c.toNatClampNeg (nI k)) (setF (fun s => soP pc (upd kd c.toNatClampNeg (nI s)) et ro rb rv rc) 0 k) (by omega) (fun _ => upd_upd _ _ _ _) (by first | exact setF_t0 (by assumption) | exact setF_f0 (by assumption)) (by omega) _ _ hP hD hS ls (lv_sub hl [1, 2, 3, 4, 0] rfl)
          · have c_10 := b2_t c_10
            refine lv_iload_n hx hb dX4_kinds_59 rfl (lv_at hl 3 rfl) ?_
            refine lv_iload hx hb dX4_kinds_60 (lv_at hl 4 rfl) ?_
            refine k_ri (run_RS (As := [.int (nI k)]) (rest := [.int (setF (fun s => soP pc (upd kd c.toNatClampNeg (nI s)) et ro rb rv rc) 0 k)]) ⟨hx, hb, hml, hown, hts⟩ (c_X4_bit l D cI cJ cO (nI k)) (va_cwS 1 hts gX4_kinds_X4_bit rfl rfl rfl (by decide +kernel) ⟨Nat.le_of_ble_eq_true rfl, Nat.le_of_ble_eq_true rfl⟩) hP hK [] rfl rfl hl.1 rfl (Nat.le_of_ble_eq_true rfl) dX4_kinds_62 ⟨Nat.le_refl _, Nat.le_refl _⟩) (fun r_11 q_12 => ?_)
            obtain rfl := q_12
            refine lv_ior hx hb dX4_kinds_65 ?_
            refine lv_istore_n (lv' := [(3, .int ((setF (fun s => soP pc (upd kd c.toNatClampNeg (nI s)) et ro rb rv rc) 0 k) ||| (bi (nI k)))), (0, .ref (a 0)), (1, .int c), (2, .int (kd c.toNatClampNeg)), (4, .int (nI k))]) hx hb dX4_kinds_66 rfl hl (by decide) rfl (fun ls hl => ?_)
            refine lv_iinc (v := (nI (k + 1))) (lv' := [(4, .int (nI (k + 1))), (3, .int ((setF (fun s => soP pc (upd kd c.toNatClampNeg (nI s)) et ro rb rv rc) 0 k) ||| (bi (nI k)))), (0, .ref (a 0)), (1, .int c), (2, .int (kd c.toNatClampNeg))]) hx hb dX4_kinds_67 hl (k := 4) rfl (nI_add _ 1) (by decide) rfl (fun ls hl => ?_)
            refine lv_goto (tgt := 28) hx hb dX4_kinds_70 (by decide) ?_
            exact ih_6 (k + 1) (upd kd c.toNatClampNeg (nI k)) ((setF (fun s => soP pc (upd kd c.toNatClampNeg (nI s)) et ro rb rv rc) 0 k) ||| (bi (nI k))) (by omega) (fun _ => upd_upd _ _ _ _) (by first | exact setF_t0 (by assumption) | exact setF_f0 (by assumption)) (by omega) _ _ hP hD hS ls (lv_sub hl [2, 3, 4, 1, 0] rfl)
    exact key_5 _ 0 kd 0 (by omega) (fun _ => rfl) rfl (Nat.lt_succ_self _) _ _ hP hD hS ls (lv_sub hl [3, 4, 2, 1, 0] rfl)
  · have c_3 := b2_f c_3
    refine lv_iconst (v := (-1)) hx hb dX4_kinds_11 (by decide) ?_
    refine mi_ret (v := (-1)) hx hb hr hlk hP hD hS dX4_kinds_12 ?_
    exact ⟨by rw [kiR, if_neg c_3], rfl⟩
theorem iwX4_eatings_X0 : ∀ x ∈ wsX00, x ∈ wsX4_eatings := by decide +kernel
theorem iwX4_eatings_X4 : ∀ x ∈ wsX40, x ∈ wsX4_eatings := by decide +kernel
set_option maxRecDepth 100000 in
set_option maxHeartbeats 4000000 in
/-- X4_eatings -/
theorem c_X4_eatings (l : Launch) (D : va_G) (cI cJ cO : ClassId) (a : Nat → Nat) (ft : Int32) (tr : Int32) (h : Nat) (w : Nat) (pc : Int32) (br : Int32) (kd : Nat → Int32) (et : Nat → Int32) (nb : Nat → Int32) (rc : Nat) (ro : Nat → Int32) (rb : Nat → Int32) (rv : Nat → Int32) (c : Int32) (hn : h * w ≤ 16) (hro : ∀ k, k < rc → vp_in (ro k) 16) (hrc : rc ≤ 8) : MG l yX4_eatings wsX4_eatings 3 66 0 0 D [(cI, .int), (cJ, .long), (cO, .object "ShornHill$Sheet")] [.ref (a 0), .int c] [(a 0, .inr (4, [.ref (a 1), .ref (a 5), .ref (a 9), .ref (a 12), .int ft, .int tr])), (a 1, .inr (0, [.int (nI h), .int (nI w), .int pc, .int br, .ref (a 2), .ref (a 3), .ref (a 4)])), (a 2, .inl (cI, 16, .inl kd)), (a 3, .inl (cI, 16, .inl et)), (a 4, .inl (cI, 64, .inl nb)), (a 5, .inr (1, [.int (nI rc), .ref (a 6), .ref (a 7), .ref (a 8)])), (a 6, .inl (cI, 8, .inl ro)), (a 7, .inl (cI, 8, .inl rb)), (a 8, .inl (cI, 8, .inl rv))] (QI D (fun (r : Int32) (w1 : va_W) => r = (eaR (h * w) pc kd et rc ro rb rv c) ∧ w1 = [(a 0, .inr (4, [.ref (a 1), .ref (a 5), .ref (a 9), .ref (a 12), .int ft, .int tr])), (a 1, .inr (0, [.int (nI h), .int (nI w), .int pc, .int br, .ref (a 2), .ref (a 3), .ref (a 4)])), (a 2, .inl (cI, 16, .inl kd)), (a 3, .inl (cI, 16, .inl et)), (a 4, .inl (cI, 64, .inl nb)), (a 5, .inr (1, [.int (nI rc), .ref (a 6), .ref (a 7), .ref (a 8)])), (a 6, .inl (cI, 8, .inl ro)), (a 7, .inl (cI, 8, .inl rb)), (a 8, .inl (cI, 8, .inl rv))])) := by
  refine MG.of (cc := cX4_eatings) (maxL := 5) (ret := (some .int)) (by decide) rfl (Nat.le_of_ble_eq_true rfl) ?_
  intro P_ E_ S_ M_ B_ T_ K_ hx hb hml hr hts hown hlk hnm A hA hP hK hD hS ls hl
  have hl : lv_has ls 5 [(0, .ref (a 0)), (1, .int c)] := hl
  have hin0 : ∀ x ∈ u_ws RX0 TX0 7, x ∈ wsX4_eatings := iwX4_eatings_X0
  have hin4 : ∀ x ∈ u_ws RX4 TX4 6, x ∈ wsX4_eatings := iwX4_eatings_X4
  refine lv_aload_n hx hb dX4_eatings_0 rfl (lv_at hl 0 rfl) ?_
  refine va_get (D := D) (ci := 4) (v := .ref (a 1)) (C := RX4) (T := TX4) (N := 6) hx hb hts hin4 hown hK.1 hP 0 rfl rfl 0 (by decide) (hts _ (List.mem_of_getElem? (i := 1) rfl)) (fun _ h9 => h9) rfl dX4_eatings_1 ?_
  refine lv_iload_n hx hb dX4_eatings_4 rfl (lv_at hl 1 rfl) ?_
  refine k_ri (run_RN (As := [.int c]) (rest := []) ⟨hx, hb, hml, hown, hts⟩ (c_X0_isSoft l D cI cJ cO a h w pc br kd et nb c hn) ⟨va_cnB 1 hts ggX4_eatings_X0_isSoft rfl rfl rfl (nw_X4_100 hK) (hts _ (List.mem_of_getElem? (i := 4) rfl)) (by decide +kernel) ⟨Nat.le_of_ble_eq_true rfl, Nat.le_of_ble_eq_true rfl⟩, (hts _ (List.mem_of_getElem? (i := 3) rfl)), (hts _ (List.mem_of_getElem? (i := 5) rfl))⟩ hP hK [1, 2, 3, 4] rfl rfl rfl rfl rfl hl.1 rfl (Nat.le_of_ble_eq_true rfl) dX4_eatings_5 ⟨Nat.le_refl _, Nat.le_refl _⟩) (fun r_1 q_2 => ?_)
  obtain rfl := q_2
  refine lv_if_ne (tgt := 13) hx hb dX4_eatings_8 (by decide) (fun c_3 => ?_) (fun c_3 => ?_)
  · have c_3 := b2_t c_3
    refine lv_aload_n hx hb dX4_eatings_13 rfl (lv_at hl 0 rfl) ?_
    refine va_get (D := D) (ci := 4) (v := .ref (a 1)) (C := RX4) (T := TX4) (N := 6) hx hb hts hin4 hown hK.1 hP 0 rfl rfl 0 (by decide) (hts _ (List.mem_of_getElem? (i := 1) rfl)) (fun _ h9 => h9) rfl dX4_eatings_14 ?_
    refine va_getN (D := D) (ci := 0) (v := .ref (a 3)) (C := RX0) (T := TX0) (N := 7) hx hb hts hin0 hown hK.1 hP 1 rfl rfl 5 (by decide) (va_Nw.use rfl (nw_X4_97 hK)) (fun _ h9 => h9) rfl dX4_eatings_17 ?_
    refine lv_iload_n hx hb dX4_eatings_20 rfl (lv_at hl 1 rfl) ?_
    refine k_iald hx hb hK hP 3 0 rfl rfl (j := c.toNatClampNeg) (inN.vp c_3.1 (by omega)) rfl dX4_eatings_21 ?_
    refine lv_istore_n (lv' := [(2, .int (et c.toNatClampNeg)), (0, .ref (a 0)), (1, .int c)]) hx hb dX4_eatings_22 rfl hl (by decide) rfl (fun ls hl => ?_)
    refine lv_iconst (v := 0) hx hb dX4_eatings_23 (by decide) ?_
    refine lv_istore_n (lv' := [(3, .int 0), (2, .int (et c.toNatClampNeg)), (0, .ref (a 0)), (1, .int c)]) hx hb dX4_eatings_24 rfl hl (by decide) rfl (fun ls hl => ?_)
    refine lv_iconst (v := 0) hx hb dX4_eatings_25 (by decide) ?_
    refine lv_istore (lv' := [(4, .int 0), (3, .int 0), (2, .int (et c.toNatClampNeg)), (0, .ref (a 0)), (1, .int c)]) hx hb dX4_eatings_26 hl (by decide) rfl (fun ls hl => ?_)
    have key_5 : ∀ (n_4 : Nat) (k : Nat) (g : Nat → Int32) (x3_n_4 : Int32), (k ≤ 10) → (∀ v, upd g c.toNatClampNeg v = upd et c.toNatClampNeg v) → x3_n_4 = (setF (fun s => soP pc kd (upd et c.toNatClampNeg (nI s)) ro rb rv rc) 0 k) → 10 - k < n_4 → ∀ (H : Heap) (locs : List Loc), va_P D vwCl [(a 0, .inr (4, [.ref (a 1), .ref (a 5), .ref (a 9), .ref (a 12), .int ft, .int tr])), (a 1, .inr (0, [.int (nI h), .int (nI w), .int pc, .int br, .ref (a 2), .ref (a 3), .ref (a 4)])), (a 2, .inl (cI, 16, .inl kd)), (a 3, .inl (cI, 16, .inl g)), (a 4, .inl (cI, 64, .inl nb)), (a 5, .inr (1, [.int (nI rc), .ref (a 6), .ref (a 7), .ref (a 8)])), (a 6, .inl (cI, 8, .inl ro)), (a 7, .inl (cI, 8, .inl rb)), (a 8, .inl (cI, 8, .inl rv))] H → va_D A [(a 0, .inr (4, [.ref (a 1), .ref (a 5), .ref (a 9), .ref (a 12), .int ft, .int tr])), (a 1, .inr (0, [.int (nI h), .int (nI w), .int pc, .int br, .ref (a 2), .ref (a 3), .ref (a 4)])), (a 2, .inl (cI, 16, .inl kd)), (a 3, .inl (cI, 16, .inl g)), (a 4, .inl (cI, 64, .inl nb)), (a 5, .inr (1, [.int (nI rc), .ref (a 6), .ref (a 7), .ref (a 8)])), (a 6, .inl (cI, 8, .inl ro)), (a 7, .inl (cI, 8, .inl rb)), (a 8, .inl (cI, 8, .inl rv))] → va_S A S_.heap H locs → ∀ ls : Array Slot, lv_has ls 5 [(0, .ref (a 0)), (1, .int c), (2, .int (et c.toNatClampNeg)), (3, .int x3_n_4), (4, .int (nI k))] → W P_ l E_ ({ frames := 3, cells := 0, slots := 0, locals := 66 } : Room) S_ M_ (([.ref (a 0), .int c] : List Value).toArray) B_ T_ K_ H locs 0 0 (MQ B_ ((QI D (fun (r : Int32) (w1 : va_W) => r = (eaR (h * w) pc kd et rc ro rb rv c) ∧ w1 = [(a 0, .inr (4, [.ref (a 1), .ref (a 5), .ref (a 9), .ref (a 12), .int ft, .int tr])), (a 1, .inr (0, [.int (nI h), .int (nI w), .int pc, .int br, .ref (a 2), .ref (a 3), .ref (a 4)])), (a 2, .inl (cI, 16, .inl kd)), (a 3, .inl (cI, 16, .inl et)), (a 4, .inl (cI, 64, .inl nb)), (a 5, .inr (1, [.int (nI rc), .ref (a 6), .ref (a 7), .ref (a 8)])), (a 6, .inl (cI, 8, .inl ro)), (a 7, .inl (cI, 8, .inl rb)), (a 8, .inl (cI, 8, .inl rv))])) A) (([.ref (a 0), .int c] : List Value).toArray) S_ 0 0 A) (F0 M_ 28 ls []) := by
      intro n_4
      induction n_4 with
      | zero =>
        intro k g x3_n_4 hk hg e_x3_n_4 hmu_n_4
        exact absurd hmu_n_4 (Nat.not_lt_zero _)
      | succ n_4 ih_6 =>
        intro k g x3_n_4 hk hg e_x3_n_4 hmu_n_4 H locs hP hD hS ls hl
        subst e_x3_n_4
        have hl : lv_has ls 5 [(0, .ref (a 0)), (1, .int c), (2, .int (et c.toNatClampNeg)), (3, .int (setF (fun s => soP pc kd (upd et c.toNatClampNeg (nI s)) ro rb rv rc) 0 k)), (4, .int (nI k))] := hl
        have hP : va_P D vwCl [(a 0, .inr (4, [.ref (a 1), .ref (a 5), .ref (a 9), .ref (a 12), .int ft, .int tr])), (a 1, .inr (0, [.int (nI h), .int (nI w), .int pc, .int br, .ref (a 2), .ref (a 3), .ref (a 4)])), (a 2, .inl (cI, 16, .inl kd)), (a 3, .inl (cI, 16, .inl g)), (a 4, .inl (cI, 64, .inl nb)), (a 5, .inr (1, [.int (nI rc), .ref (a 6), .ref (a 7), .ref (a 8)])), (a 6, .inl (cI, 8, .inl ro)), (a 7, .inl (cI, 8, .inl rb)), (a 8, .inl (cI, 8, .inl rv))] H := hP
        have hD : va_D A [(a 0, .inr (4, [.ref (a 1), .ref (a 5), .ref (a 9), .ref (a 12), .int ft, .int tr])), (a 1, .inr (0, [.int (nI h), .int (nI w), .int pc, .int br, .ref (a 2), .ref (a 3), .ref (a 4)])), (a 2, .inl (cI, 16, .inl kd)), (a 3, .inl (cI, 16, .inl g)), (a 4, .inl (cI, 64, .inl nb)), (a 5, .inr (1, [.int (nI rc), .ref (a 6), .ref (a 7), .ref (a 8)])), (a 6, .inl (cI, 8, .inl ro)), (a 7, .inl (cI, 8, .inl rb)), (a 8, .inl (cI, 8, .inl rv))] := hD
        refine lv_iload hx hb dX4_eatings_28 (lv_at hl 4 rfl) ?_
        refine lv_bipush (v := 9) hx hb dX4_eatings_30 (by decide) ?_
        refine lv_icmp_gt (tgt := 74) hx hb dX4_eatings_32 (by decide) (fun c_7 => ?_) (fun c_7 => ?_)
        · have c_7 : 9 < k := (nI_ltI (a := 9) (b := k) (by omega) (by omega)).mp c_7
          refine lv_aload_n hx hb dX4_eatings_74 rfl (lv_at hl 0 rfl) ?_
          refine va_get (D := D) (ci := 4) (v := .ref (a 1)) (C := RX4) (T := TX4) (N := 6) hx hb hts hin4 hown hK.1 hP 0 rfl rfl 0 (by decide) (hts _ (List.mem_of_getElem? (i := 1) rfl)) (fun _ h9 => h9) rfl dX4_eatings_75 ?_
          refine va_getN (D := D) (ci := 0) (v := .ref (a 3)) (C := RX0) (T := TX0) (N := 7) hx hb hts hin0 hown hK.1 hP 1 rfl rfl 5 (by decide) (va_Nw.use rfl (nw_X4_97 hK)) (fun _ h9 => h9) rfl dX4_eatings_78 ?_
          refine lv_iload_n hx hb dX4_eatings_81 rfl (lv_at hl 1 rfl) ?_
          refine lv_iload_n hx hb dX4_eatings_82 rfl (lv_at hl 2 rfl) ?_
          refine k_iast hx hb hK hP hD hS 3 0 rfl rfl (j := c.toNatClampNeg) (inN.vp c_3.1 (by omega)) rfl dX4_eatings_83 (fun H locs hP hD hS => ?_)
          have hP : va_P D vwCl [(a 0, .inr (4, [.ref (a 1), .ref (a 5), .ref (a 9), .ref (a 12), .int ft, .int tr])), (a 1, .inr (0, [.int (nI h), .int (nI w), .int pc, .int br, .ref (a 2), .ref (a 3), .ref (a 4)])), (a 2, .inl (cI, 16, .inl kd)), (a 3, .inl (cI, 16, .inl (upd g c.toNatClampNeg (et c.toNatClampNeg)))), (a 4, .inl (cI, 64, .inl nb)), (a 5, .inr (1, [.int (nI rc), .ref (a 6), .ref (a 7), .ref (a 8)])), (a 6, .inl (cI, 8, .inl ro)), (a 7, .inl (cI, 8, .inl rb)), (a 8, .inl (cI, 8, .inl rv))] H := hP
          have hD : va_D A [(a 0, .inr (4, [.ref (a 1), .ref (a 5), .ref (a 9), .ref (a 12), .int ft, .int tr])), (a 1, .inr (0, [.int (nI h), .int (nI w), .int pc, .int br, .ref (a 2), .ref (a 3), .ref (a 4)])), (a 2, .inl (cI, 16, .inl kd)), (a 3, .inl (cI, 16, .inl (upd g c.toNatClampNeg (et c.toNatClampNeg)))), (a 4, .inl (cI, 64, .inl nb)), (a 5, .inr (1, [.int (nI rc), .ref (a 6), .ref (a 7), .ref (a 8)])), (a 6, .inl (cI, 8, .inl ro)), (a 7, .inl (cI, 8, .inl rb)), (a 8, .inl (cI, 8, .inl rv))] := hD
          rw [show (upd g c.toNatClampNeg (et c.toNatClampNeg)) = et from (by rw [hg]; exact upd_self _ _)] at hP hD
          refine lv_iload_n hx hb dX4_eatings_84 rfl (lv_at hl 3 rfl) ?_
          refine mi_ret (v := (setF (fun s => soP pc kd (upd et c.toNatClampNeg (nI s)) ro rb rv rc) 0 k)) hx hb hr hlk hP hD hS dX4_eatings_85 ?_
          refine ⟨?_, rfl⟩
          rw [eaR, if_pos c_3, show k = 10 by omega]
        · have c_7 : k ≤ 9 := Nat.le_of_not_lt (fun z => c_7 ((nI_ltI (a := 9) (b := k) (by omega) (by omega)).mpr z))
          refine lv_aload_n hx hb dX4_eatings_35 rfl (lv_at hl 0 rfl) ?_
          refine va_get (D := D) (ci := 4) (v := .ref (a 1)) (C := RX4) (T := TX4) (N := 6) hx hb hts hin4 hown hK.1 hP 0 rfl rfl 0 (by decide) (hts _ (List.mem_of_getElem? (i := 1) rfl)) (fun _ h9 => h9) rfl dX4_eatings_36 ?_
          refine va_getN (D := D) (ci := 0) (v := .ref (a 3)) (C := RX0) (T := TX0) (N := 7) hx hb hts hin0 hown hK.1 hP 1 rfl rfl 5 (by decide) (va_Nw.use rfl (nw_X4_97 hK)) (fun _ h9 => h9) rfl dX4_eatings_39 ?_
          refine lv_iload_n hx hb dX4_eatings_42 rfl (lv_at hl 1 rfl) ?_
          refine lv_iload hx hb dX4_eatings_43 (lv_at hl 4 rfl) ?_
          refine k_iast hx hb hK hP hD hS 3 0 rfl rfl (j := c.toNatClampNeg) (inN.vp c_3.1 (by omega)) rfl dX4_eatings_45 (fun H locs hP hD hS => ?_)
          have hP : va_P D vwCl [(a 0, .inr (4, [.ref (a 1), .ref (a 5), .ref (a 9), .ref (a 12), .int ft, .int tr])), (a 1, .inr (0, [.int (nI h), .int (nI w), .int pc, .int br, .ref (a 2), .ref (a 3), .ref (a 4)])), (a 2, .inl (cI, 16, .inl kd)), (a 3, .inl (cI, 16, .inl (upd g c.toNatClampNeg (nI k)))), (a 4, .inl (cI, 64, .inl nb)), (a 5, .inr (1, [.int (nI rc), .ref (a 6), .ref (a 7), .ref (a 8)])), (a 6, .inl (cI, 8, .inl ro)), (a 7, .inl (cI, 8, .inl rb)), (a 8, .inl (cI, 8, .inl rv))] H := hP
          have hD : va_D A [(a 0, .inr (4, [.ref (a 1), .ref (a 5), .ref (a 9), .ref (a 12), .int ft, .int tr])), (a 1, .inr (0, [.int (nI h), .int (nI w), .int pc, .int br, .ref (a 2), .ref (a 3), .ref (a 4)])), (a 2, .inl (cI, 16, .inl kd)), (a 3, .inl (cI, 16, .inl (upd g c.toNatClampNeg (nI k)))), (a 4, .inl (cI, 64, .inl nb)), (a 5, .inr (1, [.int (nI rc), .ref (a 6), .ref (a 7), .ref (a 8)])), (a 6, .inl (cI, 8, .inl ro)), (a 7, .inl (cI, 8, .inl rb)), (a 8, .inl (cI, 8, .inl rv))] := hD
          rw [show (upd g c.toNatClampNeg (nI k)) = (upd et c.toNatClampNeg (nI k)) from (hg _)] at hP hD
          refine lv_aload_n hx hb dX4_eatings_46 rfl (lv_at hl 0 rfl) ?_
          refine va_get (D := D) (ci := 4) (v := .ref (a 5)) (C := RX4) (T := TX4) (N := 6) hx hb hts hin4 hown hK.1 hP 0 rfl rfl 1 (by decide) (hts _ (List.mem_of_getElem? (i := 2) rfl)) (fun _ h9 => h9) rfl dX4_eatings_47 ?_
          refine lv_aload_n hx hb dX4_eatings_50 rfl (lv_at hl 0 rfl) ?_
          refine va_get (D := D) (ci := 4) (v := .ref (a 1)) (C := RX4) (T := TX4) (N := 6) hx hb hts hin4 hown hK.1 hP 0 rfl rfl 0 (by decide) (hts _ (List.mem_of_getElem? (i := 1) rfl)) (fun _ h9 => h9) rfl dX4_eatings_51 ?_
          refine k_ri (run_RN (As := [.ref (a 1)]) (rest := []) ⟨hx, hb, hml, hown, hts⟩ (c_X1_areSo l D cI cJ cO a h w pc br kd (upd et c.toNatClampNeg (nI k)) nb rc ro rb rv hro hrc) ⟨va_cnB 1 hts ggX4_eatings_X1_areSo rfl rfl rfl (nw_X4_165 hK) (hts _ (List.mem_of_getElem? (i := 19) rfl)) (by decide +kernel) ⟨Nat.le_of_ble_eq_true rfl, Nat.le_of_ble_eq_true rfl⟩, (hts _ (List.mem_of_getElem? (i := 18) rfl)), (hts _ (List.mem_of_getElem? (i := 20) rfl))⟩ hP hK [5, 6, 7, 8, 1, 2, 3, 4] rfl rfl rfl rfl rfl hl.1 rfl (Nat.le_of_ble_eq_true rfl) dX4_eatings_54 ⟨Nat.le_refl _, Nat.le_refl _⟩) (fun r_8 q_9 => ?_)
          obtain rfl := q_9
          refine lv_if_eq (tgt := 68) hx hb dX4_eatings_57 (by decide) (fun c_10 => ?_) (fun c_10 => ?_)
          · have c_10 := b2_f c_10
            refine lv_iinc (v := (nI (k + 1))) (lv' := [(4, .int (nI (k + 1))), (0, .ref (a 0)), (1, .int c), (2, .int (et c.toNatClampNeg)), (3, .int (setF (fun s => soP pc kd (upd et c.toNatClampNeg (nI s)) ro rb rv rc) 0 k))]) hx hb dX4_eatings_68 hl (k := 4) rfl (nI_add _ 1) (by decide) rfl (fun ls hl => ?_)
            refine lv_goto (tgt := 28) hx hb dX4_eatings_71 (by decide) ?_
            exact ih_6 (k + 1) (upd et c.toNatClampNeg (nI k)) (setF (fun s => soP pc kd (upd et c.toNatClampNeg (nI s)) ro rb rv rc) 0 k) (by omega) (fun _ => upd_upd _ _ _ _) (by first | exact setF_t0 (by assumption) | exact setF_f0 (by assumption)) (by omega) _ _ hP hD hS ls (lv_sub hl [1, 2, 3, 4, 0] rfl)
          · have c_10 := b2_t c_10
            refine lv_iload_n hx hb dX4_eatings_60 rfl (lv_at hl 3 rfl) ?_
            refine lv_iload hx hb dX4_eatings_61 (lv_at hl 4 rfl) ?_
            refine k_ri (run_RS (As := [.int (nI k)]) (rest := [.int (setF (fun s => soP pc kd (upd et c.toNatClampNeg (nI s)) ro rb rv rc) 0 k)]) ⟨hx, hb, hml, hown, hts⟩ (c_X4_bit l D cI cJ cO (nI k)) (va_cwS 1 hts gX4_eatings_X4_bit rfl rfl rfl (by decide +kernel) ⟨Nat.le_of_ble_eq_true rfl, Nat.le_of_ble_eq_true rfl⟩) hP hK [] rfl rfl hl.1 rfl (Nat.le_of_ble_eq_true rfl) dX4_eatings_63 ⟨Nat.le_refl _, Nat.le_refl _⟩) (fun r_11 q_12 => ?_)
            obtain rfl := q_12
            refine lv_ior hx hb dX4_eatings_66 ?_
            refine lv_istore_n (lv' := [(3, .int ((setF (fun s => soP pc kd (upd et c.toNatClampNeg (nI s)) ro rb rv rc) 0 k) ||| (bi (nI k)))), (0, .ref (a 0)), (1, .int c), (2, .int (et c.toNatClampNeg)), (4, .int (nI k))]) hx hb dX4_eatings_67 rfl hl (by decide) rfl (fun ls hl => ?_)
            refine lv_iinc (v := (nI (k + 1))) (lv' := [(4, .int (nI (k + 1))), (3, .int ((setF (fun s => soP pc kd (upd et c.toNatClampNeg (nI s)) ro rb rv rc) 0 k) ||| (bi (nI k)))), (0, .ref (a 0)), (1, .int c), (2, .int (et c.toNatClampNeg))]) hx hb dX4_eatings_68 hl (k := 4) rfl (nI_add _ 1) (by decide) rfl (fun ls hl => ?_)
            refine lv_goto (tgt := 28) hx hb dX4_eatings_71 (by decide) ?_
            exact ih_6 (k + 1) (upd et c.toNatClampNeg (nI k)) ((setF (fun s => soP pc kd (upd et c.toNatClampNeg (nI s)) ro rb rv rc) 0 k) ||| (bi (nI k))) (by omega) (fun _ => upd_upd _ _ _ _) (by first | exact setF_t0 (by assumption) | exact setF_f0 (by assumption)) (by omega) _ _ hP hD hS ls (lv_sub hl [2, 3, 4, 1, 0] rfl)
    exact key_5 _ 0 et 0 (by omega) (fun _ => rfl) rfl (Nat.lt_succ_self _) _ _ hP hD hS ls (lv_sub hl [3, 4, 2, 1, 0] rfl)
  · have c_3 := b2_f c_3
    refine lv_iconst (v := (-1)) hx hb dX4_eatings_11 (by decide) ?_
    refine mi_ret (v := (-1)) hx hb hr hlk hP hD hS dX4_eatings_12 ?_
    exact ⟨by rw [eaR, if_neg c_3], rfl⟩
theorem iwX4_paces_X0 : ∀ x ∈ wsX00, x ∈ wsX4_paces := by decide +kernel
theorem iwX4_paces_X4 : ∀ x ∈ wsX40, x ∈ wsX4_paces := by decide +kernel
set_option maxRecDepth 100000 in
set_option maxHeartbeats 4000000 in
/-- X4_paces -/
theorem c_X4_paces (l : Launch) (D : va_G) (cI cJ cO : ClassId) (a : Nat → Nat) (ft : Int32) (tr : Int32) (h : Nat) (w : Nat) (pc : Int32) (br : Int32) (kd : Nat → Int32) (et : Nat → Int32) (nb : Nat → Int32) (rc : Nat) (ro : Nat → Int32) (rb : Nat → Int32) (rv : Nat → Int32) (hh : h ≤ 4) (hro : ∀ k, k < rc → vp_in (ro k) 16) (hrc : rc ≤ 8) : MG l yX4_paces wsX4_paces 3 66 0 0 D [(cI, .int), (cJ, .long), (cO, .object "ShornHill$Sheet")] [.ref (a 0)] [(a 0, .inr (4, [.ref (a 1), .ref (a 5), .ref (a 9), .ref (a 12), .int ft, .int tr])), (a 1, .inr (0, [.int (nI h), .int (nI w), .int pc, .int br, .ref (a 2), .ref (a 3), .ref (a 4)])), (a 2, .inl (cI, 16, .inl kd)), (a 3, .inl (cI, 16, .inl et)), (a 4, .inl (cI, 64, .inl nb)), (a 5, .inr (1, [.int (nI rc), .ref (a 6), .ref (a 7), .ref (a 8)])), (a 6, .inl (cI, 8, .inl ro)), (a 7, .inl (cI, 8, .inl rb)), (a 8, .inl (cI, 8, .inl rv))] (QI D (fun (r : Int32) (w1 : va_W) => r = (psR h kd et rc ro rb rv) ∧ w1 = [(a 0, .inr (4, [.ref (a 1), .ref (a 5), .ref (a 9), .ref (a 12), .int ft, .int tr])), (a 1, .inr (0, [.int (nI h), .int (nI w), .int pc, .int br, .ref (a 2), .ref (a 3), .ref (a 4)])), (a 2, .inl (cI, 16, .inl kd)), (a 3, .inl (cI, 16, .inl et)), (a 4, .inl (cI, 64, .inl nb)), (a 5, .inr (1, [.int (nI rc), .ref (a 6), .ref (a 7), .ref (a 8)])), (a 6, .inl (cI, 8, .inl ro)), (a 7, .inl (cI, 8, .inl rb)), (a 8, .inl (cI, 8, .inl rv))])) := by
  refine MG.of (cc := cX4_paces) (maxL := 4) (ret := (some .int)) (by decide) rfl (Nat.le_of_ble_eq_true rfl) ?_
  intro P_ E_ S_ M_ B_ T_ K_ hx hb hml hr hts hown hlk hnm A hA hP hK hD hS ls hl
  have hl : lv_has ls 4 [(0, .ref (a 0))] := hl
  have hin0 : ∀ x ∈ u_ws RX0 TX0 7, x ∈ wsX4_paces := iwX4_paces_X0
  have hin4 : ∀ x ∈ u_ws RX4 TX4 6, x ∈ wsX4_paces := iwX4_paces_X4
  refine lv_aload_n hx hb dX4_paces_0 rfl (lv_at hl 0 rfl) ?_
  refine va_get (D := D) (ci := 4) (v := .ref (a 1)) (C := RX4) (T := TX4) (N := 6) hx hb hts hin4 hown hK.1 hP 0 rfl rfl 0 (by decide) (hts _ (List.mem_of_getElem? (i := 1) rfl)) (fun _ h9 => h9) rfl dX4_paces_1 ?_
  refine k_ri (run_RN (As := []) (rest := []) ⟨hx, hb, hml, hown, hts⟩ (c_X0_stands l D cI cJ cO a h w pc br kd et nb hh) ⟨va_cnB 0 hts ggX4_paces_X0_stands rfl rfl rfl (nw_X4_106 hK) (hts _ (List.mem_of_getElem? (i := 4) rfl)) (by decide +kernel) ⟨Nat.le_of_ble_eq_true rfl, Nat.le_of_ble_eq_true rfl⟩, (hts _ (List.mem_of_getElem? (i := 3) rfl)), (hts _ (List.mem_of_getElem? (i := 5) rfl))⟩ hP hK [1, 2, 3, 4] rfl rfl rfl rfl rfl hl.1 rfl (Nat.le_of_ble_eq_true rfl) dX4_paces_4 ⟨Nat.le_refl _, Nat.le_refl _⟩) (fun r_1 q_2 => ?_)
  obtain rfl := q_2
  refine lv_if_ne (tgt := 13) hx hb dX4_paces_7 (by decide) (fun c_3 => ?_) (fun c_3 => ?_)
  · have c_3 := b2_t c_3
    refine lv_aload_n hx hb dX4_paces_13 rfl (lv_at hl 0 rfl) ?_
    refine va_get (D := D) (ci := 4) (v := .ref (a 1)) (C := RX4) (T := TX4) (N := 6) hx hb hts hin4 hown hK.1 hP 0 rfl rfl 0 (by decide) (hts _ (List.mem_of_getElem? (i := 1) rfl)) (fun _ h9 => h9) rfl dX4_paces_14 ?_
    refine va_getN (D := D) (ci := 0) (v := .int pc) (C := RX0) (T := TX0) (N := 7) hx hb hts hin0 hown hK.1 hP 1 rfl rfl 2 (by decide) (va_Nw.use rfl (nw_X4_110 hK)) (fun _ h9 => h9) rfl dX4_paces_17 ?_
    refine lv_istore_n (lv' := [(1, .int pc), (0, .ref (a 0))]) hx hb dX4_paces_20 rfl hl (by decide) rfl (fun ls hl => ?_)
    refine lv_iconst (v := 0) hx hb dX4_paces_21 (by decide) ?_
    refine lv_istore_n (lv' := [(2, .int 0), (1, .int pc), (0, .ref (a 0))]) hx hb dX4_paces_22 rfl hl (by decide) rfl (fun ls hl => ?_)
    refine lv_iconst (v := 1) hx hb dX4_paces_23 (by decide) ?_
    refine lv_istore_n (lv' := [(3, .int 1), (2, .int 0), (1, .int pc), (0, .ref (a 0))]) hx hb dX4_paces_24 rfl hl (by decide) rfl (fun ls hl => ?_)
    have key_5 : ∀ (n_4 : Nat) (k : Nat) (x : Int32) (x2_n_4 : Int32), (k ≤ 3) → x2_n_4 = (setF (fun s => soP (nI s) kd et ro rb rv rc) 1 k) → 3 - k < n_4 → ∀ (H : Heap) (locs : List Loc), va_P D vwCl [(a 0, .inr (4, [.ref (a 1), .ref (a 5), .ref (a 9), .ref (a 12), .int ft, .int tr])), (a 1, .inr (0, [.int (nI h), .int (nI w), .int x, .int br, .ref (a 2), .ref (a 3), .ref (a 4)])), (a 2, .inl (cI, 16, .inl kd)), (a 3, .inl (cI, 16, .inl et)), (a 4, .inl (cI, 64, .inl nb)), (a 5, .inr (1, [.int (nI rc), .ref (a 6), .ref (a 7), .ref (a 8)])), (a 6, .inl (cI, 8, .inl ro)), (a 7, .inl (cI, 8, .inl rb)), (a 8, .inl (cI, 8, .inl rv))] H → va_D A [(a 0, .inr (4, [.ref (a 1), .ref (a 5), .ref (a 9), .ref (a 12), .int ft, .int tr])), (a 1, .inr (0, [.int (nI h), .int (nI w), .int x, .int br, .ref (a 2), .ref (a 3), .ref (a 4)])), (a 2, .inl (cI, 16, .inl kd)), (a 3, .inl (cI, 16, .inl et)), (a 4, .inl (cI, 64, .inl nb)), (a 5, .inr (1, [.int (nI rc), .ref (a 6), .ref (a 7), .ref (a 8)])), (a 6, .inl (cI, 8, .inl ro)), (a 7, .inl (cI, 8, .inl rb)), (a 8, .inl (cI, 8, .inl rv))] → va_S A S_.heap H locs → ∀ ls : Array Slot, lv_has ls 4 [(0, .ref (a 0)), (1, .int pc), (2, .int x2_n_4), (3, .int (nI (1 + k)))] → W P_ l E_ ({ frames := 3, cells := 0, slots := 0, locals := 66 } : Room) S_ M_ (([.ref (a 0)] : List Value).toArray) B_ T_ K_ H locs 0 0 (MQ B_ ((QI D (fun (r : Int32) (w1 : va_W) => r = (psR h kd et rc ro rb rv) ∧ w1 = [(a 0, .inr (4, [.ref (a 1), .ref (a 5), .ref (a 9), .ref (a 12), .int ft, .int tr])), (a 1, .inr (0, [.int (nI h), .int (nI w), .int pc, .int br, .ref (a 2), .ref (a 3), .ref (a 4)])), (a 2, .inl (cI, 16, .inl kd)), (a 3, .inl (cI, 16, .inl et)), (a 4, .inl (cI, 64, .inl nb)), (a 5, .inr (1, [.int (nI rc), .ref (a 6), .ref (a 7), .ref (a 8)])), (a 6, .inl (cI, 8, .inl ro)), (a 7, .inl (cI, 8, .inl rb)), (a 8, .inl (cI, 8, .inl rv))])) A) (([.ref (a 0)] : List Value).toArray) S_ 0 0 A) (F0 M_ 25 ls []) := by
      intro n_4
      induction n_4 with
      | zero =>
        intro k x x2_n_4 hk e_x2_n_4 hmu_n_4
        exact absurd hmu_n_4 (Nat.not_lt_zero _)
      | succ n_4 ih_6 =>
        intro k x x2_n_4 hk e_x2_n_4 hmu_n_4 H locs hP hD hS ls hl
        subst e_x2_n_4
        have hl : lv_has ls 4 [(0, .ref (a 0)), (1, .int pc), (2, .int (setF (fun s => soP (nI s) kd et ro rb rv rc) 1 k)), (3, .int (nI (1 + k)))] := hl
        have hP : va_P D vwCl [(a 0, .inr (4, [.ref (a 1), .ref (a 5), .ref (a 9), .ref (a 12), .int ft, .int tr])), (a 1, .inr (0, [.int (nI h), .int (nI w), .int x, .int br, .ref (a 2), .ref (a 3), .ref (a 4)])), (a 2, .inl (cI, 16, .inl kd)), (a 3, .inl (cI, 16, .inl et)), (a 4, .inl (cI, 64, .inl nb)), (a 5, .inr (1, [.int (nI rc), .ref (a 6), .ref (a 7), .ref (a 8)])), (a 6, .inl (cI, 8, .inl ro)), (a 7, .inl (cI, 8, .inl rb)), (a 8, .inl (cI, 8, .inl rv))] H := hP
        have hD : va_D A [(a 0, .inr (4, [.ref (a 1), .ref (a 5), .ref (a 9), .ref (a 12), .int ft, .int tr])), (a 1, .inr (0, [.int (nI h), .int (nI w), .int x, .int br, .ref (a 2), .ref (a 3), .ref (a 4)])), (a 2, .inl (cI, 16, .inl kd)), (a 3, .inl (cI, 16, .inl et)), (a 4, .inl (cI, 64, .inl nb)), (a 5, .inr (1, [.int (nI rc), .ref (a 6), .ref (a 7), .ref (a 8)])), (a 6, .inl (cI, 8, .inl ro)), (a 7, .inl (cI, 8, .inl rb)), (a 8, .inl (cI, 8, .inl rv))] := hD
        refine lv_iload_n hx hb dX4_paces_25 rfl (lv_at hl 3 rfl) ?_
        refine lv_iconst (v := 3) hx hb dX4_paces_26 (by decide) ?_
        refine lv_icmp_gt (tgt := 65) hx hb dX4_paces_27 (by decide) (fun c_7 => ?_) (fun c_7 => ?_)
        · have c_7 : 3 < 1 + k := (nI_ltI (a := 3) (b := 1 + k) (by omega) (by omega)).mp c_7
          refine lv_aload_n hx hb dX4_paces_65 rfl (lv_at hl 0 rfl) ?_
          refine va_get (D := D) (ci := 4) (v := .ref (a 1)) (C := RX4) (T := TX4) (N := 6) hx hb hts hin4 hown hK.1 hP 0 rfl rfl 0 (by decide) (hts _ (List.mem_of_getElem? (i := 1) rfl)) (fun _ h9 => h9) rfl dX4_paces_66 ?_
          refine lv_iload_n hx hb dX4_paces_69 rfl (lv_at hl 1 rfl) ?_
          refine va_putN (D := D) (ci := 0) (v := .int pc) (ty := .int) (C := RX0) (T := TX0) (N := 7) hx hb hts hin0 tyX0 tyX0_ok nmX0 hown hK.1 hP hD hS 1 rfl rfl 2 (by decide) (va_Nw.use rfl (nw_X4_110 hK)) (fun _ h9 => h9) rfl (by decide +kernel) rfl rfl (Nat.le_of_ble_eq_true rfl) dX4_paces_70 (fun H locs hP hD hS => ?_)
          have hP : va_P D vwCl [(a 0, .inr (4, [.ref (a 1), .ref (a 5), .ref (a 9), .ref (a 12), .int ft, .int tr])), (a 1, .inr (0, [.int (nI h), .int (nI w), .int pc, .int br, .ref (a 2), .ref (a 3), .ref (a 4)])), (a 2, .inl (cI, 16, .inl kd)), (a 3, .inl (cI, 16, .inl et)), (a 4, .inl (cI, 64, .inl nb)), (a 5, .inr (1, [.int (nI rc), .ref (a 6), .ref (a 7), .ref (a 8)])), (a 6, .inl (cI, 8, .inl ro)), (a 7, .inl (cI, 8, .inl rb)), (a 8, .inl (cI, 8, .inl rv))] H := hP
          have hD : va_D A [(a 0, .inr (4, [.ref (a 1), .ref (a 5), .ref (a 9), .ref (a 12), .int ft, .int tr])), (a 1, .inr (0, [.int (nI h), .int (nI w), .int pc, .int br, .ref (a 2), .ref (a 3), .ref (a 4)])), (a 2, .inl (cI, 16, .inl kd)), (a 3, .inl (cI, 16, .inl et)), (a 4, .inl (cI, 64, .inl nb)), (a 5, .inr (1, [.int (nI rc), .ref (a 6), .ref (a 7), .ref (a 8)])), (a 6, .inl (cI, 8, .inl ro)), (a 7, .inl (cI, 8, .inl rb)), (a 8, .inl (cI, 8, .inl rv))] := hD
          refine lv_iload_n hx hb dX4_paces_73 rfl (lv_at hl 2 rfl) ?_
          refine mi_ret (v := (setF (fun s => soP (nI s) kd et ro rb rv rc) 1 k)) hx hb hr hlk hP hD hS dX4_paces_74 ?_
          refine ⟨?_, rfl⟩
          rw [psR, if_neg (show ¬ h = 0 by omega), show k = 3 by omega]
        · have c_7 : 1 + k ≤ 3 := Nat.le_of_not_lt (fun z => c_7 ((nI_ltI (a := 3) (b := 1 + k) (by omega) (by omega)).mpr z))
          refine lv_aload_n hx hb dX4_paces_30 rfl (lv_at hl 0 rfl) ?_
          refine va_get (D := D) (ci := 4) (v := .ref (a 1)) (C := RX4) (T := TX4) (N := 6) hx hb hts hin4 hown hK.1 hP 0 rfl rfl 0 (by decide) (hts _ (List.mem_of_getElem? (i := 1) rfl)) (fun _ h9 => h9) rfl dX4_paces_31 ?_
          refine lv_iload_n hx hb dX4_paces_34 rfl (lv_at hl 3 rfl) ?_
          refine va_putN (D := D) (ci := 0) (v := .int (nI (1 + k))) (ty := .int) (C := RX0) (T := TX0) (N := 7) hx hb hts hin0 tyX0 tyX0_ok nmX0 hown hK.1 hP hD hS 1 rfl rfl 2 (by decide) (va_Nw.use rfl (nw_X4_110 hK)) (fun _ h9 => h9) rfl (by decide +kernel) rfl rfl (Nat.le_of_ble_eq_true rfl) dX4_paces_35 (fun H locs hP hD hS => ?_)
          have hP : va_P D vwCl [(a 0, .inr (4, [.ref (a 1), .ref (a 5), .ref (a 9), .ref (a 12), .int ft, .int tr])), (a 1, .inr (0, [.int (nI h), .int (nI w), .int (nI (1 + k)), .int br, .ref (a 2), .ref (a 3), .ref (a 4)])), (a 2, .inl (cI, 16, .inl kd)), (a 3, .inl (cI, 16, .inl et)), (a 4, .inl (cI, 64, .inl nb)), (a 5, .inr (1, [.int (nI rc), .ref (a 6), .ref (a 7), .ref (a 8)])), (a 6, .inl (cI, 8, .inl ro)), (a 7, .inl (cI, 8, .inl rb)), (a 8, .inl (cI, 8, .inl rv))] H := hP
          have hD : va_D A [(a 0, .inr (4, [.ref (a 1), .ref (a 5), .ref (a 9), .ref (a 12), .int ft, .int tr])), (a 1, .inr (0, [.int (nI h), .int (nI w), .int (nI (1 + k)), .int br, .ref (a 2), .ref (a 3), .ref (a 4)])), (a 2, .inl (cI, 16, .inl kd)), (a 3, .inl (cI, 16, .inl et)), (a 4, .inl (cI, 64, .inl nb)), (a 5, .inr (1, [.int (nI rc), .ref (a 6), .ref (a 7), .ref (a 8)])), (a 6, .inl (cI, 8, .inl ro)), (a 7, .inl (cI, 8, .inl rb)), (a 8, .inl (cI, 8, .inl rv))] := hD
          refine lv_aload_n hx hb dX4_paces_38 rfl (lv_at hl 0 rfl) ?_
          refine va_get (D := D) (ci := 4) (v := .ref (a 5)) (C := RX4) (T := TX4) (N := 6) hx hb hts hin4 hown hK.1 hP 0 rfl rfl 1 (by decide) (hts _ (List.mem_of_getElem? (i := 2) rfl)) (fun _ h9 => h9) rfl dX4_paces_39 ?_
          refine lv_aload_n hx hb dX4_paces_42 rfl (lv_at hl 0 rfl) ?_
          refine va_get (D := D) (ci := 4) (v := .ref (a 1)) (C := RX4) (T := TX4) (N := 6) hx hb hts hin4 hown hK.1 hP 0 rfl rfl 0 (by decide) (hts _ (List.mem_of_getElem? (i := 1) rfl)) (fun _ h9 => h9) rfl dX4_paces_43 ?_
          refine k_ri (run_RN (As := [.ref (a 1)]) (rest := []) ⟨hx, hb, hml, hown, hts⟩ (c_X1_areSo l D cI cJ cO a h w (nI (1 + k)) br kd et nb rc ro rb rv hro hrc) ⟨va_cnB 1 hts ggX4_paces_X1_areSo rfl rfl rfl (nw_X4_165 hK) (hts _ (List.mem_of_getElem? (i := 9) rfl)) (by decide +kernel) ⟨Nat.le_of_ble_eq_true rfl, Nat.le_of_ble_eq_true rfl⟩, (hts _ (List.mem_of_getElem? (i := 8) rfl)), (hts _ (List.mem_of_getElem? (i := 10) rfl))⟩ hP hK [5, 6, 7, 8, 1, 2, 3, 4] rfl rfl rfl rfl rfl hl.1 rfl (Nat.le_of_ble_eq_true rfl) dX4_paces_46 ⟨Nat.le_refl _, Nat.le_refl _⟩) (fun r_8 q_9 => ?_)
          obtain rfl := q_9
          refine lv_if_eq (tgt := 59) hx hb dX4_paces_49 (by decide) (fun c_10 => ?_) (fun c_10 => ?_)
          · have c_10 := b2_f c_10
            refine lv_iinc (v := (nI ((1 + k) + 1))) (lv' := [(3, .int (nI ((1 + k) + 1))), (0, .ref (a 0)), (1, .int pc), (2, .int (setF (fun s => soP (nI s) kd et ro rb rv rc) 1 k))]) hx hb dX4_paces_59 hl (k := 3) rfl (nI_add _ 1) (by decide) rfl (fun ls hl => ?_)
            refine lv_goto (tgt := 25) hx hb dX4_paces_62 (by decide) ?_
            exact ih_6 (k + 1) (nI (1 + k)) (setF (fun s => soP (nI s) kd et ro rb rv rc) 1 k) (by omega) (by first | exact setF_t (by assumption) | exact setF_f (by assumption)) (by omega) _ _ hP hD hS ls (lv_sub hl [1, 2, 3, 0] rfl)
          · have c_10 := b2_t c_10
            refine lv_iload_n hx hb dX4_paces_52 rfl (lv_at hl 2 rfl) ?_
            refine lv_iload_n hx hb dX4_paces_53 rfl (lv_at hl 3 rfl) ?_
            refine k_ri (run_RS (As := [.int (nI (1 + k))]) (rest := [.int (setF (fun s => soP (nI s) kd et ro rb rv rc) 1 k)]) ⟨hx, hb, hml, hown, hts⟩ (c_X4_bit l D cI cJ cO (nI (1 + k))) (va_cwS 1 hts gX4_paces_X4_bit rfl rfl rfl (by decide +kernel) ⟨Nat.le_of_ble_eq_true rfl, Nat.le_of_ble_eq_true rfl⟩) hP hK [] rfl rfl hl.1 rfl (Nat.le_of_ble_eq_true rfl) dX4_paces_54 ⟨Nat.le_refl _, Nat.le_refl _⟩) (fun r_11 q_12 => ?_)
            obtain rfl := q_12
            refine lv_ior hx hb dX4_paces_57 ?_
            refine lv_istore_n (lv' := [(2, .int ((setF (fun s => soP (nI s) kd et ro rb rv rc) 1 k) ||| (bi (nI (1 + k))))), (0, .ref (a 0)), (1, .int pc), (3, .int (nI (1 + k)))]) hx hb dX4_paces_58 rfl hl (by decide) rfl (fun ls hl => ?_)
            refine lv_iinc (v := (nI ((1 + k) + 1))) (lv' := [(3, .int (nI ((1 + k) + 1))), (2, .int ((setF (fun s => soP (nI s) kd et ro rb rv rc) 1 k) ||| (bi (nI (1 + k))))), (0, .ref (a 0)), (1, .int pc)]) hx hb dX4_paces_59 hl (k := 3) rfl (nI_add _ 1) (by decide) rfl (fun ls hl => ?_)
            refine lv_goto (tgt := 25) hx hb dX4_paces_62 (by decide) ?_
            exact ih_6 (k + 1) (nI (1 + k)) ((setF (fun s => soP (nI s) kd et ro rb rv rc) 1 k) ||| (bi (nI (1 + k)))) (by omega) (by first | exact setF_t (by assumption) | exact setF_f (by assumption)) (by omega) _ _ hP hD hS ls (lv_sub hl [2, 3, 1, 0] rfl)
    exact key_5 _ 0 pc 0 (by omega) rfl (Nat.lt_succ_self _) _ _ hP hD hS ls (lv_sub hl [3, 2, 1, 0] rfl)
  · have c_3 := b2_f c_3
    refine lv_bipush (v := (-3)) hx hb dX4_paces_10 (by decide) ?_
    refine mi_ret (v := (-3)) hx hb hr hlk hP hD hS dX4_paces_12 ?_
    exact ⟨by rw [psR, if_pos (show h = 0 by omega)], rfl⟩
