theorem c_X4_areStrokesI (l : Launch) (D : va_G) (cI cJ cO : ClassId) (r : Nat) (tx : Nat → Int32) (i : Int32) (n : Int32) (hsp : spP i n 60) : RG l yX4_areStrokes wsX4_areStrokes 0 0 D [(cI, .int), (cJ, .long), (cO, .object "ShornHill$Sheet")] [.ref r, .int i, .int n] [(r, .inl (cI, 60, .inl tx))] (vp_Si (fun (r : Int32) => r = (b2 (stP tx i.toNatClampNeg n.toNatClampNeg)))) := by
  obtain ⟨e1, e2, e3⟩ := sp_nat hsp
  generalize i.toNatClampNeg = zi at *
  generalize n.toNatClampNeg = zn at *
  subst e1
  subst e2
  exact c_X4_areStrokes l D cI cJ cO r zi zn tx e3
theorem c_X4_firstFaultI (l : Launch) (D : va_G) (cI cJ cO : ClassId) (r : Nat) (tx : Nat → Int32) (i : Int32) (n : Int32) (hsp : spP i n 60) : RG l yX4_firstFault wsX4_firstFault 2 41 D [(cI, .int), (cJ, .long), (cO, .object "ShornHill$Sheet")] [.ref r, .int i, .int n] [(r, .inl (cI, 60, .inl tx))] (vp_Si (fun (r : Int32) => r = (ffR tx i.toNatClampNeg n.toNatClampNeg))) := by
  obtain ⟨e1, e2, e3⟩ := sp_nat hsp
  generalize i.toNatClampNeg = zi at *
  generalize n.toNatClampNeg = zn at *
  subst e1
  subst e2
  exact c_X4_firstFault l D cI cJ cO r zi zn tx e3
theorem c_X4_followedI (l : Launch) (D : va_G) (cI cJ cO : ClassId) (a : Nat → Nat) (ft : Int32) (tr : Int32) (h : Nat) (w : Nat) (pc : Int32) (br : Int32) (kd : Nat → Int32) (et : Nat → Int32) (nb : Nat → Int32) (r : Nat) (tx : Nat → Int32) (i : Int32) (n : Int32) (ws : Int32) (c : Int32) (v : Int32) (hn : h * w ≤ 16) (hsp : spP i n 60) (hst : stP tx i.toNatClampNeg n.toNatClampNeg) (hnb : nbOk h w nb (h * w)) (hc : inN c (h * w)) : RG l yX4_followed wsX4_followed 4 89 D [(cI, .int), (cJ, .long), (cO, .object "ShornHill$Sheet")] [.ref (a 0), .int ws, .int c, .ref r, .int i, .int n, .int v] [(a 0, .inr (4, [.ref (a 1), .ref (a 5), .ref (a 9), .ref (a 12), .int ft, .int tr])), (a 1, .inr (0, [.int (nI h), .int (nI w), .int pc, .int br, .ref (a 2), .ref (a 3), .ref (a 4)])), (a 2, .inl (cI, 16, .inl kd)), (a 3, .inl (cI, 16, .inl et)), (a 4, .inl (cI, 64, .inl nb)), (r, .inl (cI, 60, .inl tx))] (vp_Si (fun (r : Int32) => r = (folR (pthR h w tx i.toNatClampNeg n.toNatClampNeg 0 c (wo (ripS pc br kd et ws (h * w)) c)).1 (pthR h w tx i.toNatClampNeg n.toNatClampNeg 0 c (wo (ripS pc br kd et ws (h * w)) c)).2.1 (pthR h w tx i.toNatClampNeg n.toNatClampNeg 0 c (wo (ripS pc br kd et ws (h * w)) c)).2.2 (ripS pc br kd et ws (h * w)) pc kd et ws (h * w) v))) := by
  obtain ⟨e1, e2, e3⟩ := sp_nat hsp
  generalize i.toNatClampNeg = zi at *
  generalize n.toNatClampNeg = zn at *
  subst e1
  subst e2
  exact c_X4_followed l D cI cJ cO a ft tr h w pc br kd et nb r zi zn tx ws c v hn e3 hst hnb hc
theorem c_X0_growI (l : Launch) (D : va_G) (cI cJ cO : ClassId) (r : Nat) (tx : Nat → Int32) (i : Int32) (n : Int32) (a : Nat → Nat) (h : Nat) (w : Nat) (pc : Int32) (br : Int32) (kd : Nat → Int32) (et : Nat → Int32) (nb : Nat → Int32) (hsp : spP i n 60) (h9 : ffR tx i.toNatClampNeg n.toNatClampNeg = -9) : MG l yX0_grow wsX0_grow 1 23 0 0 D [(cI, .int), (cJ, .long), (cO, .object "ShornHill$Sheet")] [.ref (a 1), .ref r, .int i] [(a 1, .inr (0, [.int (nI h), .int (nI w), .int pc, .int br, .ref (a 2), .ref (a 3), .ref (a 4)])), (a 2, .inl (cI, 16, .inl kd)), (a 3, .inl (cI, 16, .inl et)), (a 4, .inl (cI, 64, .inl nb)), (r, .inl (cI, 60, .inl tx))] (QV D (fun (w1 : va_W) => ∃ (nb2 : Nat → Int32), (nbOk (hN (tx (i.toNatClampNeg + 1))) (hN (tx (i.toNatClampNeg + 2))) nb2 (hN (tx (i.toNatClampNeg + 1)) * hN (tx (i.toNatClampNeg + 2)))) ∧ w1 = [(a 1, .inr (0, [.int (nI (hN (tx (i.toNatClampNeg + 1)))), .int (nI (hN (tx (i.toNatClampNeg + 2)))), .int (tx (i.toNatClampNeg + 3) - 48), .int (tx (i.toNatClampNeg + 4) - 48), .ref (a 2), .ref (a 3), .ref (a 4)])), (a 2, .inl (cI, 16, .inl (fil (kdT tx i.toNatClampNeg (hN (tx (i.toNatClampNeg + 2)))) kd (hN (tx (i.toNatClampNeg + 1)) * hN (tx (i.toNatClampNeg + 2)))))), (a 3, .inl (cI, 16, .inl (fil (fun _ => 0) et (hN (tx (i.toNatClampNeg + 1)) * hN (tx (i.toNatClampNeg + 2)))))), (a 4, .inl (cI, 64, .inl nb2)), (r, .inl (cI, 60, .inl tx))])) := by
  obtain ⟨e1, e2, e3⟩ := sp_nat hsp
  generalize i.toNatClampNeg = zi at *
  generalize n.toNatClampNeg = zn at *
  subst e1
  subst e2
  obtain ⟨d1, d2, ⟨l1, u1⟩, ⟨l2, u2⟩, ee, h16, -⟩ := text_ok (by omega) h9
  exact c_X0_grow l D cI cJ cO r zi tx a h w pc br kd et nb _ _ d1 d2 u1 u2 h16 (by omega)
theorem iwX4_path_X3 : ∀ x ∈ wsX30, x ∈ wsX4_path := by decide +kernel
theorem iwX4_path_X4 : ∀ x ∈ wsX40, x ∈ wsX4_path := by decide +kernel
set_option maxRecDepth 100000 in
set_option maxHeartbeats 4000000 in
/-- X4_path -/
theorem c_X4_path (l : Launch) (D : va_G) (cI cJ cO : ClassId) (a : Nat → Nat) (ft : Int32) (tr : Int32) (h : Nat) (w : Nat) (pc : Int32) (br : Int32) (kd : Nat → Int32) (et : Nat → Int32) (nb : Nat → Int32) (hs : Nat → Int32) (ln : Nat → Int32) (le : Nat → Nat) (rr : Nat → Nat → Int32) (ws : Int32) (c : Int32) (k : Int32) (x : Int32) (i : Int32) (n : Int32) (v : Int32) (kj : Nat) (hn : h * w ≤ 16) (hnb : nbOk h w nb (h * w)) (hle : ∀ z, z < 4 → le z ≤ 60) (hkj : k.toNatClampNeg = kj) : MG l yX4_path wsX4_path 5 121 0 0 D [(cI, .int), (cJ, .long), (cO, .object "ShornHill$Sheet")] [.ref (a 0), .int ws, .int c, .int k, .int x, .int i, .int n, .int v] [(a 0, .inr (4, [.ref (a 1), .ref (a 5), .ref (a 9), .ref (a 12), .int ft, .int tr])), (a 1, .inr (0, [.int (nI h), .int (nI w), .int pc, .int br, .ref (a 2), .ref (a 3), .ref (a 4)])), (a 2, .inl (cI, 16, .inl kd)), (a 3, .inl (cI, 16, .inl et)), (a 4, .inl (cI, 64, .inl nb)), (a 12, .inl (cO, 4, .inr (.inr (.inr (.inr (fun i => some (a (13 + 2 * i)))))))), (a (13 + 2 * 0), .inr (3, [.int (hs 0), .int (ln 0), .int (nI (le 0)), .ref (a (14 + 2 * 0))])), (a (14 + 2 * 0), .inl (cI, 60, .inl (rr 0))), (a (13 + 2 * 1), .inr (3, [.int (hs 1), .int (ln 1), .int (nI (le 1)), .ref (a (14 + 2 * 1))])), (a (14 + 2 * 1), .inl (cI, 60, .inl (rr 1))), (a (13 + 2 * 2), .inr (3, [.int (hs 2), .int (ln 2), .int (nI (le 2)), .ref (a (14 + 2 * 2))])), (a (14 + 2 * 2), .inl (cI, 60, .inl (rr 2))), (a (13 + 2 * 3), .inr (3, [.int (hs 3), .int (ln 3), .int (nI (le 3)), .ref (a (14 + 2 * 3))])), (a (14 + 2 * 3), .inl (cI, 60, .inl (rr 3)))] (QI D (fun (r : Int32) (w1 : va_W) => r = (ptR h w (h * w) pc br kd et hs ln le rr ws c k x i n v kj) ∧ w1 = [(a 0, .inr (4, [.ref (a 1), .ref (a 5), .ref (a 9), .ref (a 12), .int (ptE (h * w) pc br kd et hs ln le ws c k x i n v kj), .int tr])), (a 1, .inr (0, [.int (nI h), .int (nI w), .int pc, .int br, .ref (a 2), .ref (a 3), .ref (a 4)])), (a 2, .inl (cI, 16, .inl kd)), (a 3, .inl (cI, 16, .inl et)), (a 4, .inl (cI, 64, .inl nb)), (a 12, .inl (cO, 4, .inr (.inr (.inr (.inr (fun i => some (a (13 + 2 * i)))))))), (a (13 + 2 * 0), .inr (3, [.int (hs 0), .int (ln 0), .int (nI (le 0)), .ref (a (14 + 2 * 0))])), (a (14 + 2 * 0), .inl (cI, 60, .inl (rr 0))), (a (13 + 2 * 1), .inr (3, [.int (hs 1), .int (ln 1), .int (nI (le 1)), .ref (a (14 + 2 * 1))])), (a (14 + 2 * 1), .inl (cI, 60, .inl (rr 1))), (a (13 + 2 * 2), .inr (3, [.int (hs 2), .int (ln 2), .int (nI (le 2)), .ref (a (14 + 2 * 2))])), (a (14 + 2 * 2), .inl (cI, 60, .inl (rr 2))), (a (13 + 2 * 3), .inr (3, [.int (hs 3), .int (ln 3), .int (nI (le 3)), .ref (a (14 + 2 * 3))])), (a (14 + 2 * 3), .inl (cI, 60, .inl (rr 3)))])) := by
  refine MG.of (cc := cX4_path) (maxL := 11) (ret := (some .int)) (by decide) rfl (Nat.le_of_ble_eq_true rfl) ?_
  intro P_ E_ S_ M_ B_ T_ K_ hx hb hml hr hts hown hlk hnm A hA hP hK hD hS ls hl
  have hl : lv_has ls 11 [(0, .ref (a 0)), (1, .int ws), (2, .int c), (3, .int k), (4, .int x), (5, .int i), (6, .int n), (7, .int v)] := hl
  have hin3 : ∀ x ∈ u_ws RX3 TX3 4, x ∈ wsX4_path := iwX4_path_X3
  have hin4 : ∀ x ∈ u_ws RX4 TX4 6, x ∈ wsX4_path := iwX4_path_X4
  refine lv_aload_n hx hb dX4_path_0 rfl (lv_at hl 0 rfl) ?_
  refine lv_iconst (v := 0) hx hb dX4_path_1 (by decide) ?_
  refine va_put (D := D) (ci := 4) (v := .int 0) (ty := .int) (C := RX4) (T := TX4) (N := 6) hx hb hts hin4 tyX4 tyX4_ok nmX4 hown hK.1 hP hD hS 0 rfl rfl 4 (by decide) (hts _ (List.mem_of_getElem? (i := 1) rfl)) (fun _ h9 => h9) rfl (by decide +kernel) rfl rfl (Nat.le_of_ble_eq_true rfl) dX4_path_2 (fun H locs hP hD hS => ?_)
  have hP : va_P D vwCl [(a 0, .inr (4, [.ref (a 1), .ref (a 5), .ref (a 9), .ref (a 12), .int 0, .int tr])), (a 1, .inr (0, [.int (nI h), .int (nI w), .int pc, .int br, .ref (a 2), .ref (a 3), .ref (a 4)])), (a 2, .inl (cI, 16, .inl kd)), (a 3, .inl (cI, 16, .inl et)), (a 4, .inl (cI, 64, .inl nb)), (a 12, .inl (cO, 4, .inr (.inr (.inr (.inr (fun i => some (a (13 + 2 * i)))))))), (a (13 + 2 * 0), .inr (3, [.int (hs 0), .int (ln 0), .int (nI (le 0)), .ref (a (14 + 2 * 0))])), (a (14 + 2 * 0), .inl (cI, 60, .inl (rr 0))), (a (13 + 2 * 1), .inr (3, [.int (hs 1), .int (ln 1), .int (nI (le 1)), .ref (a (14 + 2 * 1))])), (a (14 + 2 * 1), .inl (cI, 60, .inl (rr 1))), (a (13 + 2 * 2), .inr (3, [.int (hs 2), .int (ln 2), .int (nI (le 2)), .ref (a (14 + 2 * 2))])), (a (14 + 2 * 2), .inl (cI, 60, .inl (rr 2))), (a (13 + 2 * 3), .inr (3, [.int (hs 3), .int (ln 3), .int (nI (le 3)), .ref (a (14 + 2 * 3))])), (a (14 + 2 * 3), .inl (cI, 60, .inl (rr 3)))] H := hP
  have hD : va_D A [(a 0, .inr (4, [.ref (a 1), .ref (a 5), .ref (a 9), .ref (a 12), .int 0, .int tr])), (a 1, .inr (0, [.int (nI h), .int (nI w), .int pc, .int br, .ref (a 2), .ref (a 3), .ref (a 4)])), (a 2, .inl (cI, 16, .inl kd)), (a 3, .inl (cI, 16, .inl et)), (a 4, .inl (cI, 64, .inl nb)), (a 12, .inl (cO, 4, .inr (.inr (.inr (.inr (fun i => some (a (13 + 2 * i)))))))), (a (13 + 2 * 0), .inr (3, [.int (hs 0), .int (ln 0), .int (nI (le 0)), .ref (a (14 + 2 * 0))])), (a (14 + 2 * 0), .inl (cI, 60, .inl (rr 0))), (a (13 + 2 * 1), .inr (3, [.int (hs 1), .int (ln 1), .int (nI (le 1)), .ref (a (14 + 2 * 1))])), (a (14 + 2 * 1), .inl (cI, 60, .inl (rr 1))), (a (13 + 2 * 2), .inr (3, [.int (hs 2), .int (ln 2), .int (nI (le 2)), .ref (a (14 + 2 * 2))])), (a (14 + 2 * 2), .inl (cI, 60, .inl (rr 2))), (a (13 + 2 * 3), .inr (3, [.int (hs 3), .int (ln 3), .int (nI (le 3)), .ref (a (14 + 2 * 3))])), (a (14 + 2 * 3), .inl (cI, 60, .inl (rr 3)))] := hD
  refine lv_aload_n hx hb dX4_path_5 rfl (lv_at hl 0 rfl) ?_
  refine va_get (D := D) (ci := 4) (v := .ref (a 1)) (C := RX4) (T := TX4) (N := 6) hx hb hts hin4 hown hK.1 hP 0 rfl rfl 0 (by decide) (hts _ (List.mem_of_getElem? (i := 2) rfl)) (fun _ h9 => h9) rfl dX4_path_6 ?_
  refine lv_iload_n hx hb dX4_path_9 rfl (lv_at hl 2 rfl) ?_
  refine k_ri (run_RN (As := [.int c]) (rest := []) ⟨hx, hb, hml, hown, hts⟩ (c_X0_has l D cI cJ cO a h w pc br kd et nb c hn) ⟨va_cnB 1 hts ggX4_path_X0_has rfl rfl rfl (nw_X4_88 hK) (hts _ (List.mem_of_getElem? (i := 5) rfl)) (by decide +kernel) ⟨Nat.le_of_ble_eq_true rfl, Nat.le_of_ble_eq_true rfl⟩, (hts _ (List.mem_of_getElem? (i := 4) rfl)), (hts _ (List.mem_of_getElem? (i := 6) rfl))⟩ hP hK [1, 2, 3, 4] rfl rfl rfl rfl rfl hl.1 rfl (Nat.le_of_ble_eq_true rfl) dX4_path_10 ⟨Nat.le_refl _, Nat.le_refl _⟩) (fun r_1 q_2 => ?_)
  obtain rfl := q_2
  refine lv_if_eq (tgt := 23) hx hb dX4_path_13 (by decide) (fun c_3 => ?_) (fun c_3 => ?_)
  · have c_3 := b2_f c_3
    refine lv_iconst (v := (-1)) hx hb dX4_path_23 (by decide) ?_
    refine mi_ret (v := (-1)) hx hb hr hlk hP hD hS dX4_path_24 ?_
    rw [show ptE (h * w) pc br kd et hs ln le ws c k x i n v kj = _ from by rw [ptE, if_neg (fun z => c_3 z.1)]]
    refine ⟨?_, rfl⟩
    rw [ptR, if_neg (fun z => c_3 z.1)] <;> rfl
  · have c_3 := b2_t c_3
    refine lv_iload_n hx hb dX4_path_16 rfl (lv_at hl 3 rfl) ?_
    refine k_ri (run_RS (As := [.int k]) (rest := []) ⟨hx, hb, hml, hown, hts⟩ (c_X4_isSheet l D cI cJ cO k) (va_cwS 1 hts gX4_path_X4_isSheet rfl rfl rfl (by decide +kernel) ⟨Nat.le_of_ble_eq_true rfl, Nat.le_of_ble_eq_true rfl⟩) hP hK [] rfl rfl hl.1 rfl (Nat.le_of_ble_eq_true rfl) dX4_path_17 ⟨Nat.le_refl _, Nat.le_refl _⟩) (fun r_4 q_5 => ?_)
    obtain rfl := q_5
    refine lv_if_ne (tgt := 25) hx hb dX4_path_20 (by decide) (fun c_6 => ?_) (fun c_6 => ?_)
    · have c_6 := b2_t c_6
      refine lv_iload hx hb dX4_path_25 (lv_at hl 4 rfl) ?_
      refine k_ri (run_RS (As := [.int x]) (rest := []) ⟨hx, hb, hml, hown, hts⟩ (c_X4_isLane l D cI cJ cO x) (va_cwS 1 hts gX4_path_X4_isLane rfl rfl rfl (by decide +kernel) ⟨Nat.le_of_ble_eq_true rfl, Nat.le_of_ble_eq_true rfl⟩) hP hK [] rfl rfl hl.1 rfl (Nat.le_of_ble_eq_true rfl) dX4_path_27 ⟨Nat.le_refl _, Nat.le_refl _⟩) (fun r_7 q_8 => ?_)
      obtain rfl := q_8
      refine lv_if_eq (tgt := 49) hx hb dX4_path_30 (by decide) (fun c_9 => ?_) (fun c_9 => ?_)
      · have c_9 := b2_f c_9
        refine lv_iconst (v := 0) hx hb dX4_path_49 (by decide) ?_
        refine lv_istore (lv' := [(8, .int 0), (0, .ref (a 0)), (1, .int ws), (2, .int c), (3, .int k), (4, .int x), (5, .int i), (6, .int n), (7, .int v)]) hx hb dX4_path_50 hl (by decide) rfl (fun ls hl => ?_)
        refine lv_iload_n hx hb dX4_path_52 rfl (lv_at hl 2 rfl) ?_
        refine k_ri (run_RS (As := [.int ws]) (rest := []) ⟨hx, hb, hml, hown, hts⟩ (c_X4_isWeeks l D cI cJ cO ws) (va_cwS 1 hts gX4_path_X4_isWeeks rfl rfl rfl (by decide +kernel) ⟨Nat.le_of_ble_eq_true rfl, Nat.le_of_ble_eq_true rfl⟩) hP hK [] rfl rfl hl.1 rfl (Nat.le_of_ble_eq_true rfl) dX4_path_53 ⟨Nat.le_refl _, Nat.le_refl _⟩) (fun r_10 q_11 => ?_)
        obtain rfl := q_11
        refine lv_if_eq (tgt := 75) hx hb dX4_path_56 (by decide) (fun c_12 => ?_) (fun c_12 => ?_)
        · have c_12 := b2_f c_12
          refine lv_bipush (v := (-2)) hx hb dX4_path_75 (by decide) ?_
          refine mi_ret (v := (-2)) hx hb hr hlk hP hD hS dX4_path_77 ?_
          rw [show ptE (h * w) pc br kd et hs ln le ws c k x i n v kj = _ from by rw [ptE, if_pos ⟨c_3, c_6⟩, if_neg (fun z => c_12 z.1)]]
          refine ⟨?_, rfl⟩
          rw [ptR, if_pos ⟨c_3, c_6⟩, if_neg (fun z => c_12 z.1)] <;> rfl
        · have c_12 := b2_t c_12
          refine lv_iload hx hb dX4_path_59 (lv_at hl 0 rfl) ?_
          refine lv_if_eq (tgt := 75) hx hb dX4_path_61 (by decide) (fun c_13 => ?_) (fun c_13 => ?_)
          · refine lv_bipush (v := (-2)) hx hb dX4_path_75 (by decide) ?_
            refine mi_ret (v := (-2)) hx hb hr hlk hP hD hS dX4_path_77 ?_
            rw [show ptE (h * w) pc br kd et hs ln le ws c k x i n v kj = _ from by rw [ptE, if_pos ⟨c_3, c_6⟩, if_neg (fun z => (fun z => (fun z => c_9 z.1) z.1) z.2)]]
            refine ⟨?_, rfl⟩
            rw [ptR, if_pos ⟨c_3, c_6⟩, if_neg (fun z => (fun z => (fun z => c_9 z.1) z.1) z.2)] <;> rfl
          · exact absurd c_13 (by decide)
      · have c_9 := b2_t c_9
        refine lv_iload hx hb dX4_path_33 (lv_at hl 6 rfl) ?_
        refine lv_if_lt (tgt := 49) hx hb dX4_path_35 (by decide) (fun c_14 => ?_) (fun c_14 => ?_)
        · have c21 : ¬ inN n 21 := by simp only [inN, softP, btw, inS, ripP, Int32.lt_iff_toInt_lt, Int32.le_iff_toInt_le, ← Int32.toInt_inj, ti_0, ti_1, ti_2, ti_3, ti_4, ti_8, ti_9, ti_10, ti_14, ti_15, ti_20, ti_60, ti_m1] at c_14 ⊢; omega
          refine lv_iconst (v := 0) hx hb dX4_path_49 (by decide) ?_
          refine lv_istore (lv' := [(8, .int 0), (0, .ref (a 0)), (1, .int ws), (2, .int c), (3, .int k), (4, .int x), (5, .int i), (6, .int n), (7, .int v)]) hx hb dX4_path_50 hl (by decide) rfl (fun ls hl => ?_)
          refine lv_iload_n hx hb dX4_path_52 rfl (lv_at hl 2 rfl) ?_
          refine k_ri (run_RS (As := [.int ws]) (rest := []) ⟨hx, hb, hml, hown, hts⟩ (c_X4_isWeeks l D cI cJ cO ws) (va_cwS 1 hts gX4_path_X4_isWeeks rfl rfl rfl (by decide +kernel) ⟨Nat.le_of_ble_eq_true rfl, Nat.le_of_ble_eq_true rfl⟩) hP hK [] rfl rfl hl.1 rfl (Nat.le_of_ble_eq_true rfl) dX4_path_53 ⟨Nat.le_refl _, Nat.le_refl _⟩) (fun r_15 q_16 => ?_)
          obtain rfl := q_16
          refine lv_if_eq (tgt := 75) hx hb dX4_path_56 (by decide) (fun c_17 => ?_) (fun c_17 => ?_)
          · have c_17 := b2_f c_17
            refine lv_bipush (v := (-2)) hx hb dX4_path_75 (by decide) ?_
            refine mi_ret (v := (-2)) hx hb hr hlk hP hD hS dX4_path_77 ?_
            rw [show ptE (h * w) pc br kd et hs ln le ws c k x i n v kj = _ from by rw [ptE, if_pos ⟨c_3, c_6⟩, if_neg (fun z => c_17 z.1)]]
            refine ⟨?_, rfl⟩
            rw [ptR, if_pos ⟨c_3, c_6⟩, if_neg (fun z => c_17 z.1)] <;> rfl
          · have c_17 := b2_t c_17
            refine lv_iload hx hb dX4_path_59 (lv_at hl 0 rfl) ?_
            refine lv_if_eq (tgt := 75) hx hb dX4_path_61 (by decide) (fun c_18 => ?_) (fun c_18 => ?_)
            · refine lv_bipush (v := (-2)) hx hb dX4_path_75 (by decide) ?_
              refine mi_ret (v := (-2)) hx hb hr hlk hP hD hS dX4_path_77 ?_
              rw [show ptE (h * w) pc br kd et hs ln le ws c k x i n v kj = _ from by rw [ptE, if_pos ⟨c_3, c_6⟩, if_neg (fun z => (fun z => (fun z => c21 z.2) z.1) z.2)]]
              refine ⟨?_, rfl⟩
              rw [ptR, if_pos ⟨c_3, c_6⟩, if_neg (fun z => (fun z => (fun z => c21 z.2) z.1) z.2)] <;> rfl
            · exact absurd c_18 (by decide)
        · refine lv_iload hx hb dX4_path_38 (lv_at hl 6 rfl) ?_
          refine lv_bipush (v := 20) hx hb dX4_path_40 (by decide) ?_
          refine lv_icmp_gt (tgt := 49) hx hb dX4_path_42 (by decide) (fun c_19 => ?_) (fun c_19 => ?_)
          · have c21 : ¬ inN n 21 := by simp only [inN, softP, btw, inS, ripP, Int32.lt_iff_toInt_lt, Int32.le_iff_toInt_le, ← Int32.toInt_inj, ti_0, ti_1, ti_2, ti_3, ti_4, ti_8, ti_9, ti_10, ti_14, ti_15, ti_20, ti_60, ti_m1] at c_14 c_19 ⊢; omega
            refine lv_iconst (v := 0) hx hb dX4_path_49 (by decide) ?_
            refine lv_istore (lv' := [(8, .int 0), (0, .ref (a 0)), (1, .int ws), (2, .int c), (3, .int k), (4, .int x), (5, .int i), (6, .int n), (7, .int v)]) hx hb dX4_path_50 hl (by decide) rfl (fun ls hl => ?_)
            refine lv_iload_n hx hb dX4_path_52 rfl (lv_at hl 2 rfl) ?_
            refine k_ri (run_RS (As := [.int ws]) (rest := []) ⟨hx, hb, hml, hown, hts⟩ (c_X4_isWeeks l D cI cJ cO ws) (va_cwS 1 hts gX4_path_X4_isWeeks rfl rfl rfl (by decide +kernel) ⟨Nat.le_of_ble_eq_true rfl, Nat.le_of_ble_eq_true rfl⟩) hP hK [] rfl rfl hl.1 rfl (Nat.le_of_ble_eq_true rfl) dX4_path_53 ⟨Nat.le_refl _, Nat.le_refl _⟩) (fun r_20 q_21 => ?_)
            obtain rfl := q_21
            refine lv_if_eq (tgt := 75) hx hb dX4_path_56 (by decide) (fun c_22 => ?_) (fun c_22 => ?_)
            · have c_22 := b2_f c_22
              refine lv_bipush (v := (-2)) hx hb dX4_path_75 (by decide) ?_
              refine mi_ret (v := (-2)) hx hb hr hlk hP hD hS dX4_path_77 ?_
              rw [show ptE (h * w) pc br kd et hs ln le ws c k x i n v kj = _ from by rw [ptE, if_pos ⟨c_3, c_6⟩, if_neg (fun z => c_22 z.1)]]
              refine ⟨?_, rfl⟩
              rw [ptR, if_pos ⟨c_3, c_6⟩, if_neg (fun z => c_22 z.1)] <;> rfl
            · have c_22 := b2_t c_22
              refine lv_iload hx hb dX4_path_59 (lv_at hl 0 rfl) ?_
              refine lv_if_eq (tgt := 75) hx hb dX4_path_61 (by decide) (fun c_23 => ?_) (fun c_23 => ?_)
              · refine lv_bipush (v := (-2)) hx hb dX4_path_75 (by decide) ?_
                refine mi_ret (v := (-2)) hx hb hr hlk hP hD hS dX4_path_77 ?_
                rw [show ptE (h * w) pc br kd et hs ln le ws c k x i n v kj = _ from by rw [ptE, if_pos ⟨c_3, c_6⟩, if_neg (fun z => (fun z => (fun z => c21 z.2) z.1) z.2)]]
                refine ⟨?_, rfl⟩
                rw [ptR, if_pos ⟨c_3, c_6⟩, if_neg (fun z => (fun z => (fun z => c21 z.2) z.1) z.2)] <;> rfl
              · exact absurd c_23 (by decide)
          · have c21 : inN n 21 := by simp only [inN, softP, btw, inS, ripP, Int32.lt_iff_toInt_lt, Int32.le_iff_toInt_le, ← Int32.toInt_inj, ti_0, ti_1, ti_2, ti_3, ti_4, ti_8, ti_9, ti_10, ti_14, ti_15, ti_20, ti_60, ti_m1] at c_14 c_19 ⊢; omega
            refine lv_iconst (v := 1) hx hb dX4_path_45 (by decide) ?_
            refine lv_goto (tgt := 50) hx hb dX4_path_46 (by decide) ?_
            refine lv_istore (lv' := [(8, .int 1), (0, .ref (a 0)), (1, .int ws), (2, .int c), (3, .int k), (4, .int x), (5, .int i), (6, .int n), (7, .int v)]) hx hb dX4_path_50 hl (by decide) rfl (fun ls hl => ?_)
            refine lv_iload_n hx hb dX4_path_52 rfl (lv_at hl 2 rfl) ?_
            refine k_ri (run_RS (As := [.int ws]) (rest := []) ⟨hx, hb, hml, hown, hts⟩ (c_X4_isWeeks l D cI cJ cO ws) (va_cwS 1 hts gX4_path_X4_isWeeks rfl rfl rfl (by decide +kernel) ⟨Nat.le_of_ble_eq_true rfl, Nat.le_of_ble_eq_true rfl⟩) hP hK [] rfl rfl hl.1 rfl (Nat.le_of_ble_eq_true rfl) dX4_path_53 ⟨Nat.le_refl _, Nat.le_refl _⟩) (fun r_24 q_25 => ?_)
            obtain rfl := q_25
            refine lv_if_eq (tgt := 75) hx hb dX4_path_56 (by decide) (fun c_26 => ?_) (fun c_26 => ?_)
            · have c_26 := b2_f c_26
              refine lv_bipush (v := (-2)) hx hb dX4_path_75 (by decide) ?_
              refine mi_ret (v := (-2)) hx hb hr hlk hP hD hS dX4_path_77 ?_
              rw [show ptE (h * w) pc br kd et hs ln le ws c k x i n v kj = _ from by rw [ptE, if_pos ⟨c_3, c_6⟩, if_neg (fun z => c_26 z.1)]]
              refine ⟨?_, rfl⟩
              rw [ptR, if_pos ⟨c_3, c_6⟩, if_neg (fun z => c_26 z.1)] <;> rfl
            · have c_26 := b2_t c_26
              refine lv_iload hx hb dX4_path_59 (lv_at hl 0 rfl) ?_
              refine lv_if_eq (tgt := 75) hx hb dX4_path_61 (by decide) (fun c_27 => ?_) (fun c_27 => ?_)
              · exact absurd c_27 (by decide)
              · refine lv_iload hx hb dX4_path_64 (lv_at hl 8 rfl) ?_
                refine lv_if_lt (tgt := 75) hx hb dX4_path_66 (by decide) (fun c_28 => ?_) (fun c_28 => ?_)
                · have cv4 : ¬ inN v 4 := by simp only [inN, softP, btw, inS, ripP, Int32.lt_iff_toInt_lt, Int32.le_iff_toInt_le, ← Int32.toInt_inj, ti_0, ti_1, ti_2, ti_3, ti_4, ti_8, ti_9, ti_10, ti_14, ti_15, ti_20, ti_60, ti_m1] at c_28 ⊢; omega
                  refine lv_bipush (v := (-2)) hx hb dX4_path_75 (by decide) ?_
                  refine mi_ret (v := (-2)) hx hb hr hlk hP hD hS dX4_path_77 ?_
                  rw [show ptE (h * w) pc br kd et hs ln le ws c k x i n v kj = _ from by rw [ptE, if_pos ⟨c_3, c_6⟩, if_neg (fun z => (fun z => cv4 z.2) z.2)]]
                  refine ⟨?_, rfl⟩
                  rw [ptR, if_pos ⟨c_3, c_6⟩, if_neg (fun z => (fun z => cv4 z.2) z.2)] <;> rfl
                · refine lv_iload hx hb dX4_path_69 (lv_at hl 8 rfl) ?_
                  refine lv_iconst (v := 3) hx hb dX4_path_71 (by decide) ?_
                  refine lv_icmp_le (tgt := 78) hx hb dX4_path_72 (by decide) (fun c_29 => ?_) (fun c_29 => ?_)
                  · have cv4 : inN v 4 := by simp only [inN, softP, btw, inS, ripP, Int32.lt_iff_toInt_lt, Int32.le_iff_toInt_le, ← Int32.toInt_inj, ti_0, ti_1, ti_2, ti_3, ti_4, ti_8, ti_9, ti_10, ti_14, ti_15, ti_20, ti_60, ti_m1] at c_28 c_29 ⊢; omega
                    refine lv_aload_n hx hb dX4_path_78 rfl (lv_at hl 1 rfl) ?_
                    refine va_get (D := D) (ci := 4) (v := .ref (a 1)) (C := RX4) (T := TX4) (N := 6) hx hb hts hin4 hown hK.1 hP 0 rfl rfl 0 (by decide) (hts _ (List.mem_of_getElem? (i := 2) rfl)) (fun _ h9 => h9) rfl dX4_path_79 ?_
                    refine lv_iload_n hx hb dX4_path_82 rfl (lv_at hl 3 rfl) ?_
                    refine lv_iload_n hx hb dX4_path_83 rfl (lv_at hl 2 rfl) ?_
                    refine k_ri (run_RN (As := [.int c, .int ws]) (rest := []) ⟨hx, hb, hml, hown, hts⟩ (c_X0_isRipe l D cI cJ cO a h w pc br kd et nb c ws c.toNatClampNeg (inN.vp c_3 (by omega)) rfl) ⟨va_cnB 2 hts ggX4_path_X0_isRipe rfl rfl rfl (nw_X4_126 hK) (hts _ (List.mem_of_getElem? (i := 5) rfl)) (by decide +kernel) ⟨Nat.le_of_ble_eq_true rfl, Nat.le_of_ble_eq_true rfl⟩, (hts _ (List.mem_of_getElem? (i := 24) rfl)), (hts _ (List.mem_of_getElem? (i := 25) rfl))⟩ hP hK [1, 2, 3, 4] rfl rfl rfl rfl rfl hl.1 rfl (Nat.le_of_ble_eq_true rfl) dX4_path_84 ⟨Nat.le_refl _, Nat.le_refl _⟩) (fun r_30 q_31 => ?_)
                    obtain rfl := q_31
                    refine lv_if_ne (tgt := 93) hx hb dX4_path_87 (by decide) (fun c_32 => ?_) (fun c_32 => ?_)
                    · have c_32 := b2_t c_32
                      have h4_kj : kj < 4 := by rw [← hkj]; exact c_6.lt
                      obtain ⟨hP, hD⟩ : va_P D vwCl [(a 0, .inr (4, [.ref (a 1), .ref (a 5), .ref (a 9), .ref (a 12), .int 0, .int tr])), (a 1, .inr (0, [.int (nI h), .int (nI w), .int pc, .int br, .ref (a 2), .ref (a 3), .ref (a 4)])), (a 2, .inl (cI, 16, .inl kd)), (a 3, .inl (cI, 16, .inl et)), (a 4, .inl (cI, 64, .inl nb)), (a 12, .inl (cO, 4, .inr (.inr (.inr (.inr (fun i => some (a (13 + 2 * i)))))))), (a (13 + 2 * kj), .inr (3, [.int (hs kj), .int (ln kj), .int (nI (le kj)), .ref (a (14 + 2 * kj))])), (a (14 + 2 * kj), .inl (cI, 60, .inl (rr kj))), (a (13 + 2 * (o1F kj)), .inr (3, [.int (hs (o1F kj)), .int (ln (o1F kj)), .int (nI (le (o1F kj))), .ref (a (14 + 2 * (o1F kj)))])), (a (14 + 2 * (o1F kj)), .inl (cI, 60, .inl (rr (o1F kj)))), (a (13 + 2 * (o2F kj)), .inr (3, [.int (hs (o2F kj)), .int (ln (o2F kj)), .int (nI (le (o2F kj))), .ref (a (14 + 2 * (o2F kj)))])), (a (14 + 2 * (o2F kj)), .inl (cI, 60, .inl (rr (o2F kj)))), (a (13 + 2 * (o3F kj)), .inr (3, [.int (hs (o3F kj)), .int (ln (o3F kj)), .int (nI (le (o3F kj))), .ref (a (14 + 2 * (o3F kj)))])), (a (14 + 2 * (o3F kj)), .inl (cI, 60, .inl (rr (o3F kj))))] H ∧ va_D A [(a 0, .inr (4, [.ref (a 1), .ref (a 5), .ref (a 9), .ref (a 12), .int 0, .int tr])), (a 1, .inr (0, [.int (nI h), .int (nI w), .int pc, .int br, .ref (a 2), .ref (a 3), .ref (a 4)])), (a 2, .inl (cI, 16, .inl kd)), (a 3, .inl (cI, 16, .inl et)), (a 4, .inl (cI, 64, .inl nb)), (a 12, .inl (cO, 4, .inr (.inr (.inr (.inr (fun i => some (a (13 + 2 * i)))))))), (a (13 + 2 * kj), .inr (3, [.int (hs kj), .int (ln kj), .int (nI (le kj)), .ref (a (14 + 2 * kj))])), (a (14 + 2 * kj), .inl (cI, 60, .inl (rr kj))), (a (13 + 2 * (o1F kj)), .inr (3, [.int (hs (o1F kj)), .int (ln (o1F kj)), .int (nI (le (o1F kj))), .ref (a (14 + 2 * (o1F kj)))])), (a (14 + 2 * (o1F kj)), .inl (cI, 60, .inl (rr (o1F kj)))), (a (13 + 2 * (o2F kj)), .inr (3, [.int (hs (o2F kj)), .int (ln (o2F kj)), .int (nI (le (o2F kj))), .ref (a (14 + 2 * (o2F kj)))])), (a (14 + 2 * (o2F kj)), .inl (cI, 60, .inl (rr (o2F kj)))), (a (13 + 2 * (o3F kj)), .inr (3, [.int (hs (o3F kj)), .int (ln (o3F kj)), .int (nI (le (o3F kj))), .ref (a (14 + 2 * (o3F kj)))])), (a (14 + 2 * (o3F kj)), .inl (cI, 60, .inl (rr (o3F kj))))] := by
                        rcases (show kj = 0 ∨ kj = 1 ∨ kj = 2 ∨ kj = 3 by omega) with hz | hz | hz | hz <;> subst hz
                        · exact ⟨hP.sub [0, 1, 2, 3, 4, 5, 6, 7, 8, 9, 10, 11, 12, 13] rfl, hD.sub [0, 1, 2, 3, 4, 5, 6, 7, 8, 9, 10, 11, 12, 13] (by decide) rfl⟩
                        · exact ⟨hP.sub [0, 1, 2, 3, 4, 5, 8, 9, 6, 7, 10, 11, 12, 13] rfl, hD.sub [0, 1, 2, 3, 4, 5, 8, 9, 6, 7, 10, 11, 12, 13] (by decide) rfl⟩
                        · exact ⟨hP.sub [0, 1, 2, 3, 4, 5, 10, 11, 6, 7, 8, 9, 12, 13] rfl, hD.sub [0, 1, 2, 3, 4, 5, 10, 11, 6, 7, 8, 9, 12, 13] (by decide) rfl⟩
                        · exact ⟨hP.sub [0, 1, 2, 3, 4, 5, 12, 13, 6, 7, 8, 9, 10, 11] rfl, hD.sub [0, 1, 2, 3, 4, 5, 12, 13, 6, 7, 8, 9, 10, 11] (by decide) rfl⟩
                      have hl60 := hle kj h4_kj
                      refine lv_aload_n hx hb dX4_path_93 rfl (lv_at hl 1 rfl) ?_
                      refine va_get (D := D) (ci := 4) (v := .ref (a 12)) (C := RX4) (T := TX4) (N := 6) hx hb hts hin4 hown hK.1 hP 0 rfl rfl 3 (by decide) (hts _ (List.mem_of_getElem? (i := 3) rfl)) (fun _ h9 => h9) rfl dX4_path_94 ?_
                      refine lv_iload_n hx hb dX4_path_97 rfl (lv_at hl 4 rfl) ?_
                      refine k_aldq hx hb hK hP 5 2 rfl rfl (g := fun i => a (13 + 2 * i)) (b := a (13 + 2 * kj)) (j := kj) (inN.vp c_6 (by omega)) hkj rfl dX4_path_98 ?_
                      refine lv_astore (lv' := [(9, .ref (a (13 + 2 * kj))), (8, .int 1), (0, .ref (a 0)), (1, .int ws), (2, .int c), (3, .int k), (4, .int x), (5, .int i), (6, .int n), (7, .int v)]) hx hb dX4_path_99 hl (by decide) rfl (fun ls hl => ?_)
                      refine lv_aload hx hb dX4_path_101 (lv_at hl 0 rfl) ?_
                      refine lv_iload hx hb dX4_path_103 (lv_at hl 6 rfl) ?_
                      refine k_ri (run_RN (As := [.int x]) (rest := []) ⟨hx, hb, hml, hown, hts⟩ (c_X3_faultAs l D cI cJ cO (a (13 + 2 * kj)) (a (14 + 2 * kj)) (hs kj) (ln kj) (le kj) (rr kj) x) ⟨va_cnB 1 hts ggX4_path_X3_faultAs rfl rfl rfl (nw_X4_53 hK) (hts _ (List.mem_of_getElem? (i := 47) rfl)) (by decide +kernel) ⟨Nat.le_of_ble_eq_true rfl, Nat.le_of_ble_eq_true rfl⟩, (hts _ (List.mem_of_getElem? (i := 46) rfl)), (hts _ (List.mem_of_getElem? (i := 48) rfl))⟩ hP hK [6, 7] rfl rfl rfl rfl rfl hl.1 rfl (Nat.le_of_ble_eq_true rfl) dX4_path_105 ⟨Nat.le_refl _, Nat.le_refl _⟩) (fun r_33 q_34 => ?_)
                      obtain rfl := q_34
                      refine lv_istore (lv' := [(10, .int (fltF (hs kj) (ln kj) x)), (9, .ref (a (13 + 2 * kj))), (8, .int 1), (0, .ref (a 0)), (1, .int ws), (2, .int c), (3, .int k), (4, .int x), (5, .int i), (6, .int n), (7, .int v)]) hx hb dX4_path_108 hl (by decide) rfl (fun ls hl => ?_)
                      refine lv_iload hx hb dX4_path_110 (lv_at hl 0 rfl) ?_
                      refine lv_if_ne (tgt := 130) hx hb dX4_path_112 (by decide) (fun c_35 => ?_) (fun c_35 => ?_)
                      · have cx : paX (fltF (hs kj) (ln kj) x) i n (le kj) = fltF (hs kj) (ln kj) x := by rw [paX, if_neg c_35]
                        have cx0 : ¬ paX (fltF (hs kj) (ln kj) x) i n (le kj) = 0 := by rw [cx]; exact c_35
                        refine lv_iload hx hb dX4_path_130 (lv_at hl 0 rfl) ?_
                        refine lv_if_eq (tgt := 142) hx hb dX4_path_132 (by decide) (fun c_36 => ?_) (fun c_36 => ?_)
                        · exact absurd c_36 c_35
                        · refine lv_aload_n hx hb dX4_path_135 rfl (lv_at hl 3 rfl) ?_
                          refine lv_iload hx hb dX4_path_136 (lv_at hl 0 rfl) ?_
                          refine k_mi (wr := [(a 1, .inr (0, [.int (nI h), .int (nI w), .int pc, .int br, .ref (a 2), .ref (a 3), .ref (a 4)])), (a 2, .inl (cI, 16, .inl kd)), (a 3, .inl (cI, 16, .inl et)), (a 4, .inl (cI, 64, .inl nb)), (a 12, .inl (cO, 4, .inr (.inr (.inr (.inr (fun i => some (a (13 + 2 * i)))))))), (a (13 + 2 * kj), .inr (3, [.int (hs kj), .int (ln kj), .int (nI (le kj)), .ref (a (14 + 2 * kj))])), (a (14 + 2 * kj), .inl (cI, 60, .inl (rr kj))), (a (13 + 2 * (o1F kj)), .inr (3, [.int (hs (o1F kj)), .int (ln (o1F kj)), .int (nI (le (o1F kj))), .ref (a (14 + 2 * (o1F kj)))])), (a (14 + 2 * (o1F kj)), .inl (cI, 60, .inl (rr (o1F kj)))), (a (13 + 2 * (o2F kj)), .inr (3, [.int (hs (o2F kj)), .int (ln (o2F kj)), .int (nI (le (o2F kj))), .ref (a (14 + 2 * (o2F kj)))])), (a (14 + 2 * (o2F kj)), .inl (cI, 60, .inl (rr (o2F kj)))), (a (13 + 2 * (o3F kj)), .inr (3, [.int (hs (o3F kj)), .int (ln (o3F kj)), .int (nI (le (o3F kj))), .ref (a (14 + 2 * (o3F kj)))])), (a (14 + 2 * (o3F kj)), .inl (cI, 60, .inl (rr (o3F kj))))]) [0] [1, 2, 3, 4, 5, 6, 7, 8, 9, 10, 11, 12, 13] (run_MV (As := [.int (fltF (hs kj) (ln kj) x)]) (rest := []) ⟨hx, hb, hml, hown, hts⟩ (c_X4_failed l D cI cJ cO a 0 tr (fltF (hs kj) (ln kj) x)) (cwV 1 hts gX4_path_X4_failed rfl rfl rfl (by decide +kernel) ⟨Nat.le_of_ble_eq_true rfl, Nat.le_of_ble_eq_true rfl⟩) hP hK hD [0] (by decide) rfl rfl rfl rfl rfl hl.1 rfl (Nat.le_of_ble_eq_true rfl) dX4_path_138 ⟨Nat.le_refl _, Nat.le_refl _⟩) hP hD hS hA rfl rfl (by decide) (by decide) (fun r_37 w_39 H locs q_38 hP hD hS => ?_)
                          obtain ⟨rfl, rfl⟩ := q_38
                          have hP : va_P D vwCl [(a 0, .inr (4, [.ref (a 1), .ref (a 5), .ref (a 9), .ref (a 12), .int (fltF (hs kj) (ln kj) x), .int tr])), (a 1, .inr (0, [.int (nI h), .int (nI w), .int pc, .int br, .ref (a 2), .ref (a 3), .ref (a 4)])), (a 2, .inl (cI, 16, .inl kd)), (a 3, .inl (cI, 16, .inl et)), (a 4, .inl (cI, 64, .inl nb)), (a 12, .inl (cO, 4, .inr (.inr (.inr (.inr (fun i => some (a (13 + 2 * i)))))))), (a (13 + 2 * kj), .inr (3, [.int (hs kj), .int (ln kj), .int (nI (le kj)), .ref (a (14 + 2 * kj))])), (a (14 + 2 * kj), .inl (cI, 60, .inl (rr kj))), (a (13 + 2 * (o1F kj)), .inr (3, [.int (hs (o1F kj)), .int (ln (o1F kj)), .int (nI (le (o1F kj))), .ref (a (14 + 2 * (o1F kj)))])), (a (14 + 2 * (o1F kj)), .inl (cI, 60, .inl (rr (o1F kj)))), (a (13 + 2 * (o2F kj)), .inr (3, [.int (hs (o2F kj)), .int (ln (o2F kj)), .int (nI (le (o2F kj))), .ref (a (14 + 2 * (o2F kj)))])), (a (14 + 2 * (o2F kj)), .inl (cI, 60, .inl (rr (o2F kj)))), (a (13 + 2 * (o3F kj)), .inr (3, [.int (hs (o3F kj)), .int (ln (o3F kj)), .int (nI (le (o3F kj))), .ref (a (14 + 2 * (o3F kj)))])), (a (14 + 2 * (o3F kj)), .inl (cI, 60, .inl (rr (o3F kj))))] H := hP.sub [13, 0, 1, 2, 3, 4, 5, 6, 7, 8, 9, 10, 11, 12] rfl
                          have hD : va_D A [(a 0, .inr (4, [.ref (a 1), .ref (a 5), .ref (a 9), .ref (a 12), .int (fltF (hs kj) (ln kj) x), .int tr])), (a 1, .inr (0, [.int (nI h), .int (nI w), .int pc, .int br, .ref (a 2), .ref (a 3), .ref (a 4)])), (a 2, .inl (cI, 16, .inl kd)), (a 3, .inl (cI, 16, .inl et)), (a 4, .inl (cI, 64, .inl nb)), (a 12, .inl (cO, 4, .inr (.inr (.inr (.inr (fun i => some (a (13 + 2 * i)))))))), (a (13 + 2 * kj), .inr (3, [.int (hs kj), .int (ln kj), .int (nI (le kj)), .ref (a (14 + 2 * kj))])), (a (14 + 2 * kj), .inl (cI, 60, .inl (rr kj))), (a (13 + 2 * (o1F kj)), .inr (3, [.int (hs (o1F kj)), .int (ln (o1F kj)), .int (nI (le (o1F kj))), .ref (a (14 + 2 * (o1F kj)))])), (a (14 + 2 * (o1F kj)), .inl (cI, 60, .inl (rr (o1F kj)))), (a (13 + 2 * (o2F kj)), .inr (3, [.int (hs (o2F kj)), .int (ln (o2F kj)), .int (nI (le (o2F kj))), .ref (a (14 + 2 * (o2F kj)))])), (a (14 + 2 * (o2F kj)), .inl (cI, 60, .inl (rr (o2F kj)))), (a (13 + 2 * (o3F kj)), .inr (3, [.int (hs (o3F kj)), .int (ln (o3F kj)), .int (nI (le (o3F kj))), .ref (a (14 + 2 * (o3F kj)))])), (a (14 + 2 * (o3F kj)), .inl (cI, 60, .inl (rr (o3F kj))))] := hD.sub [13, 0, 1, 2, 3, 4, 5, 6, 7, 8, 9, 10, 11, 12] (by decide) rfl
                          obtain ⟨hP, hD⟩ : va_P D vwCl [(a 0, .inr (4, [.ref (a 1), .ref (a 5), .ref (a 9), .ref (a 12), .int (fltF (hs kj) (ln kj) x), .int tr])), (a 1, .inr (0, [.int (nI h), .int (nI w), .int pc, .int br, .ref (a 2), .ref (a 3), .ref (a 4)])), (a 2, .inl (cI, 16, .inl kd)), (a 3, .inl (cI, 16, .inl et)), (a 4, .inl (cI, 64, .inl nb)), (a 12, .inl (cO, 4, .inr (.inr (.inr (.inr (fun i => some (a (13 + 2 * i)))))))), (a (13 + 2 * 0), .inr (3, [.int (hs 0), .int (ln 0), .int (nI (le 0)), .ref (a (14 + 2 * 0))])), (a (14 + 2 * 0), .inl (cI, 60, .inl (rr 0))), (a (13 + 2 * 1), .inr (3, [.int (hs 1), .int (ln 1), .int (nI (le 1)), .ref (a (14 + 2 * 1))])), (a (14 + 2 * 1), .inl (cI, 60, .inl (rr 1))), (a (13 + 2 * 2), .inr (3, [.int (hs 2), .int (ln 2), .int (nI (le 2)), .ref (a (14 + 2 * 2))])), (a (14 + 2 * 2), .inl (cI, 60, .inl (rr 2))), (a (13 + 2 * 3), .inr (3, [.int (hs 3), .int (ln 3), .int (nI (le 3)), .ref (a (14 + 2 * 3))])), (a (14 + 2 * 3), .inl (cI, 60, .inl (rr 3)))] H ∧ va_D A [(a 0, .inr (4, [.ref (a 1), .ref (a 5), .ref (a 9), .ref (a 12), .int (fltF (hs kj) (ln kj) x), .int tr])), (a 1, .inr (0, [.int (nI h), .int (nI w), .int pc, .int br, .ref (a 2), .ref (a 3), .ref (a 4)])), (a 2, .inl (cI, 16, .inl kd)), (a 3, .inl (cI, 16, .inl et)), (a 4, .inl (cI, 64, .inl nb)), (a 12, .inl (cO, 4, .inr (.inr (.inr (.inr (fun i => some (a (13 + 2 * i)))))))), (a (13 + 2 * 0), .inr (3, [.int (hs 0), .int (ln 0), .int (nI (le 0)), .ref (a (14 + 2 * 0))])), (a (14 + 2 * 0), .inl (cI, 60, .inl (rr 0))), (a (13 + 2 * 1), .inr (3, [.int (hs 1), .int (ln 1), .int (nI (le 1)), .ref (a (14 + 2 * 1))])), (a (14 + 2 * 1), .inl (cI, 60, .inl (rr 1))), (a (13 + 2 * 2), .inr (3, [.int (hs 2), .int (ln 2), .int (nI (le 2)), .ref (a (14 + 2 * 2))])), (a (14 + 2 * 2), .inl (cI, 60, .inl (rr 2))), (a (13 + 2 * 3), .inr (3, [.int (hs 3), .int (ln 3), .int (nI (le 3)), .ref (a (14 + 2 * 3))])), (a (14 + 2 * 3), .inl (cI, 60, .inl (rr 3)))] := by
                            rcases (show kj = 0 ∨ kj = 1 ∨ kj = 2 ∨ kj = 3 by omega) with hz | hz | hz | hz <;> subst hz
                            · exact ⟨hP.sub [0, 1, 2, 3, 4, 5, 6, 7, 8, 9, 10, 11, 12, 13] rfl, hD.sub [0, 1, 2, 3, 4, 5, 6, 7, 8, 9, 10, 11, 12, 13] (by decide) rfl⟩
                            · exact ⟨hP.sub [0, 1, 2, 3, 4, 5, 8, 9, 6, 7, 10, 11, 12, 13] rfl, hD.sub [0, 1, 2, 3, 4, 5, 8, 9, 6, 7, 10, 11, 12, 13] (by decide) rfl⟩
                            · exact ⟨hP.sub [0, 1, 2, 3, 4, 5, 8, 9, 10, 11, 6, 7, 12, 13] rfl, hD.sub [0, 1, 2, 3, 4, 5, 8, 9, 10, 11, 6, 7, 12, 13] (by decide) rfl⟩
                            · exact ⟨hP.sub [0, 1, 2, 3, 4, 5, 8, 9, 10, 11, 12, 13, 6, 7] rfl, hD.sub [0, 1, 2, 3, 4, 5, 8, 9, 10, 11, 12, 13, 6, 7] (by decide) rfl⟩
                          refine mi_ret (v := ((-10) - (fltF (hs kj) (ln kj) x))) hx hb hr hlk hP hD hS dX4_path_141 ?_
                          rw [(show ptE (h * w) pc br kd et hs ln le ws c k x i n v kj = paX (fltF (hs kj) (ln kj) x) i n (le kj) from by rw [ptE, if_pos ⟨c_3, c_6⟩, if_pos ⟨c_26, ⟨⟨c_9, c21⟩, cv4⟩⟩, if_pos c_32]).trans cx]
                          refine ⟨?_, rfl⟩
                          rw [ptR, if_pos ⟨c_3, c_6⟩, if_pos ⟨c_26, ⟨⟨c_9, c21⟩, cv4⟩⟩, if_pos c_32, if_neg cx0]
                          rw [cx] <;> rfl
                      · refine lv_aload hx hb dX4_path_115 (lv_at hl 1 rfl) ?_
                        refine lv_iload hx hb dX4_path_117 (lv_at hl 8 rfl) ?_
                        refine lv_iload hx hb dX4_path_119 (lv_at hl 9 rfl) ?_
                        refine k_ri (run_RN (As := [.int i, .int n]) (rest := []) ⟨hx, hb, hml, hown, hts⟩ (c_X3_spans l D cI cJ cO (a (13 + 2 * kj)) (a (14 + 2 * kj)) (hs kj) (ln kj) (le kj) (rr kj) i n hl60) ⟨va_cnB 2 hts ggX4_path_X3_spans rfl rfl rfl (nw_X4_57 hK) (hts _ (List.mem_of_getElem? (i := 47) rfl)) (by decide +kernel) ⟨Nat.le_of_ble_eq_true rfl, Nat.le_of_ble_eq_true rfl⟩, (hts _ (List.mem_of_getElem? (i := 52) rfl)), (hts _ (List.mem_of_getElem? (i := 53) rfl))⟩ hP hK [6, 7] rfl rfl rfl rfl rfl hl.1 rfl (Nat.le_of_ble_eq_true rfl) dX4_path_121 ⟨Nat.le_refl _, Nat.le_refl _⟩) (fun r_40 q_41 => ?_)
                        obtain rfl := q_41
                        refine lv_if_ne (tgt := 130) hx hb dX4_path_124 (by decide) (fun c_42 => ?_) (fun c_42 => ?_)
                        · have c_42 := b2_t c_42
                          have cx : paX (fltF (hs kj) (ln kj) x) i n (le kj) = 0 := by rw [paX, if_pos c_35, if_pos c_42]
                          have cx0 : paX (fltF (hs kj) (ln kj) x) i n (le kj) = 0 := by rw [cx]
                          refine lv_iload hx hb dX4_path_130 (lv_at hl 0 rfl) ?_
                          refine lv_if_eq (tgt := 142) hx hb dX4_path_132 (by decide) (fun c_43 => ?_) (fun c_43 => ?_)
                          · refine lv_aload hx hb dX4_path_142 (lv_at hl 1 rfl) ?_
                            refine va_getN (D := D) (ci := 3) (v := .ref (a (14 + 2 * kj))) (C := RX3) (T := TX3) (N := 4) hx hb hts hin3 hown hK.1 hP 6 rfl rfl 3 (by decide) (va_Nw.use rfl (nw_X4_64 hK)) (fun _ h9 => h9) rfl dX4_path_144 ?_
                            refine lv_iload hx hb dX4_path_147 (lv_at hl 8 rfl) ?_
                            refine lv_iload hx hb dX4_path_149 (lv_at hl 9 rfl) ?_
                            refine k_ri (run_RS (As := [.ref (a (14 + 2 * kj)), .int i, .int n]) (rest := []) ⟨hx, hb, hml, hown, hts⟩ (c_X4_areStrokesI l D cI cJ cO (a (14 + 2 * kj)) (rr kj) i n ((show spP i n (le kj) by assumption).imp id (fun z => ⟨z.1, by have := z.2; omega⟩))) (va_cwS 3 hts gX4_path_X4_areStrokes rfl rfl rfl (by decide +kernel) ⟨Nat.le_of_ble_eq_true rfl, Nat.le_of_ble_eq_true rfl⟩) hP hK [7] rfl rfl hl.1 rfl (Nat.le_of_ble_eq_true rfl) dX4_path_151 ⟨Nat.le_refl _, Nat.le_refl _⟩) (fun r_44 q_45 => ?_)
                            obtain rfl := q_45
                            refine lv_if_eq (tgt := 177) hx hb dX4_path_154 (by decide) (fun c_46 => ?_) (fun c_46 => ?_)
                            · have c_46 := b2_f c_46
                              refine lv_bipush (v := (-2)) hx hb dX4_path_177 (by decide) ?_
                              obtain ⟨hP, hD⟩ : va_P D vwCl [(a 0, .inr (4, [.ref (a 1), .ref (a 5), .ref (a 9), .ref (a 12), .int 0, .int tr])), (a 1, .inr (0, [.int (nI h), .int (nI w), .int pc, .int br, .ref (a 2), .ref (a 3), .ref (a 4)])), (a 2, .inl (cI, 16, .inl kd)), (a 3, .inl (cI, 16, .inl et)), (a 4, .inl (cI, 64, .inl nb)), (a 12, .inl (cO, 4, .inr (.inr (.inr (.inr (fun i => some (a (13 + 2 * i)))))))), (a (13 + 2 * 0), .inr (3, [.int (hs 0), .int (ln 0), .int (nI (le 0)), .ref (a (14 + 2 * 0))])), (a (14 + 2 * 0), .inl (cI, 60, .inl (rr 0))), (a (13 + 2 * 1), .inr (3, [.int (hs 1), .int (ln 1), .int (nI (le 1)), .ref (a (14 + 2 * 1))])), (a (14 + 2 * 1), .inl (cI, 60, .inl (rr 1))), (a (13 + 2 * 2), .inr (3, [.int (hs 2), .int (ln 2), .int (nI (le 2)), .ref (a (14 + 2 * 2))])), (a (14 + 2 * 2), .inl (cI, 60, .inl (rr 2))), (a (13 + 2 * 3), .inr (3, [.int (hs 3), .int (ln 3), .int (nI (le 3)), .ref (a (14 + 2 * 3))])), (a (14 + 2 * 3), .inl (cI, 60, .inl (rr 3)))] H ∧ va_D A [(a 0, .inr (4, [.ref (a 1), .ref (a 5), .ref (a 9), .ref (a 12), .int 0, .int tr])), (a 1, .inr (0, [.int (nI h), .int (nI w), .int pc, .int br, .ref (a 2), .ref (a 3), .ref (a 4)])), (a 2, .inl (cI, 16, .inl kd)), (a 3, .inl (cI, 16, .inl et)), (a 4, .inl (cI, 64, .inl nb)), (a 12, .inl (cO, 4, .inr (.inr (.inr (.inr (fun i => some (a (13 + 2 * i)))))))), (a (13 + 2 * 0), .inr (3, [.int (hs 0), .int (ln 0), .int (nI (le 0)), .ref (a (14 + 2 * 0))])), (a (14 + 2 * 0), .inl (cI, 60, .inl (rr 0))), (a (13 + 2 * 1), .inr (3, [.int (hs 1), .int (ln 1), .int (nI (le 1)), .ref (a (14 + 2 * 1))])), (a (14 + 2 * 1), .inl (cI, 60, .inl (rr 1))), (a (13 + 2 * 2), .inr (3, [.int (hs 2), .int (ln 2), .int (nI (le 2)), .ref (a (14 + 2 * 2))])), (a (14 + 2 * 2), .inl (cI, 60, .inl (rr 2))), (a (13 + 2 * 3), .inr (3, [.int (hs 3), .int (ln 3), .int (nI (le 3)), .ref (a (14 + 2 * 3))])), (a (14 + 2 * 3), .inl (cI, 60, .inl (rr 3)))] := by
                                rcases (show kj = 0 ∨ kj = 1 ∨ kj = 2 ∨ kj = 3 by omega) with hz | hz | hz | hz <;> subst hz
                                · exact ⟨hP.sub [0, 1, 2, 3, 4, 5, 6, 7, 8, 9, 10, 11, 12, 13] rfl, hD.sub [0, 1, 2, 3, 4, 5, 6, 7, 8, 9, 10, 11, 12, 13] (by decide) rfl⟩
                                · exact ⟨hP.sub [0, 1, 2, 3, 4, 5, 8, 9, 6, 7, 10, 11, 12, 13] rfl, hD.sub [0, 1, 2, 3, 4, 5, 8, 9, 6, 7, 10, 11, 12, 13] (by decide) rfl⟩
                                · exact ⟨hP.sub [0, 1, 2, 3, 4, 5, 8, 9, 10, 11, 6, 7, 12, 13] rfl, hD.sub [0, 1, 2, 3, 4, 5, 8, 9, 10, 11, 6, 7, 12, 13] (by decide) rfl⟩
                                · exact ⟨hP.sub [0, 1, 2, 3, 4, 5, 8, 9, 10, 11, 12, 13, 6, 7] rfl, hD.sub [0, 1, 2, 3, 4, 5, 8, 9, 10, 11, 12, 13, 6, 7] (by decide) rfl⟩
                              refine mi_ret (v := (-2)) hx hb hr hlk hP hD hS dX4_path_179 ?_
                              rw [(show ptE (h * w) pc br kd et hs ln le ws c k x i n v kj = paX (fltF (hs kj) (ln kj) x) i n (le kj) from by rw [ptE, if_pos ⟨c_3, c_6⟩, if_pos ⟨c_26, ⟨⟨c_9, c21⟩, cv4⟩⟩, if_pos c_32]).trans cx]
                              refine ⟨?_, rfl⟩
                              rw [ptR, if_pos ⟨c_3, c_6⟩, if_pos ⟨c_26, ⟨⟨c_9, c21⟩, cv4⟩⟩, if_pos c_32, if_pos cx0, if_neg c_46] <;> rfl
                            · have c_46 := b2_t c_46
                              refine lv_aload_n hx hb dX4_path_157 rfl (lv_at hl 3 rfl) ?_
                              refine lv_iload_n hx hb dX4_path_158 rfl (lv_at hl 4 rfl) ?_
                              refine lv_iload_n hx hb dX4_path_159 rfl (lv_at hl 5 rfl) ?_
                              refine lv_aload hx hb dX4_path_160 (lv_at hl 1 rfl) ?_
                              refine va_getN (D := D) (ci := 3) (v := .ref (a (14 + 2 * kj))) (C := RX3) (T := TX3) (N := 4) hx hb hts hin3 hown hK.1 hP 6 rfl rfl 3 (by decide) (va_Nw.use rfl (nw_X4_64 hK)) (fun _ h9 => h9) rfl dX4_path_162 ?_
                              refine lv_iload hx hb dX4_path_165 (lv_at hl 8 rfl) ?_
                              refine lv_iload hx hb dX4_path_167 (lv_at hl 9 rfl) ?_
                              refine lv_iload hx hb dX4_path_169 (lv_at hl 10 rfl) ?_
                              refine k_ri (run_RV (As := [.int ws, .int c, .ref (a (14 + 2 * kj)), .int i, .int n, .int v]) (rest := []) ⟨hx, hb, hml, hown, hts⟩ (c_X4_followedI l D cI cJ cO a 0 tr h w pc br kd et nb (a (14 + 2 * kj)) (rr kj) i n ws c v hn ((show spP i n (le kj) by assumption).imp id (fun z => ⟨z.1, by have := z.2; omega⟩)) (by assumption) hnb (by assumption)) (cwV 6 hts gX4_path_X4_followed rfl rfl rfl (by decide +kernel) ⟨Nat.le_of_ble_eq_true rfl, Nat.le_of_ble_eq_true rfl⟩) hP hK [0, 1, 2, 3, 4, 7] rfl rfl rfl rfl rfl hl.1 rfl (Nat.le_of_ble_eq_true rfl) dX4_path_171 ⟨Nat.le_refl _, Nat.le_refl _⟩) (fun r_47 q_48 => ?_)
                              obtain rfl := q_48
                              refine lv_goto (tgt := 179) hx hb dX4_path_174 (by decide) ?_
                              obtain ⟨hP, hD⟩ : va_P D vwCl [(a 0, .inr (4, [.ref (a 1), .ref (a 5), .ref (a 9), .ref (a 12), .int 0, .int tr])), (a 1, .inr (0, [.int (nI h), .int (nI w), .int pc, .int br, .ref (a 2), .ref (a 3), .ref (a 4)])), (a 2, .inl (cI, 16, .inl kd)), (a 3, .inl (cI, 16, .inl et)), (a 4, .inl (cI, 64, .inl nb)), (a 12, .inl (cO, 4, .inr (.inr (.inr (.inr (fun i => some (a (13 + 2 * i)))))))), (a (13 + 2 * 0), .inr (3, [.int (hs 0), .int (ln 0), .int (nI (le 0)), .ref (a (14 + 2 * 0))])), (a (14 + 2 * 0), .inl (cI, 60, .inl (rr 0))), (a (13 + 2 * 1), .inr (3, [.int (hs 1), .int (ln 1), .int (nI (le 1)), .ref (a (14 + 2 * 1))])), (a (14 + 2 * 1), .inl (cI, 60, .inl (rr 1))), (a (13 + 2 * 2), .inr (3, [.int (hs 2), .int (ln 2), .int (nI (le 2)), .ref (a (14 + 2 * 2))])), (a (14 + 2 * 2), .inl (cI, 60, .inl (rr 2))), (a (13 + 2 * 3), .inr (3, [.int (hs 3), .int (ln 3), .int (nI (le 3)), .ref (a (14 + 2 * 3))])), (a (14 + 2 * 3), .inl (cI, 60, .inl (rr 3)))] H ∧ va_D A [(a 0, .inr (4, [.ref (a 1), .ref (a 5), .ref (a 9), .ref (a 12), .int 0, .int tr])), (a 1, .inr (0, [.int (nI h), .int (nI w), .int pc, .int br, .ref (a 2), .ref (a 3), .ref (a 4)])), (a 2, .inl (cI, 16, .inl kd)), (a 3, .inl (cI, 16, .inl et)), (a 4, .inl (cI, 64, .inl nb)), (a 12, .inl (cO, 4, .inr (.inr (.inr (.inr (fun i => some (a (13 + 2 * i)))))))), (a (13 + 2 * 0), .inr (3, [.int (hs 0), .int (ln 0), .int (nI (le 0)), .ref (a (14 + 2 * 0))])), (a (14 + 2 * 0), .inl (cI, 60, .inl (rr 0))), (a (13 + 2 * 1), .inr (3, [.int (hs 1), .int (ln 1), .int (nI (le 1)), .ref (a (14 + 2 * 1))])), (a (14 + 2 * 1), .inl (cI, 60, .inl (rr 1))), (a (13 + 2 * 2), .inr (3, [.int (hs 2), .int (ln 2), .int (nI (le 2)), .ref (a (14 + 2 * 2))])), (a (14 + 2 * 2), .inl (cI, 60, .inl (rr 2))), (a (13 + 2 * 3), .inr (3, [.int (hs 3), .int (ln 3), .int (nI (le 3)), .ref (a (14 + 2 * 3))])), (a (14 + 2 * 3), .inl (cI, 60, .inl (rr 3)))] := by
                                rcases (show kj = 0 ∨ kj = 1 ∨ kj = 2 ∨ kj = 3 by omega) with hz | hz | hz | hz <;> subst hz
                                · exact ⟨hP.sub [0, 1, 2, 3, 4, 5, 6, 7, 8, 9, 10, 11, 12, 13] rfl, hD.sub [0, 1, 2, 3, 4, 5, 6, 7, 8, 9, 10, 11, 12, 13] (by decide) rfl⟩
                                · exact ⟨hP.sub [0, 1, 2, 3, 4, 5, 8, 9, 6, 7, 10, 11, 12, 13] rfl, hD.sub [0, 1, 2, 3, 4, 5, 8, 9, 6, 7, 10, 11, 12, 13] (by decide) rfl⟩
                                · exact ⟨hP.sub [0, 1, 2, 3, 4, 5, 8, 9, 10, 11, 6, 7, 12, 13] rfl, hD.sub [0, 1, 2, 3, 4, 5, 8, 9, 10, 11, 6, 7, 12, 13] (by decide) rfl⟩
                                · exact ⟨hP.sub [0, 1, 2, 3, 4, 5, 8, 9, 10, 11, 12, 13, 6, 7] rfl, hD.sub [0, 1, 2, 3, 4, 5, 8, 9, 10, 11, 12, 13, 6, 7] (by decide) rfl⟩
                              refine mi_ret (v := (folR (pthR h w (rr kj) i.toNatClampNeg n.toNatClampNeg 0 c (wo (ripS pc br kd et ws (h * w)) c)).1 (pthR h w (rr kj) i.toNatClampNeg n.toNatClampNeg 0 c (wo (ripS pc br kd et ws (h * w)) c)).2.1 (pthR h w (rr kj) i.toNatClampNeg n.toNatClampNeg 0 c (wo (ripS pc br kd et ws (h * w)) c)).2.2 (ripS pc br kd et ws (h * w)) pc kd et ws (h * w) v)) hx hb hr hlk hP hD hS dX4_path_179 ?_
                              rw [(show ptE (h * w) pc br kd et hs ln le ws c k x i n v kj = paX (fltF (hs kj) (ln kj) x) i n (le kj) from by rw [ptE, if_pos ⟨c_3, c_6⟩, if_pos ⟨c_26, ⟨⟨c_9, c21⟩, cv4⟩⟩, if_pos c_32]).trans cx]
                              refine ⟨?_, rfl⟩
                              rw [ptR, if_pos ⟨c_3, c_6⟩, if_pos ⟨c_26, ⟨⟨c_9, c21⟩, cv4⟩⟩, if_pos c_32, if_pos cx0, if_pos c_46] <;> rfl
                          · exact absurd c_35 c_43
                        · have c_42 := b2_f c_42
                          have cx : paX (fltF (hs kj) (ln kj) x) i n (le kj) = 3 := by rw [paX, if_pos c_35, if_neg c_42]
                          have cx0 : ¬ paX (fltF (hs kj) (ln kj) x) i n (le kj) = 0 := by rw [cx]; decide
                          refine lv_iconst (v := 3) hx hb dX4_path_127 (by decide) ?_
                          refine lv_istore (lv' := [(10, .int 3), (9, .ref (a (13 + 2 * kj))), (8, .int 1), (0, .ref (a 0)), (1, .int ws), (2, .int c), (3, .int k), (4, .int x), (5, .int i), (6, .int n), (7, .int v)]) hx hb dX4_path_128 hl (by decide) rfl (fun ls hl => ?_)
                          refine lv_iload hx hb dX4_path_130 (lv_at hl 0 rfl) ?_
                          refine lv_if_eq (tgt := 142) hx hb dX4_path_132 (by decide) (fun c_49 => ?_) (fun c_49 => ?_)
                          · exact absurd c_49 (by decide)
                          · refine lv_aload_n hx hb dX4_path_135 rfl (lv_at hl 3 rfl) ?_
                            refine lv_iload hx hb dX4_path_136 (lv_at hl 0 rfl) ?_
                            refine k_mi (wr := [(a 1, .inr (0, [.int (nI h), .int (nI w), .int pc, .int br, .ref (a 2), .ref (a 3), .ref (a 4)])), (a 2, .inl (cI, 16, .inl kd)), (a 3, .inl (cI, 16, .inl et)), (a 4, .inl (cI, 64, .inl nb)), (a 12, .inl (cO, 4, .inr (.inr (.inr (.inr (fun i => some (a (13 + 2 * i)))))))), (a (13 + 2 * kj), .inr (3, [.int (hs kj), .int (ln kj), .int (nI (le kj)), .ref (a (14 + 2 * kj))])), (a (14 + 2 * kj), .inl (cI, 60, .inl (rr kj))), (a (13 + 2 * (o1F kj)), .inr (3, [.int (hs (o1F kj)), .int (ln (o1F kj)), .int (nI (le (o1F kj))), .ref (a (14 + 2 * (o1F kj)))])), (a (14 + 2 * (o1F kj)), .inl (cI, 60, .inl (rr (o1F kj)))), (a (13 + 2 * (o2F kj)), .inr (3, [.int (hs (o2F kj)), .int (ln (o2F kj)), .int (nI (le (o2F kj))), .ref (a (14 + 2 * (o2F kj)))])), (a (14 + 2 * (o2F kj)), .inl (cI, 60, .inl (rr (o2F kj)))), (a (13 + 2 * (o3F kj)), .inr (3, [.int (hs (o3F kj)), .int (ln (o3F kj)), .int (nI (le (o3F kj))), .ref (a (14 + 2 * (o3F kj)))])), (a (14 + 2 * (o3F kj)), .inl (cI, 60, .inl (rr (o3F kj))))]) [0] [1, 2, 3, 4, 5, 6, 7, 8, 9, 10, 11, 12, 13] (run_MV (As := [.int 3]) (rest := []) ⟨hx, hb, hml, hown, hts⟩ (c_X4_failed l D cI cJ cO a 0 tr 3) (cwV 1 hts gX4_path_X4_failed rfl rfl rfl (by decide +kernel) ⟨Nat.le_of_ble_eq_true rfl, Nat.le_of_ble_eq_true rfl⟩) hP hK hD [0] (by decide) rfl rfl rfl rfl rfl hl.1 rfl (Nat.le_of_ble_eq_true rfl) dX4_path_138 ⟨Nat.le_refl _, Nat.le_refl _⟩) hP hD hS hA rfl rfl (by decide) (by decide) (fun r_50 w_52 H locs q_51 hP hD hS => ?_)
                            obtain ⟨rfl, rfl⟩ := q_51
                            have hP : va_P D vwCl [(a 0, .inr (4, [.ref (a 1), .ref (a 5), .ref (a 9), .ref (a 12), .int 3, .int tr])), (a 1, .inr (0, [.int (nI h), .int (nI w), .int pc, .int br, .ref (a 2), .ref (a 3), .ref (a 4)])), (a 2, .inl (cI, 16, .inl kd)), (a 3, .inl (cI, 16, .inl et)), (a 4, .inl (cI, 64, .inl nb)), (a 12, .inl (cO, 4, .inr (.inr (.inr (.inr (fun i => some (a (13 + 2 * i)))))))), (a (13 + 2 * kj), .inr (3, [.int (hs kj), .int (ln kj), .int (nI (le kj)), .ref (a (14 + 2 * kj))])), (a (14 + 2 * kj), .inl (cI, 60, .inl (rr kj))), (a (13 + 2 * (o1F kj)), .inr (3, [.int (hs (o1F kj)), .int (ln (o1F kj)), .int (nI (le (o1F kj))), .ref (a (14 + 2 * (o1F kj)))])), (a (14 + 2 * (o1F kj)), .inl (cI, 60, .inl (rr (o1F kj)))), (a (13 + 2 * (o2F kj)), .inr (3, [.int (hs (o2F kj)), .int (ln (o2F kj)), .int (nI (le (o2F kj))), .ref (a (14 + 2 * (o2F kj)))])), (a (14 + 2 * (o2F kj)), .inl (cI, 60, .inl (rr (o2F kj)))), (a (13 + 2 * (o3F kj)), .inr (3, [.int (hs (o3F kj)), .int (ln (o3F kj)), .int (nI (le (o3F kj))), .ref (a (14 + 2 * (o3F kj)))])), (a (14 + 2 * (o3F kj)), .inl (cI, 60, .inl (rr (o3F kj))))] H := hP.sub [13, 0, 1, 2, 3, 4, 5, 6, 7, 8, 9, 10, 11, 12] rfl
                            have hD : va_D A [(a 0, .inr (4, [.ref (a 1), .ref (a 5), .ref (a 9), .ref (a 12), .int 3, .int tr])), (a 1, .inr (0, [.int (nI h), .int (nI w), .int pc, .int br, .ref (a 2), .ref (a 3), .ref (a 4)])), (a 2, .inl (cI, 16, .inl kd)), (a 3, .inl (cI, 16, .inl et)), (a 4, .inl (cI, 64, .inl nb)), (a 12, .inl (cO, 4, .inr (.inr (.inr (.inr (fun i => some (a (13 + 2 * i)))))))), (a (13 + 2 * kj), .inr (3, [.int (hs kj), .int (ln kj), .int (nI (le kj)), .ref (a (14 + 2 * kj))])), (a (14 + 2 * kj), .inl (cI, 60, .inl (rr kj))), (a (13 + 2 * (o1F kj)), .inr (3, [.int (hs (o1F kj)), .int (ln (o1F kj)), .int (nI (le (o1F kj))), .ref (a (14 + 2 * (o1F kj)))])), (a (14 + 2 * (o1F kj)), .inl (cI, 60, .inl (rr (o1F kj)))), (a (13 + 2 * (o2F kj)), .inr (3, [.int (hs (o2F kj)), .int (ln (o2F kj)), .int (nI (le (o2F kj))), .ref (a (14 + 2 * (o2F kj)))])), (a (14 + 2 * (o2F kj)), .inl (cI, 60, .inl (rr (o2F kj)))), (a (13 + 2 * (o3F kj)), .inr (3, [.int (hs (o3F kj)), .int (ln (o3F kj)), .int (nI (le (o3F kj))), .ref (a (14 + 2 * (o3F kj)))])), (a (14 + 2 * (o3F kj)), .inl (cI, 60, .inl (rr (o3F kj))))] := hD.sub [13, 0, 1, 2, 3, 4, 5, 6, 7, 8, 9, 10, 11, 12] (by decide) rfl
                            obtain ⟨hP, hD⟩ : va_P D vwCl [(a 0, .inr (4, [.ref (a 1), .ref (a 5), .ref (a 9), .ref (a 12), .int 3, .int tr])), (a 1, .inr (0, [.int (nI h), .int (nI w), .int pc, .int br, .ref (a 2), .ref (a 3), .ref (a 4)])), (a 2, .inl (cI, 16, .inl kd)), (a 3, .inl (cI, 16, .inl et)), (a 4, .inl (cI, 64, .inl nb)), (a 12, .inl (cO, 4, .inr (.inr (.inr (.inr (fun i => some (a (13 + 2 * i)))))))), (a (13 + 2 * 0), .inr (3, [.int (hs 0), .int (ln 0), .int (nI (le 0)), .ref (a (14 + 2 * 0))])), (a (14 + 2 * 0), .inl (cI, 60, .inl (rr 0))), (a (13 + 2 * 1), .inr (3, [.int (hs 1), .int (ln 1), .int (nI (le 1)), .ref (a (14 + 2 * 1))])), (a (14 + 2 * 1), .inl (cI, 60, .inl (rr 1))), (a (13 + 2 * 2), .inr (3, [.int (hs 2), .int (ln 2), .int (nI (le 2)), .ref (a (14 + 2 * 2))])), (a (14 + 2 * 2), .inl (cI, 60, .inl (rr 2))), (a (13 + 2 * 3), .inr (3, [.int (hs 3), .int (ln 3), .int (nI (le 3)), .ref (a (14 + 2 * 3))])), (a (14 + 2 * 3), .inl (cI, 60, .inl (rr 3)))] H ∧ va_D A [(a 0, .inr (4, [.ref (a 1), .ref (a 5), .ref (a 9), .ref (a 12), .int 3, .int tr])), (a 1, .inr (0, [.int (nI h), .int (nI w), .int pc, .int br, .ref (a 2), .ref (a 3), .ref (a 4)])), (a 2, .inl (cI, 16, .inl kd)), (a 3, .inl (cI, 16, .inl et)), (a 4, .inl (cI, 64, .inl nb)), (a 12, .inl (cO, 4, .inr (.inr (.inr (.inr (fun i => some (a (13 + 2 * i)))))))), (a (13 + 2 * 0), .inr (3, [.int (hs 0), .int (ln 0), .int (nI (le 0)), .ref (a (14 + 2 * 0))])), (a (14 + 2 * 0), .inl (cI, 60, .inl (rr 0))), (a (13 + 2 * 1), .inr (3, [.int (hs 1), .int (ln 1), .int (nI (le 1)), .ref (a (14 + 2 * 1))])), (a (14 + 2 * 1), .inl (cI, 60, .inl (rr 1))), (a (13 + 2 * 2), .inr (3, [.int (hs 2), .int (ln 2), .int (nI (le 2)), .ref (a (14 + 2 * 2))])), (a (14 + 2 * 2), .inl (cI, 60, .inl (rr 2))), (a (13 + 2 * 3), .inr (3, [.int (hs 3), .int (ln 3), .int (nI (le 3)), .ref (a (14 + 2 * 3))])), (a (14 + 2 * 3), .inl (cI, 60, .inl (rr 3)))] := by
                              rcases (show kj = 0 ∨ kj = 1 ∨ kj = 2 ∨ kj = 3 by omega) with hz | hz | hz | hz <;> subst hz
                              · exact ⟨hP.sub [0, 1, 2, 3, 4, 5, 6, 7, 8, 9, 10, 11, 12, 13] rfl, hD.sub [0, 1, 2, 3, 4, 5, 6, 7, 8, 9, 10, 11, 12, 13] (by decide) rfl⟩
                              · exact ⟨hP.sub [0, 1, 2, 3, 4, 5, 8, 9, 6, 7, 10, 11, 12, 13] rfl, hD.sub [0, 1, 2, 3, 4, 5, 8, 9, 6, 7, 10, 11, 12, 13] (by decide) rfl⟩
                              · exact ⟨hP.sub [0, 1, 2, 3, 4, 5, 8, 9, 10, 11, 6, 7, 12, 13] rfl, hD.sub [0, 1, 2, 3, 4, 5, 8, 9, 10, 11, 6, 7, 12, 13] (by decide) rfl⟩
                              · exact ⟨hP.sub [0, 1, 2, 3, 4, 5, 8, 9, 10, 11, 12, 13, 6, 7] rfl, hD.sub [0, 1, 2, 3, 4, 5, 8, 9, 10, 11, 12, 13, 6, 7] (by decide) rfl⟩
                            refine mi_ret (v := ((-10) - 3)) hx hb hr hlk hP hD hS dX4_path_141 ?_
                            rw [(show ptE (h * w) pc br kd et hs ln le ws c k x i n v kj = paX (fltF (hs kj) (ln kj) x) i n (le kj) from by rw [ptE, if_pos ⟨c_3, c_6⟩, if_pos ⟨c_26, ⟨⟨c_9, c21⟩, cv4⟩⟩, if_pos c_32]).trans cx]
                            refine ⟨?_, rfl⟩
                            rw [ptR, if_pos ⟨c_3, c_6⟩, if_pos ⟨c_26, ⟨⟨c_9, c21⟩, cv4⟩⟩, if_pos c_32, if_neg cx0]
                            rw [cx] <;> rfl
                    · have c_32 := b2_f c_32
                      refine lv_bipush (v := (-3)) hx hb dX4_path_90 (by decide) ?_
                      refine mi_ret (v := (-3)) hx hb hr hlk hP hD hS dX4_path_92 ?_
                      rw [show ptE (h * w) pc br kd et hs ln le ws c k x i n v kj = _ from by rw [ptE, if_pos ⟨c_3, c_6⟩, if_pos ⟨c_26, ⟨⟨c_9, c21⟩, cv4⟩⟩, if_neg c_32]]
                      refine ⟨?_, rfl⟩
                      rw [ptR, if_pos ⟨c_3, c_6⟩, if_pos ⟨c_26, ⟨⟨c_9, c21⟩, cv4⟩⟩, if_neg c_32] <;> rfl
                  · have cv4 : ¬ inN v 4 := by simp only [inN, softP, btw, inS, ripP, Int32.lt_iff_toInt_lt, Int32.le_iff_toInt_le, ← Int32.toInt_inj, ti_0, ti_1, ti_2, ti_3, ti_4, ti_8, ti_9, ti_10, ti_14, ti_15, ti_20, ti_60, ti_m1] at c_28 c_29 ⊢; omega
                    refine lv_bipush (v := (-2)) hx hb dX4_path_75 (by decide) ?_
                    refine mi_ret (v := (-2)) hx hb hr hlk hP hD hS dX4_path_77 ?_
                    rw [show ptE (h * w) pc br kd et hs ln le ws c k x i n v kj = _ from by rw [ptE, if_pos ⟨c_3, c_6⟩, if_neg (fun z => (fun z => cv4 z.2) z.2)]]
                    refine ⟨?_, rfl⟩
                    rw [ptR, if_pos ⟨c_3, c_6⟩, if_neg (fun z => (fun z => cv4 z.2) z.2)] <;> rfl
    · have c_6 := b2_f c_6
      refine lv_iconst (v := (-1)) hx hb dX4_path_23 (by decide) ?_
      refine mi_ret (v := (-1)) hx hb hr hlk hP hD hS dX4_path_24 ?_
      rw [show ptE (h * w) pc br kd et hs ln le ws c k x i n v kj = _ from by rw [ptE, if_neg (fun z => c_6 z.2)]]
      refine ⟨?_, rfl⟩
      rw [ptR, if_neg (fun z => c_6 z.2)] <;> rfl
