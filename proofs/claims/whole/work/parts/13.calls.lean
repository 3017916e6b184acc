theorem iwX4_failed_X4 : ∀ x ∈ wsX40, x ∈ wsX4_failed := by decide +kernel
set_option maxRecDepth 100000 in
set_option maxHeartbeats 4000000 in
/-- X4_failed -/
theorem c_X4_failed (l : Launch) (D : va_G) (cI cJ cO : ClassId) (a : Nat → Nat) (ft : Int32) (tr : Int32) (x : Int32) : MG l yX4_failed wsX4_failed 0 0 0 0 D [(cI, .int), (cJ, .long), (cO, .object "ShornHill$Sheet")] [.ref (a 0), .int x] [(a 0, .inr (4, [.ref (a 1), .ref (a 5), .ref (a 9), .ref (a 12), .int ft, .int tr]))] (QI D (fun (r : Int32) (w1 : va_W) => r = ((-10) - x) ∧ w1 = [(a 0, .inr (4, [.ref (a 1), .ref (a 5), .ref (a 9), .ref (a 12), .int x, .int tr]))])) := by
  refine MG.of (cc := cX4_failed) (maxL := 2) (ret := (some .int)) (by decide) rfl (Nat.le_of_ble_eq_true rfl) ?_
  intro P_ E_ S_ M_ B_ T_ K_ hx hb hml hr hts hown hlk hnm A hA hP hK hD hS ls hl
  have hl : lv_has ls 2 [(0, .ref (a 0)), (1, .int x)] := hl
  have hin4 : ∀ x ∈ u_ws RX4 TX4 6, x ∈ wsX4_failed := iwX4_failed_X4
  refine lv_aload_n hx hb dX4_failed_0 rfl (lv_at hl 0 rfl) ?_
  refine lv_iload_n hx hb dX4_failed_1 rfl (lv_at hl 1 rfl) ?_
  refine va_put (D := D) (ci := 4) (v := .int x) (ty := .int) (C := RX4) (T := TX4) (N := 6) hx hb hts hin4 tyX4 tyX4_ok nmX4 hown hK.1 hP hD hS 0 rfl rfl 4 (by decide) (hts _ (List.mem_of_getElem? (i := 1) rfl)) (fun _ h9 => h9) rfl (by decide +kernel) rfl rfl (Nat.le_of_ble_eq_true rfl) dX4_failed_2 (fun H locs hP hD hS => ?_)
  have hP : va_P D vwCl [(a 0, .inr (4, [.ref (a 1), .ref (a 5), .ref (a 9), .ref (a 12), .int x, .int tr]))] H := hP
  have hD : va_D A [(a 0, .inr (4, [.ref (a 1), .ref (a 5), .ref (a 9), .ref (a 12), .int x, .int tr]))] := hD
  refine lv_bipush (v := (-10)) hx hb dX4_failed_5 (by decide) ?_
  refine lv_iload_n hx hb dX4_failed_7 rfl (lv_at hl 1 rfl) ?_
  refine lv_isub hx hb dX4_failed_8 ?_
  refine mi_ret (v := ((-10) - x)) hx hb hr hlk hP hD hS dX4_failed_9 ?_
  exact ⟨rfl, rfl⟩
theorem iwX4_trace_X4 : ∀ x ∈ wsX40, x ∈ wsX4_trace := by decide +kernel
set_option maxRecDepth 100000 in
set_option maxHeartbeats 4000000 in
/-- X4_trace -/
theorem c_X4_trace (l : Launch) (D : va_G) (cI cJ cO : ClassId) (a : Nat → Nat) (ft : Int32) (tr : Int32) : RG l yX4_trace wsX4_trace 0 0 D [(cI, .int), (cJ, .long), (cO, .object "ShornHill$Sheet")] [.ref (a 0)] [(a 0, .inr (4, [.ref (a 1), .ref (a 5), .ref (a 9), .ref (a 12), .int ft, .int tr]))] (vp_Si (fun (r : Int32) => r = tr)) := by
  refine RG.of (cc := cX4_trace) (maxL := 1) (ret := (some .int)) (by decide) rfl (Nat.le_of_ble_eq_true rfl) ?_
  intro P_ E_ S_ M_ B_ T_ K_ hx hb hml hr hts hown hlk hP hK ls hl
  have hl : lv_has ls 1 [(0, .ref (a 0))] := hl
  have hin4 : ∀ x ∈ u_ws RX4 TX4 6, x ∈ wsX4_trace := iwX4_trace_X4
  refine lv_aload_n hx hb dX4_trace_0 rfl (lv_at hl 0 rfl) ?_
  refine va_get (D := D) (ci := 4) (v := .int tr) (C := RX4) (T := TX4) (N := 6) hx hb hts hin4 hown hK.1 hP 0 rfl rfl 5 (by decide) (hts _ (List.mem_of_getElem? (i := 1) rfl)) (fun _ h9 => h9) rfl dX4_trace_1 ?_
  refine ri_ret (v := tr) hx hb hr hlk dX4_trace_4 ?_
  rfl
theorem iwX4_fault_X4 : ∀ x ∈ wsX40, x ∈ wsX4_fault := by decide +kernel
set_option maxRecDepth 100000 in
set_option maxHeartbeats 4000000 in
/-- X4_fault -/
theorem c_X4_fault (l : Launch) (D : va_G) (cI cJ cO : ClassId) (a : Nat → Nat) (ft : Int32) (tr : Int32) : RG l yX4_fault wsX4_fault 0 0 D [(cI, .int), (cJ, .long), (cO, .object "ShornHill$Sheet")] [.ref (a 0)] [(a 0, .inr (4, [.ref (a 1), .ref (a 5), .ref (a 9), .ref (a 12), .int ft, .int tr]))] (vp_Si (fun (r : Int32) => r = ft)) := by
  refine RG.of (cc := cX4_fault) (maxL := 1) (ret := (some .int)) (by decide) rfl (Nat.le_of_ble_eq_true rfl) ?_
  intro P_ E_ S_ M_ B_ T_ K_ hx hb hml hr hts hown hlk hP hK ls hl
  have hl : lv_has ls 1 [(0, .ref (a 0))] := hl
  have hin4 : ∀ x ∈ u_ws RX4 TX4 6, x ∈ wsX4_fault := iwX4_fault_X4
  refine lv_aload_n hx hb dX4_fault_0 rfl (lv_at hl 0 rfl) ?_
  refine va_get (D := D) (ci := 4) (v := .int ft) (C := RX4) (T := TX4) (N := 6) hx hb hts hin4 hown hK.1 hP 0 rfl rfl 4 (by decide) (hts _ (List.mem_of_getElem? (i := 1) rfl)) (fun _ h9 => h9) rfl dX4_fault_1 ?_
  refine ri_ret (v := ft) hx hb hr hlk dX4_fault_4 ?_
  rfl
theorem iwX4_begin_X4 : ∀ x ∈ wsX40, x ∈ wsX4_begin := by decide +kernel
set_option maxRecDepth 100000 in
set_option maxHeartbeats 4000000 in
/-- X4_begin -/
theorem c_X4_begin (l : Launch) (D : va_G) (cI cJ cO : ClassId) (a : Nat → Nat) (ft : Int32) (tr : Int32) (x : Int32) : MG l yX4_begin wsX4_begin 0 0 0 0 D [(cI, .int), (cJ, .long), (cO, .object "ShornHill$Sheet")] [.ref (a 0), .int x] [(a 0, .inr (4, [.ref (a 1), .ref (a 5), .ref (a 9), .ref (a 12), .int ft, .int tr]))] (QV D (fun (w1 : va_W) => w1 = [(a 0, .inr (4, [.ref (a 1), .ref (a 5), .ref (a 9), .ref (a 12), .int ft, .int (beg tr x)]))])) := by
  refine MG.of (cc := cX4_begin) (maxL := 2) (ret := none) (by decide) rfl (Nat.le_of_ble_eq_true rfl) ?_
  intro P_ E_ S_ M_ B_ T_ K_ hx hb hml hr hts hown hlk hnm A hA hP hK hD hS ls hl
  have hl : lv_has ls 2 [(0, .ref (a 0)), (1, .int x)] := hl
  have hin4 : ∀ x ∈ u_ws RX4 TX4 6, x ∈ wsX4_begin := iwX4_begin_X4
  refine lv_aload_n hx hb dX4_begin_0 rfl (lv_at hl 0 rfl) ?_
  refine lv_bipush (v := 31) hx hb dX4_begin_1 (by decide) ?_
  refine lv_aload_n hx hb dX4_begin_3 rfl (lv_at hl 0 rfl) ?_
  refine va_get (D := D) (ci := 4) (v := .int tr) (C := RX4) (T := TX4) (N := 6) hx hb hts hin4 hown hK.1 hP 0 rfl rfl 5 (by decide) (hts _ (List.mem_of_getElem? (i := 1) rfl)) (fun _ h9 => h9) rfl dX4_begin_4 ?_
  refine lv_imul hx hb dX4_begin_7 ?_
  refine lv_iload_n hx hb dX4_begin_8 rfl (lv_at hl 1 rfl) ?_
  refine lv_iadd hx hb dX4_begin_9 ?_
  refine va_put (D := D) (ci := 4) (v := .int ((31 * tr) + x)) (ty := .int) (C := RX4) (T := TX4) (N := 6) hx hb hts hin4 tyX4 tyX4_ok nmX4 hown hK.1 hP hD hS 0 rfl rfl 5 (by decide) (hts _ (List.mem_of_getElem? (i := 1) rfl)) (fun _ h9 => h9) rfl (by decide +kernel) rfl rfl (Nat.le_of_ble_eq_true rfl) dX4_begin_10 (fun H locs hP hD hS => ?_)
  have hP : va_P D vwCl [(a 0, .inr (4, [.ref (a 1), .ref (a 5), .ref (a 9), .ref (a 12), .int ft, .int ((31 * tr) + x)]))] H := hP
  have hD : va_D A [(a 0, .inr (4, [.ref (a 1), .ref (a 5), .ref (a 9), .ref (a 12), .int ft, .int ((31 * tr) + x)]))] := hD
  refine mv_ret hx hb hr hlk hP hD hS dX4_begin_13 ?_
  rfl
theorem iwX4_grassTells_X0 : ∀ x ∈ wsX00, x ∈ wsX4_grassTells := by decide +kernel
theorem iwX4_grassTells_X4 : ∀ x ∈ wsX40, x ∈ wsX4_grassTells := by decide +kernel
set_option maxRecDepth 100000 in
set_option maxHeartbeats 4000000 in
/-- X4_grassTells -/
theorem c_X4_grassTells (l : Launch) (D : va_G) (cI cJ cO : ClassId) (a : Nat → Nat) (ft : Int32) (tr : Int32) (h : Nat) (w : Nat) (pc : Int32) (br : Int32) (kd : Nat → Int32) (et : Nat → Int32) (nb : Nat → Int32) (c : Int32) (j : Nat) (hv_c : vp_in c 16) (hj_c : c.toNatClampNeg = j) : MG l yX4_grassTells wsX4_grassTells 1 21 0 0 D [(cI, .int), (cJ, .long), (cO, .object "ShornHill$Sheet")] [.ref (a 0), .int c] [(a 0, .inr (4, [.ref (a 1), .ref (a 5), .ref (a 9), .ref (a 12), .int ft, .int tr])), (a 1, .inr (0, [.int (nI h), .int (nI w), .int pc, .int br, .ref (a 2), .ref (a 3), .ref (a 4)])), (a 2, .inl (cI, 16, .inl kd)), (a 3, .inl (cI, 16, .inl et)), (a 4, .inl (cI, 64, .inl nb))] (QI D (fun (r : Int32) (w1 : va_W) => r = (et j) ∧ w1 = [(a 0, .inr (4, [.ref (a 1), .ref (a 5), .ref (a 9), .ref (a 12), .int ft, .int (beg tr 1)])), (a 1, .inr (0, [.int (nI h), .int (nI w), .int pc, .int br, .ref (a 2), .ref (a 3), .ref (a 4)])), (a 2, .inl (cI, 16, .inl kd)), (a 3, .inl (cI, 16, .inl et)), (a 4, .inl (cI, 64, .inl nb))])) := by
  refine MG.of (cc := cX4_grassTells) (maxL := 2) (ret := (some .int)) (by decide) rfl (Nat.le_of_ble_eq_true rfl) ?_
  intro P_ E_ S_ M_ B_ T_ K_ hx hb hml hr hts hown hlk hnm A hA hP hK hD hS ls hl
  have hl : lv_has ls 2 [(0, .ref (a 0)), (1, .int c)] := hl
  have hin0 : ∀ x ∈ u_ws RX0 TX0 7, x ∈ wsX4_grassTells := iwX4_grassTells_X0
  have hin4 : ∀ x ∈ u_ws RX4 TX4 6, x ∈ wsX4_grassTells := iwX4_grassTells_X4
  refine lv_aload_n hx hb dX4_grassTells_0 rfl (lv_at hl 0 rfl) ?_
  refine lv_iconst (v := 1) hx hb dX4_grassTells_1 (by decide) ?_
  refine k_mv (wr := [(a 1, .inr (0, [.int (nI h), .int (nI w), .int pc, .int br, .ref (a 2), .ref (a 3), .ref (a 4)])), (a 2, .inl (cI, 16, .inl kd)), (a 3, .inl (cI, 16, .inl et)), (a 4, .inl (cI, 64, .inl nb))]) [0] [1, 2, 3, 4] (run_MV (As := [.int 1]) (rest := []) ⟨hx, hb, hml, hown, hts⟩ (c_X4_begin l D cI cJ cO a ft tr 1) (cwV 1 hts gX4_grassTells_X4_begin rfl rfl rfl (by decide +kernel) ⟨Nat.le_of_ble_eq_true rfl, Nat.le_of_ble_eq_true rfl⟩) hP hK hD [0] (by decide) rfl rfl rfl rfl rfl hl.1 rfl (Nat.le_of_ble_eq_true rfl) dX4_grassTells_2 ⟨Nat.le_refl _, Nat.le_refl _⟩) hP hD hS hA rfl rfl (by decide) (by decide) (fun w_3 H locs q_2 hP hD hS => ?_)
  obtain rfl := q_2
  have hP : va_P D vwCl [(a 0, .inr (4, [.ref (a 1), .ref (a 5), .ref (a 9), .ref (a 12), .int ft, .int (beg tr 1)])), (a 1, .inr (0, [.int (nI h), .int (nI w), .int pc, .int br, .ref (a 2), .ref (a 3), .ref (a 4)])), (a 2, .inl (cI, 16, .inl kd)), (a 3, .inl (cI, 16, .inl et)), (a 4, .inl (cI, 64, .inl nb))] H := hP.sub [4, 0, 1, 2, 3] rfl
  have hD : va_D A [(a 0, .inr (4, [.ref (a 1), .ref (a 5), .ref (a 9), .ref (a 12), .int ft, .int (beg tr 1)])), (a 1, .inr (0, [.int (nI h), .int (nI w), .int pc, .int br, .ref (a 2), .ref (a 3), .ref (a 4)])), (a 2, .inl (cI, 16, .inl kd)), (a 3, .inl (cI, 16, .inl et)), (a 4, .inl (cI, 64, .inl nb))] := hD.sub [4, 0, 1, 2, 3] (by decide) rfl
  refine lv_aload_n hx hb dX4_grassTells_5 rfl (lv_at hl 0 rfl) ?_
  refine va_get (D := D) (ci := 4) (v := .ref (a 1)) (C := RX4) (T := TX4) (N := 6) hx hb hts hin4 hown hK.1 hP 0 rfl rfl 0 (by decide) (hts _ (List.mem_of_getElem? (i := 1) rfl)) (fun _ h9 => h9) rfl dX4_grassTells_6 ?_
  refine va_getN (D := D) (ci := 0) (v := .ref (a 3)) (C := RX0) (T := TX0) (N := 7) hx hb hts hin0 hown hK.1 hP 1 rfl rfl 5 (by decide) (va_Nw.use rfl (nw_X4_97 hK)) (fun _ h9 => h9) rfl dX4_grassTells_9 ?_
  refine lv_iload_n hx hb dX4_grassTells_12 rfl (lv_at hl 1 rfl) ?_
  refine k_iald hx hb hK hP 3 0 rfl rfl (j := j) hv_c hj_c dX4_grassTells_13 ?_
  refine mi_ret (v := (et j)) hx hb hr hlk hP hD hS dX4_grassTells_14 ?_
  exact ⟨rfl, rfl⟩
set_option maxRecDepth 100000 in
set_option maxHeartbeats 4000000 in
/-- X4_springTells -/
theorem c_X4_springTells (l : Launch) (D : va_G) (cI cJ cO : ClassId) (a : Nat → Nat) (ft : Int32) (tr : Int32) (h : Nat) (w : Nat) (pc : Int32) (br : Int32) (kd : Nat → Int32) (et : Nat → Int32) (nb : Nat → Int32) (c : Int32) (j : Nat) (hv_c : vp_in c 16) (hj_c : c.toNatClampNeg = j) : MG l yX4_springTells wsX4_springTells 2 42 0 0 D [(cI, .int), (cJ, .long), (cO, .object "ShornHill$Sheet")] [.ref (a 0), .int c] [(a 0, .inr (4, [.ref (a 1), .ref (a 5), .ref (a 9), .ref (a 12), .int ft, .int tr])), (a 1, .inr (0, [.int (nI h), .int (nI w), .int pc, .int br, .ref (a 2), .ref (a 3), .ref (a 4)])), (a 2, .inl (cI, 16, .inl kd)), (a 3, .inl (cI, 16, .inl et)), (a 4, .inl (cI, 64, .inl nb))] (QI D (fun (r : Int32) (w1 : va_W) => r = (et j + 100) ∧ w1 = [(a 0, .inr (4, [.ref (a 1), .ref (a 5), .ref (a 9), .ref (a 12), .int ft, .int (beg (beg tr 2) 1)])), (a 1, .inr (0, [.int (nI h), .int (nI w), .int pc, .int br, .ref (a 2), .ref (a 3), .ref (a 4)])), (a 2, .inl (cI, 16, .inl kd)), (a 3, .inl (cI, 16, .inl et)), (a 4, .inl (cI, 64, .inl nb))])) := by
  refine MG.of (cc := cX4_springTells) (maxL := 2) (ret := (some .int)) (by decide) rfl (Nat.le_of_ble_eq_true rfl) ?_
  intro P_ E_ S_ M_ B_ T_ K_ hx hb hml hr hts hown hlk hnm A hA hP hK hD hS ls hl
  have hl : lv_has ls 2 [(0, .ref (a 0)), (1, .int c)] := hl
  refine lv_aload_n hx hb dX4_springTells_0 rfl (lv_at hl 0 rfl) ?_
  refine lv_iconst (v := 2) hx hb dX4_springTells_1 (by decide) ?_
  refine k_mv (wr := [(a 1, .inr (0, [.int (nI h), .int (nI w), .int pc, .int br, .ref (a 2), .ref (a 3), .ref (a 4)])), (a 2, .inl (cI, 16, .inl kd)), (a 3, .inl (cI, 16, .inl et)), (a 4, .inl (cI, 64, .inl nb))]) [0] [1, 2, 3, 4] (run_MV (As := [.int 2]) (rest := []) ⟨hx, hb, hml, hown, hts⟩ (c_X4_begin l D cI cJ cO a ft tr 2) (cwV 1 hts gX4_springTells_X4_begin rfl rfl rfl (by decide +kernel) ⟨Nat.le_of_ble_eq_true rfl, Nat.le_of_ble_eq_true rfl⟩) hP hK hD [0] (by decide) rfl rfl rfl rfl rfl hl.1 rfl (Nat.le_of_ble_eq_true rfl) dX4_springTells_2 ⟨Nat.le_refl _, Nat.le_refl _⟩) hP hD hS hA rfl rfl (by decide) (by decide) (fun w_3 H locs q_2 hP hD hS => ?_)
  obtain rfl := q_2
  have hP : va_P D vwCl [(a 0, .inr (4, [.ref (a 1), .ref (a 5), .ref (a 9), .ref (a 12), .int ft, .int (beg tr 2)])), (a 1, .inr (0, [.int (nI h), .int (nI w), .int pc, .int br, .ref (a 2), .ref (a 3), .ref (a 4)])), (a 2, .inl (cI, 16, .inl kd)), (a 3, .inl (cI, 16, .inl et)), (a 4, .inl (cI, 64, .inl nb))] H := hP.sub [4, 0, 1, 2, 3] rfl
  have hD : va_D A [(a 0, .inr (4, [.ref (a 1), .ref (a 5), .ref (a 9), .ref (a 12), .int ft, .int (beg tr 2)])), (a 1, .inr (0, [.int (nI h), .int (nI w), .int pc, .int br, .ref (a 2), .ref (a 3), .ref (a 4)])), (a 2, .inl (cI, 16, .inl kd)), (a 3, .inl (cI, 16, .inl et)), (a 4, .inl (cI, 64, .inl nb))] := hD.sub [4, 0, 1, 2, 3] (by decide) rfl
  refine lv_aload_n hx hb dX4_springTells_5 rfl (lv_at hl 0 rfl) ?_
  refine lv_iload_n hx hb dX4_springTells_6 rfl (lv_at hl 1 rfl) ?_
  refine k_mi (wr := []) [0, 1, 2, 3, 4] [] (run_MV (As := [.int c]) (rest := []) ⟨hx, hb, hml, hown, hts⟩ (c_X4_grassTells l D cI cJ cO a ft (beg tr 2) h w pc br kd et nb c j hv_c hj_c) (cwV 1 hts gX4_springTells_X4_grassTells rfl rfl rfl (by decide +kernel) ⟨Nat.le_of_ble_eq_true rfl, Nat.le_of_ble_eq_true rfl⟩) hP hK hD [0, 1, 2, 3, 4] (by decide) rfl rfl rfl rfl rfl hl.1 rfl (Nat.le_of_ble_eq_true rfl) dX4_springTells_7 ⟨Nat.le_refl _, Nat.le_refl _⟩) hP hD hS hA rfl rfl (by decide) (by decide) (fun r_4 w_6 H locs q_5 hP hD hS => ?_)
  obtain ⟨rfl, rfl⟩ := q_5
  have hP : va_P D vwCl [(a 0, .inr (4, [.ref (a 1), .ref (a 5), .ref (a 9), .ref (a 12), .int ft, .int (beg (beg tr 2) 1)])), (a 1, .inr (0, [.int (nI h), .int (nI w), .int pc, .int br, .ref (a 2), .ref (a 3), .ref (a 4)])), (a 2, .inl (cI, 16, .inl kd)), (a 3, .inl (cI, 16, .inl et)), (a 4, .inl (cI, 64, .inl nb))] H := hP.sub [0, 1, 2, 3, 4] rfl
  have hD : va_D A [(a 0, .inr (4, [.ref (a 1), .ref (a 5), .ref (a 9), .ref (a 12), .int ft, .int (beg (beg tr 2) 1)])), (a 1, .inr (0, [.int (nI h), .int (nI w), .int pc, .int br, .ref (a 2), .ref (a 3), .ref (a 4)])), (a 2, .inl (cI, 16, .inl kd)), (a 3, .inl (cI, 16, .inl et)), (a 4, .inl (cI, 64, .inl nb))] := hD.sub [0, 1, 2, 3, 4] (by decide) rfl
  refine lv_bipush (v := 100) hx hb dX4_springTells_10 (by decide) ?_
  refine lv_iadd hx hb dX4_springTells_12 ?_
  refine mi_ret (v := ((et j) + 100)) hx hb hr hlk hP hD hS dX4_springTells_13 ?_
  exact ⟨rfl, rfl⟩
set_option maxRecDepth 100000 in
set_option maxHeartbeats 4000000 in
/-- X4_hollowTells -/
theorem c_X4_hollowTells (l : Launch) (D : va_G) (cI cJ cO : ClassId) (a : Nat → Nat) (ft : Int32) (tr : Int32) (h : Nat) (w : Nat) (pc : Int32) (br : Int32) (kd : Nat → Int32) (et : Nat → Int32) (nb : Nat → Int32) (c : Int32) (j : Nat) (hv_c : vp_in c 16) (hj_c : c.toNatClampNeg = j) : MG l yX4_hollowTells wsX4_hollowTells 3 63 0 0 D [(cI, .int), (cJ, .long), (cO, .object "ShornHill$Sheet")] [.ref (a 0), .int c] [(a 0, .inr (4, [.ref (a 1), .ref (a 5), .ref (a 9), .ref (a 12), .int ft, .int tr])), (a 1, .inr (0, [.int (nI h), .int (nI w), .int pc, .int br, .ref (a 2), .ref (a 3), .ref (a 4)])), (a 2, .inl (cI, 16, .inl kd)), (a 3, .inl (cI, 16, .inl et)), (a 4, .inl (cI, 64, .inl nb))] (QI D (fun (r : Int32) (w1 : va_W) => r = ((et j + 100) + et j) ∧ w1 = [(a 0, .inr (4, [.ref (a 1), .ref (a 5), .ref (a 9), .ref (a 12), .int ft, .int (beg (beg (beg (beg tr 3) 2) 1) 1)])), (a 1, .inr (0, [.int (nI h), .int (nI w), .int pc, .int br, .ref (a 2), .ref (a 3), .ref (a 4)])), (a 2, .inl (cI, 16, .inl kd)), (a 3, .inl (cI, 16, .inl et)), (a 4, .inl (cI, 64, .inl nb))])) := by
  refine MG.of (cc := cX4_hollowTells) (maxL := 3) (ret := (some .int)) (by decide) rfl (Nat.le_of_ble_eq_true rfl) ?_
  intro P_ E_ S_ M_ B_ T_ K_ hx hb hml hr hts hown hlk hnm A hA hP hK hD hS ls hl
  have hl : lv_has ls 3 [(0, .ref (a 0)), (1, .int c)] := hl
  refine lv_aload_n hx hb dX4_hollowTells_0 rfl (lv_at hl 0 rfl) ?_
  refine lv_iconst (v := 3) hx hb dX4_hollowTells_1 (by decide) ?_
  refine k_mv (wr := [(a 1, .inr (0, [.int (nI h), .int (nI w), .int pc, .int br, .ref (a 2), .ref (a 3), .ref (a 4)])), (a 2, .inl (cI, 16, .inl kd)), (a 3, .inl (cI, 16, .inl et)), (a 4, .inl (cI, 64, .inl nb))]) [0] [1, 2, 3, 4] (run_MV (As := [.int 3]) (rest := []) ⟨hx, hb, hml, hown, hts⟩ (c_X4_begin l D cI cJ cO a ft tr 3) (cwV 1 hts gX4_hollowTells_X4_begin rfl rfl rfl (by decide +kernel) ⟨Nat.le_of_ble_eq_true rfl, Nat.le_of_ble_eq_true rfl⟩) hP hK hD [0] (by decide) rfl rfl rfl rfl rfl hl.1 rfl (Nat.le_of_ble_eq_true rfl) dX4_hollowTells_2 ⟨Nat.le_refl _, Nat.le_refl _⟩) hP hD hS hA rfl rfl (by decide) (by decide) (fun w_3 H locs q_2 hP hD hS => ?_)
  obtain rfl := q_2
  have hP : va_P D vwCl [(a 0, .inr (4, [.ref (a 1), .ref (a 5), .ref (a 9), .ref (a 12), .int ft, .int (beg tr 3)])), (a 1, .inr (0, [.int (nI h), .int (nI w), .int pc, .int br, .ref (a 2), .ref (a 3), .ref (a 4)])), (a 2, .inl (cI, 16, .inl kd)), (a 3, .inl (cI, 16, .inl et)), (a 4, .inl (cI, 64, .inl nb))] H := hP.sub [4, 0, 1, 2, 3] rfl
  have hD : va_D A [(a 0, .inr (4, [.ref (a 1), .ref (a 5), .ref (a 9), .ref (a 12), .int ft, .int (beg tr 3)])), (a 1, .inr (0, [.int (nI h), .int (nI w), .int pc, .int br, .ref (a 2), .ref (a 3), .ref (a 4)])), (a 2, .inl (cI, 16, .inl kd)), (a 3, .inl (cI, 16, .inl et)), (a 4, .inl (cI, 64, .inl nb))] := hD.sub [4, 0, 1, 2, 3] (by decide) rfl
  refine lv_aload_n hx hb dX4_hollowTells_5 rfl (lv_at hl 0 rfl) ?_
  refine lv_iload_n hx hb dX4_hollowTells_6 rfl (lv_at hl 1 rfl) ?_
  refine k_mi (wr := []) [0, 1, 2, 3, 4] [] (run_MV (As := [.int c]) (rest := []) ⟨hx, hb, hml, hown, hts⟩ (c_X4_springTells l D cI cJ cO a ft (beg tr 3) h w pc br kd et nb c j hv_c hj_c) (cwV 1 hts gX4_hollowTells_X4_springTells rfl rfl rfl (by decide +kernel) ⟨Nat.le_of_ble_eq_true rfl, Nat.le_of_ble_eq_true rfl⟩) hP hK hD [0, 1, 2, 3, 4] (by decide) rfl rfl rfl rfl rfl hl.1 rfl (Nat.le_of_ble_eq_true rfl) dX4_hollowTells_7 ⟨Nat.le_refl _, Nat.le_refl _⟩) hP hD hS hA rfl rfl (by decide) (by decide) (fun r_4 w_6 H locs q_5 hP hD hS => ?_)
  obtain ⟨rfl, rfl⟩ := q_5
  have hP : va_P D vwCl [(a 0, .inr (4, [.ref (a 1), .ref (a 5), .ref (a 9), .ref (a 12), .int ft, .int (beg (beg (beg tr 3) 2) 1)])), (a 1, .inr (0, [.int (nI h), .int (nI w), .int pc, .int br, .ref (a 2), .ref (a 3), .ref (a 4)])), (a 2, .inl (cI, 16, .inl kd)), (a 3, .inl (cI, 16, .inl et)), (a 4, .inl (cI, 64, .inl nb))] H := hP.sub [0, 1, 2, 3, 4] rfl
  have hD : va_D A [(a 0, .inr (4, [.ref (a 1), .ref (a 5), .ref (a 9), .ref (a 12), .int ft, .int (beg (beg (beg tr 3) 2) 1)])), (a 1, .inr (0, [.int (nI h), .int (nI w), .int pc, .int br, .ref (a 2), .ref (a 3), .ref (a 4)])), (a 2, .inl (cI, 16, .inl kd)), (a 3, .inl (cI, 16, .inl et)), (a 4, .inl (cI, 64, .inl nb))] := hD.sub [0, 1, 2, 3, 4] (by decide) rfl
  refine lv_istore_n (lv' := [(2, .int (et j + 100)), (0, .ref (a 0)), (1, .int c)]) hx hb dX4_hollowTells_10 rfl hl (by decide) rfl (fun ls hl => ?_)
  refine lv_iload_n hx hb dX4_hollowTells_11 rfl (lv_at hl 0 rfl) ?_
  refine lv_aload_n hx hb dX4_hollowTells_12 rfl (lv_at hl 1 rfl) ?_
  refine lv_iload_n hx hb dX4_hollowTells_13 rfl (lv_at hl 2 rfl) ?_
  refine k_mi (wr := []) [0, 1, 2, 3, 4] [] (run_MV (As := [.int c]) (rest := [.int (et j + 100)]) ⟨hx, hb, hml, hown, hts⟩ (c_X4_grassTells l D cI cJ cO a ft (beg (beg (beg tr 3) 2) 1) h w pc br kd et nb c j hv_c hj_c) (cwV 1 hts gX4_hollowTells_X4_grassTells rfl rfl rfl (by decide +kernel) ⟨Nat.le_of_ble_eq_true rfl, Nat.le_of_ble_eq_true rfl⟩) hP hK hD [0, 1, 2, 3, 4] (by decide) rfl rfl rfl rfl rfl hl.1 rfl (Nat.le_of_ble_eq_true rfl) dX4_hollowTells_14 ⟨Nat.le_refl _, Nat.le_refl _⟩) hP hD hS hA rfl rfl (by decide) (by decide) (fun r_7 w_9 H locs q_8 hP hD hS => ?_)
  obtain ⟨rfl, rfl⟩ := q_8
  have hP : va_P D vwCl [(a 0, .inr (4, [.ref (a 1), .ref (a 5), .ref (a 9), .ref (a 12), .int ft, .int (beg (beg (beg (beg tr 3) 2) 1) 1)])), (a 1, .inr (0, [.int (nI h), .int (nI w), .int pc, .int br, .ref (a 2), .ref (a 3), .ref (a 4)])), (a 2, .inl (cI, 16, .inl kd)), (a 3, .inl (cI, 16, .inl et)), (a 4, .inl (cI, 64, .inl nb))] H := hP.sub [0, 1, 2, 3, 4] rfl
  have hD : va_D A [(a 0, .inr (4, [.ref (a 1), .ref (a 5), .ref (a 9), .ref (a 12), .int ft, .int (beg (beg (beg (beg tr 3) 2) 1) 1)])), (a 1, .inr (0, [.int (nI h), .int (nI w), .int pc, .int br, .ref (a 2), .ref (a 3), .ref (a 4)])), (a 2, .inl (cI, 16, .inl kd)), (a 3, .inl (cI, 16, .inl et)), (a 4, .inl (cI, 64, .inl nb))] := hD.sub [0, 1, 2, 3, 4] (by decide) rfl
  refine lv_iadd hx hb dX4_hollowTells_17 ?_
  refine mi_ret (v := ((et j + 100) + (et j))) hx hb hr hlk hP hD hS dX4_hollowTells_18 ?_
  exact ⟨rfl, rfl⟩
theorem iwX4_tell_X0 : ∀ x ∈ wsX00, x ∈ wsX4_tell := by decide +kernel
theorem iwX4_tell_X4 : ∀ x ∈ wsX40, x ∈ wsX4_tell := by decide +kernel
set_option maxRecDepth 100000 in
set_option maxHeartbeats 4000000 in
/-- X4_tell -/
theorem c_X4_tell (l : Launch) (D : va_G) (cI cJ cO : ClassId) (a : Nat → Nat) (ft : Int32) (tr : Int32) (h : Nat) (w : Nat) (pc : Int32) (br : Int32) (kd : Nat → Int32) (et : Nat → Int32) (nb : Nat → Int32) (c : Int32) (hn : h * w ≤ 16) : MG l yX4_tell wsX4_tell 4 85 0 0 D [(cI, .int), (cJ, .long), (cO, .object "ShornHill$Sheet")] [.ref (a 0), .int c] [(a 0, .inr (4, [.ref (a 1), .ref (a 5), .ref (a 9), .ref (a 12), .int ft, .int tr])), (a 1, .inr (0, [.int (nI h), .int (nI w), .int pc, .int br, .ref (a 2), .ref (a 3), .ref (a 4)])), (a 2, .inl (cI, 16, .inl kd)), (a 3, .inl (cI, 16, .inl et)), (a 4, .inl (cI, 64, .inl nb))] (QI D (fun (r : Int32) (w1 : va_W) => r = (teR (h * w) kd et c) ∧ w1 = [(a 0, .inr (4, [.ref (a 1), .ref (a 5), .ref (a 9), .ref (a 12), .int ft, .int (teT (h * w) kd tr c)])), (a 1, .inr (0, [.int (nI h), .int (nI w), .int pc, .int br, .ref (a 2), .ref (a 3), .ref (a 4)])), (a 2, .inl (cI, 16, .inl kd)), (a 3, .inl (cI, 16, .inl et)), (a 4, .inl (cI, 64, .inl nb))])) := by
  refine MG.of (cc := cX4_tell) (maxL := 2) (ret := (some .int)) (by decide) rfl (Nat.le_of_ble_eq_true rfl) ?_
  intro P_ E_ S_ M_ B_ T_ K_ hx hb hml hr hts hown hlk hnm A hA hP hK hD hS ls hl
  have hl : lv_has ls 2 [(0, .ref (a 0)), (1, .int c)] := hl
  have hin0 : ∀ x ∈ u_ws RX0 TX0 7, x ∈ wsX4_tell := iwX4_tell_X0
  have hin4 : ∀ x ∈ u_ws RX4 TX4 6, x ∈ wsX4_tell := iwX4_tell_X4
  refine lv_aload_n hx hb dX4_tell_0 rfl (lv_at hl 0 rfl) ?_
  refine va_get (D := D) (ci := 4) (v := .ref (a 1)) (C := RX4) (T := TX4) (N := 6) hx hb hts hin4 hown hK.1 hP 0 rfl rfl 0 (by decide) (hts _ (List.mem_of_getElem? (i := 1) rfl)) (fun _ h9 => h9) rfl dX4_tell_1 ?_
  refine lv_iload_n hx hb dX4_tell_4 rfl (lv_at hl 1 rfl) ?_
  refine k_ri (run_RN (As := [.int c]) (rest := []) ⟨hx, hb, hml, hown, hts⟩ (c_X0_isSoft l D cI cJ cO a h w pc br kd et nb c hn) ⟨va_cnB 1 hts ggX4_tell_X0_isSoft rfl rfl rfl (nw_X4_100 hK) (hts _ (List.mem_of_getElem? (i := 3) rfl)) (by decide +kernel) ⟨Nat.le_of_ble_eq_true rfl, Nat.le_of_ble_eq_true rfl⟩, (hts _ (List.mem_of_getElem? (i := 2) rfl)), (hts _ (List.mem_of_getElem? (i := 4) rfl))⟩ hP hK [1, 2, 3, 4] rfl rfl rfl rfl rfl hl.1 rfl (Nat.le_of_ble_eq_true rfl) dX4_tell_5 ⟨Nat.le_refl _, Nat.le_refl _⟩) (fun r_1 q_2 => ?_)
  obtain rfl := q_2
  refine lv_if_ne (tgt := 13) hx hb dX4_tell_8 (by decide) (fun c_3 => ?_) (fun c_3 => ?_)
  · have c_3 := b2_t c_3
    refine lv_aload_n hx hb dX4_tell_13 rfl (lv_at hl 0 rfl) ?_
    refine va_get (D := D) (ci := 4) (v := .ref (a 1)) (C := RX4) (T := TX4) (N := 6) hx hb hts hin4 hown hK.1 hP 0 rfl rfl 0 (by decide) (hts _ (List.mem_of_getElem? (i := 1) rfl)) (fun _ h9 => h9) rfl dX4_tell_14 ?_
    refine va_getN (D := D) (ci := 0) (v := .ref (a 2)) (C := RX0) (T := TX0) (N := 7) hx hb hts hin0 hown hK.1 hP 1 rfl rfl 4 (by decide) (va_Nw.use rfl (nw_X4_91 hK)) (fun _ h9 => h9) rfl dX4_tell_17 ?_
    refine lv_iload_n hx hb dX4_tell_20 rfl (lv_at hl 1 rfl) ?_
    refine k_iald hx hb hK hP 2 0 rfl rfl (j := c.toNatClampNeg) (inN.vp c_3.1 (by omega)) rfl dX4_tell_21 ?_
    by_cases c_4 : (kd c.toNatClampNeg) = 1
    · refine lv_lookup (off := 32) (tgt := 54) hx hb dX4_tell_22 (by decide) (by rw [c_4]; rfl) (by decide) ?_
      refine lv_aload_n hx hb dX4_tell_54 rfl (lv_at hl 0 rfl) ?_
      refine lv_iload_n hx hb dX4_tell_55 rfl (lv_at hl 1 rfl) ?_
      refine k_mi (wr := []) [0, 1, 2, 3, 4] [] (run_MV (As := [.int c]) (rest := []) ⟨hx, hb, hml, hown, hts⟩ (c_X4_springTells l D cI cJ cO a ft tr h w pc br kd et nb c c.toNatClampNeg (inN.vp c_3.1 (by omega)) rfl) (cwV 1 hts gX4_tell_X4_springTells rfl rfl rfl (by decide +kernel) ⟨Nat.le_of_ble_eq_true rfl, Nat.le_of_ble_eq_true rfl⟩) hP hK hD [0, 1, 2, 3, 4] (by decide) rfl rfl rfl rfl rfl hl.1 rfl (Nat.le_of_ble_eq_true rfl) dX4_tell_56 ⟨Nat.le_refl _, Nat.le_refl _⟩) hP hD hS hA rfl rfl (by decide) (by decide) (fun r_5 w_7 H locs q_6 hP hD hS => ?_)
      obtain ⟨rfl, rfl⟩ := q_6
      have hP : va_P D vwCl [(a 0, .inr (4, [.ref (a 1), .ref (a 5), .ref (a 9), .ref (a 12), .int ft, .int (beg (beg tr 2) 1)])), (a 1, .inr (0, [.int (nI h), .int (nI w), .int pc, .int br, .ref (a 2), .ref (a 3), .ref (a 4)])), (a 2, .inl (cI, 16, .inl kd)), (a 3, .inl (cI, 16, .inl et)), (a 4, .inl (cI, 64, .inl nb))] H := hP.sub [0, 1, 2, 3, 4] rfl
      have hD : va_D A [(a 0, .inr (4, [.ref (a 1), .ref (a 5), .ref (a 9), .ref (a 12), .int ft, .int (beg (beg tr 2) 1)])), (a 1, .inr (0, [.int (nI h), .int (nI w), .int pc, .int br, .ref (a 2), .ref (a 3), .ref (a 4)])), (a 2, .inl (cI, 16, .inl kd)), (a 3, .inl (cI, 16, .inl et)), (a 4, .inl (cI, 64, .inl nb))] := hD.sub [0, 1, 2, 3, 4] (by decide) rfl
      refine mi_ret (v := (et c.toNatClampNeg + 100)) hx hb hr hlk hP hD hS dX4_tell_59 ?_
      rw [show teT (h * w) kd tr c = _ from by rw [teT, if_pos c_3, if_pos c_4]]
      refine ⟨?_, rfl⟩
      rw [teR, if_pos c_3, if_pos c_4] <;> rfl
    · by_cases c_8 : (kd c.toNatClampNeg) = 2
      · refine lv_lookup (off := 26) (tgt := 48) hx hb dX4_tell_22 (by decide) (by rw [c_8]; rfl) (by decide) ?_
        refine lv_aload_n hx hb dX4_tell_48 rfl (lv_at hl 0 rfl) ?_
        refine lv_iload_n hx hb dX4_tell_49 rfl (lv_at hl 1 rfl) ?_
        refine k_mi (wr := []) [0, 1, 2, 3, 4] [] (run_MV (As := [.int c]) (rest := []) ⟨hx, hb, hml, hown, hts⟩ (c_X4_hollowTells l D cI cJ cO a ft tr h w pc br kd et nb c c.toNatClampNeg (inN.vp c_3.1 (by omega)) rfl) (cwV 1 hts gX4_tell_X4_hollowTells rfl rfl rfl (by decide +kernel) ⟨Nat.le_of_ble_eq_true rfl, Nat.le_of_ble_eq_true rfl⟩) hP hK hD [0, 1, 2, 3, 4] (by decide) rfl rfl rfl rfl rfl hl.1 rfl (Nat.le_of_ble_eq_true rfl) dX4_tell_50 ⟨Nat.le_refl _, Nat.le_refl _⟩) hP hD hS hA rfl rfl (by decide) (by decide) (fun r_9 w_11 H locs q_10 hP hD hS => ?_)
        obtain ⟨rfl, rfl⟩ := q_10
        have hP : va_P D vwCl [(a 0, .inr (4, [.ref (a 1), .ref (a 5), .ref (a 9), .ref (a 12), .int ft, .int (beg (beg (beg (beg tr 3) 2) 1) 1)])), (a 1, .inr (0, [.int (nI h), .int (nI w), .int pc, .int br, .ref (a 2), .ref (a 3), .ref (a 4)])), (a 2, .inl (cI, 16, .inl kd)), (a 3, .inl (cI, 16, .inl et)), (a 4, .inl (cI, 64, .inl nb))] H := hP.sub [0, 1, 2, 3, 4] rfl
        have hD : va_D A [(a 0, .inr (4, [.ref (a 1), .ref (a 5), .ref (a 9), .ref (a 12), .int ft, .int (beg (beg (beg (beg tr 3) 2) 1) 1)])), (a 1, .inr (0, [.int (nI h), .int (nI w), .int pc, .int br, .ref (a 2), .ref (a 3), .ref (a 4)])), (a 2, .inl (cI, 16, .inl kd)), (a 3, .inl (cI, 16, .inl et)), (a 4, .inl (cI, 64, .inl nb))] := hD.sub [0, 1, 2, 3, 4] (by decide) rfl
        refine mi_ret (v := ((et c.toNatClampNeg + 100) + et c.toNatClampNeg)) hx hb hr hlk hP hD hS dX4_tell_53 ?_
        rw [show teT (h * w) kd tr c = _ from by rw [teT, if_pos c_3, if_neg c_4, if_pos c_8]]
        refine ⟨?_, rfl⟩
        rw [teR, if_pos c_3, if_neg c_4, if_pos c_8] <;> rfl
      · refine lv_lookup (off := 38) (tgt := 60) hx hb dX4_tell_22 (by decide) (by rw [lv_osw c_4 (show (1 : Int32).toInt = 1 from rfl)]; rw [lv_osw c_8 (show (2 : Int32).toInt = 2 from rfl)]; rfl) (by decide) ?_
        refine lv_aload_n hx hb dX4_tell_60 rfl (lv_at hl 0 rfl) ?_
        refine lv_iload_n hx hb dX4_tell_61 rfl (lv_at hl 1 rfl) ?_
        refine k_mi (wr := []) [0, 1, 2, 3, 4] [] (run_MV (As := [.int c]) (rest := []) ⟨hx, hb, hml, hown, hts⟩ (c_X4_grassTells l D cI cJ cO a ft tr h w pc br kd et nb c c.toNatClampNeg (inN.vp c_3.1 (by omega)) rfl) (cwV 1 hts gX4_tell_X4_grassTells rfl rfl rfl (by decide +kernel) ⟨Nat.le_of_ble_eq_true rfl, Nat.le_of_ble_eq_true rfl⟩) hP hK hD [0, 1, 2, 3, 4] (by decide) rfl rfl rfl rfl rfl hl.1 rfl (Nat.le_of_ble_eq_true rfl) dX4_tell_62 ⟨Nat.le_refl _, Nat.le_refl _⟩) hP hD hS hA rfl rfl (by decide) (by decide) (fun r_12 w_14 H locs q_13 hP hD hS => ?_)
        obtain ⟨rfl, rfl⟩ := q_13
        have hP : va_P D vwCl [(a 0, .inr (4, [.ref (a 1), .ref (a 5), .ref (a 9), .ref (a 12), .int ft, .int (beg tr 1)])), (a 1, .inr (0, [.int (nI h), .int (nI w), .int pc, .int br, .ref (a 2), .ref (a 3), .ref (a 4)])), (a 2, .inl (cI, 16, .inl kd)), (a 3, .inl (cI, 16, .inl et)), (a 4, .inl (cI, 64, .inl nb))] H := hP.sub [0, 1, 2, 3, 4] rfl
        have hD : va_D A [(a 0, .inr (4, [.ref (a 1), .ref (a 5), .ref (a 9), .ref (a 12), .int ft, .int (beg tr 1)])), (a 1, .inr (0, [.int (nI h), .int (nI w), .int pc, .int br, .ref (a 2), .ref (a 3), .ref (a 4)])), (a 2, .inl (cI, 16, .inl kd)), (a 3, .inl (cI, 16, .inl et)), (a 4, .inl (cI, 64, .inl nb))] := hD.sub [0, 1, 2, 3, 4] (by decide) rfl
        refine mi_ret (v := (et c.toNatClampNeg)) hx hb hr hlk hP hD hS dX4_tell_65 ?_
        rw [show teT (h * w) kd tr c = _ from by rw [teT, if_pos c_3, if_neg c_4, if_neg c_8]]
        refine ⟨?_, rfl⟩
        rw [teR, if_pos c_3, if_neg c_4, if_neg c_8] <;> rfl
  · have c_3 := b2_f c_3
    refine lv_iconst (v := (-1)) hx hb dX4_tell_11 (by decide) ?_
    refine mi_ret (v := (-1)) hx hb hr hlk hP hD hS dX4_tell_12 ?_
    rw [show teT (h * w) kd tr c = _ from by rw [teT, if_neg c_3]]
    refine ⟨?_, rfl⟩
    rw [teR, if_neg c_3] <;> rfl
theorem iwX4_trod_X0 : ∀ x ∈ wsX00, x ∈ wsX4_trod := by decide +kernel
theorem iwX4_trod_X4 : ∀ x ∈ wsX40, x ∈ wsX4_trod := by decide +kernel
set_option maxRecDepth 100000 in
set_option maxHeartbeats 4000000 in
/-- X4_trod -/
theorem c_X4_trod (l : Launch) (D : va_G) (cI cJ cO : ClassId) (a : Nat → Nat) (ft : Int32) (tr : Int32) (h : Nat) (w : Nat) (pc : Int32) (br : Int32) (kd : Nat → Int32) (et : Nat → Int32) (nb : Nat → Int32) (c : Int32) (hn : h * w ≤ 16) : MG l yX4_trod wsX4_trod 3 62 0 0 D [(cI, .int), (cJ, .long), (cO, .object "ShornHill$Sheet")] [.ref (a 0), .int c] [(a 0, .inr (4, [.ref (a 1), .ref (a 5), .ref (a 9), .ref (a 12), .int ft, .int tr])), (a 1, .inr (0, [.int (nI h), .int (nI w), .int pc, .int br, .ref (a 2), .ref (a 3), .ref (a 4)])), (a 2, .inl (cI, 16, .inl kd)), (a 3, .inl (cI, 16, .inl et)), (a 4, .inl (cI, 64, .inl nb))] (QI D (fun (r : Int32) (w1 : va_W) => r = (trR (h * w) kd c) ∧ w1 = [(a 0, .inr (4, [.ref (a 1), .ref (a 5), .ref (a 9), .ref (a 12), .int ft, .int (trT (h * w) kd tr c)])), (a 1, .inr (0, [.int (nI h), .int (nI w), .int pc, .int br, .ref (a 2), .ref (a 3), .ref (a 4)])), (a 2, .inl (cI, 16, .inl kd)), (a 3, .inl (cI, 16, .inl et)), (a 4, .inl (cI, 64, .inl nb))])) := by
  refine MG.of (cc := cX4_trod) (maxL := 2) (ret := (some .int)) (by decide) rfl (Nat.le_of_ble_eq_true rfl) ?_
  intro P_ E_ S_ M_ B_ T_ K_ hx hb hml hr hts hown hlk hnm A hA hP hK hD hS ls hl
  have hl : lv_has ls 2 [(0, .ref (a 0)), (1, .int c)] := hl
  have hin0 : ∀ x ∈ u_ws RX0 TX0 7, x ∈ wsX4_trod := iwX4_trod_X0
  have hin4 : ∀ x ∈ u_ws RX4 TX4 6, x ∈ wsX4_trod := iwX4_trod_X4
  refine lv_aload_n hx hb dX4_trod_0 rfl (lv_at hl 0 rfl) ?_
  refine va_get (D := D) (ci := 4) (v := .ref (a 1)) (C := RX4) (T := TX4) (N := 6) hx hb hts hin4 hown hK.1 hP 0 rfl rfl 0 (by decide) (hts _ (List.mem_of_getElem? (i := 1) rfl)) (fun _ h9 => h9) rfl dX4_trod_1 ?_
  refine lv_iload_n hx hb dX4_trod_4 rfl (lv_at hl 1 rfl) ?_
  refine k_ri (run_RN (As := [.int c]) (rest := []) ⟨hx, hb, hml, hown, hts⟩ (c_X0_isSoft l D cI cJ cO a h w pc br kd et nb c hn) ⟨va_cnB 1 hts ggX4_trod_X0_isSoft rfl rfl rfl (nw_X4_100 hK) (hts _ (List.mem_of_getElem? (i := 3) rfl)) (by decide +kernel) ⟨Nat.le_of_ble_eq_true rfl, Nat.le_of_ble_eq_true rfl⟩, (hts _ (List.mem_of_getElem? (i := 2) rfl)), (hts _ (List.mem_of_getElem? (i := 4) rfl))⟩ hP hK [1, 2, 3, 4] rfl rfl rfl rfl rfl hl.1 rfl (Nat.le_of_ble_eq_true rfl) dX4_trod_5 ⟨Nat.le_refl _, Nat.le_refl _⟩) (fun r_1 q_2 => ?_)
  obtain rfl := q_2
  refine lv_if_ne (tgt := 13) hx hb dX4_trod_8 (by decide) (fun c_3 => ?_) (fun c_3 => ?_)
  · have c_3 := b2_t c_3
    refine lv_aload_n hx hb dX4_trod_13 rfl (lv_at hl 0 rfl) ?_
    refine va_get (D := D) (ci := 4) (v := .ref (a 1)) (C := RX4) (T := TX4) (N := 6) hx hb hts hin4 hown hK.1 hP 0 rfl rfl 0 (by decide) (hts _ (List.mem_of_getElem? (i := 1) rfl)) (fun _ h9 => h9) rfl dX4_trod_14 ?_
    refine va_getN (D := D) (ci := 0) (v := .ref (a 2)) (C := RX0) (T := TX0) (N := 7) hx hb hts hin0 hown hK.1 hP 1 rfl rfl 4 (by decide) (va_Nw.use rfl (nw_X4_91 hK)) (fun _ h9 => h9) rfl dX4_trod_17 ?_
    refine lv_iload_n hx hb dX4_trod_20 rfl (lv_at hl 1 rfl) ?_
    refine k_iald hx hb hK hP 2 0 rfl rfl (j := c.toNatClampNeg) (inN.vp c_3.1 (by omega)) rfl dX4_trod_21 ?_
    refine lv_iconst (v := 2) hx hb dX4_trod_22 (by decide) ?_
    refine lv_icmp_ne (tgt := 34) hx hb dX4_trod_23 (by decide) (fun c_4 => ?_) (fun c_4 => ?_)
    · refine lv_aload_n hx hb dX4_trod_34 rfl (lv_at hl 0 rfl) ?_
      refine lv_iconst (v := 4) hx hb dX4_trod_35 (by decide) ?_
      refine k_mv (wr := [(a 1, .inr (0, [.int (nI h), .int (nI w), .int pc, .int br, .ref (a 2), .ref (a 3), .ref (a 4)])), (a 2, .inl (cI, 16, .inl kd)), (a 3, .inl (cI, 16, .inl et)), (a 4, .inl (cI, 64, .inl nb))]) [0] [1, 2, 3, 4] (run_MV (As := [.int 4]) (rest := []) ⟨hx, hb, hml, hown, hts⟩ (c_X4_begin l D cI cJ cO a ft tr 4) (cwV 1 hts gX4_trod_X4_begin rfl rfl rfl (by decide +kernel) ⟨Nat.le_of_ble_eq_true rfl, Nat.le_of_ble_eq_true rfl⟩) hP hK hD [0] (by decide) rfl rfl rfl rfl rfl hl.1 rfl (Nat.le_of_ble_eq_true rfl) dX4_trod_36 ⟨Nat.le_refl _, Nat.le_refl _⟩) hP hD hS hA rfl rfl (by decide) (by decide) (fun w_7 H locs q_6 hP hD hS => ?_)
      obtain rfl := q_6
      have hP : va_P D vwCl [(a 0, .inr (4, [.ref (a 1), .ref (a 5), .ref (a 9), .ref (a 12), .int ft, .int (beg tr 4)])), (a 1, .inr (0, [.int (nI h), .int (nI w), .int pc, .int br, .ref (a 2), .ref (a 3), .ref (a 4)])), (a 2, .inl (cI, 16, .inl kd)), (a 3, .inl (cI, 16, .inl et)), (a 4, .inl (cI, 64, .inl nb))] H := hP.sub [4, 0, 1, 2, 3] rfl
      have hD : va_D A [(a 0, .inr (4, [.ref (a 1), .ref (a 5), .ref (a 9), .ref (a 12), .int ft, .int (beg tr 4)])), (a 1, .inr (0, [.int (nI h), .int (nI w), .int pc, .int br, .ref (a 2), .ref (a 3), .ref (a 4)])), (a 2, .inl (cI, 16, .inl kd)), (a 3, .inl (cI, 16, .inl et)), (a 4, .inl (cI, 64, .inl nb))] := hD.sub [4, 0, 1, 2, 3] (by decide) rfl
      refine lv_iload_n hx hb dX4_trod_39 rfl (lv_at hl 1 rfl) ?_
      refine mi_ret (v := c) hx hb hr hlk hP hD hS dX4_trod_40 ?_
      rw [show trT (h * w) kd tr c = _ from by rw [trT, if_pos c_3, if_neg c_4]]
      refine ⟨?_, rfl⟩
      rw [trR, if_pos c_3, if_neg c_4] <;> rfl
    · refine lv_aload_n hx hb dX4_trod_26 rfl (lv_at hl 0 rfl) ?_
      refine lv_iconst (v := 5) hx hb dX4_trod_27 (by decide) ?_
      refine k_mv (wr := [(a 1, .inr (0, [.int (nI h), .int (nI w), .int pc, .int br, .ref (a 2), .ref (a 3), .ref (a 4)])), (a 2, .inl (cI, 16, .inl kd)), (a 3, .inl (cI, 16, .inl et)), (a 4, .inl (cI, 64, .inl nb))]) [0] [1, 2, 3, 4] (run_MV (As := [.int 5]) (rest := []) ⟨hx, hb, hml, hown, hts⟩ (c_X4_begin l D cI cJ cO a ft tr 5) (cwV 1 hts gX4_trod_X4_begin rfl rfl rfl (by decide +kernel) ⟨Nat.le_of_ble_eq_true rfl, Nat.le_of_ble_eq_true rfl⟩) hP hK hD [0] (by decide) rfl rfl rfl rfl rfl hl.1 rfl (Nat.le_of_ble_eq_true rfl) dX4_trod_28 ⟨Nat.le_refl _, Nat.le_refl _⟩) hP hD hS hA rfl rfl (by decide) (by decide) (fun w_10 H locs q_9 hP hD hS => ?_)
      obtain rfl := q_9
      have hP : va_P D vwCl [(a 0, .inr (4, [.ref (a 1), .ref (a 5), .ref (a 9), .ref (a 12), .int ft, .int (beg tr 5)])), (a 1, .inr (0, [.int (nI h), .int (nI w), .int pc, .int br, .ref (a 2), .ref (a 3), .ref (a 4)])), (a 2, .inl (cI, 16, .inl kd)), (a 3, .inl (cI, 16, .inl et)), (a 4, .inl (cI, 64, .inl nb))] H := hP.sub [4, 0, 1, 2, 3] rfl
      have hD : va_D A [(a 0, .inr (4, [.ref (a 1), .ref (a 5), .ref (a 9), .ref (a 12), .int ft, .int (beg tr 5)])), (a 1, .inr (0, [.int (nI h), .int (nI w), .int pc, .int br, .ref (a 2), .ref (a 3), .ref (a 4)])), (a 2, .inl (cI, 16, .inl kd)), (a 3, .inl (cI, 16, .inl et)), (a 4, .inl (cI, 64, .inl nb))] := hD.sub [4, 0, 1, 2, 3] (by decide) rfl
      refine lv_bipush (v := 40) hx hb dX4_trod_31 (by decide) ?_
      refine mi_ret (v := 40) hx hb hr hlk hP hD hS dX4_trod_33 ?_
      rw [show trT (h * w) kd tr c = _ from by rw [trT, if_pos c_3, if_pos c_4]]
      refine ⟨?_, rfl⟩
      rw [trR, if_pos c_3, if_pos c_4] <;> rfl
  · have c_3 := b2_f c_3
    refine lv_iconst (v := (-1)) hx hb dX4_trod_11 (by decide) ?_
    refine mi_ret (v := (-1)) hx hb hr hlk hP hD hS dX4_trod_12 ?_
    rw [show trT (h * w) kd tr c = _ from by rw [trT, if_neg c_3]]
    refine ⟨?_, rfl⟩
    rw [trR, if_neg c_3] <;> rfl
theorem iwX4_as_X0 : ∀ x ∈ wsX00, x ∈ wsX4_as := by decide +kernel
theorem iwX4_as_X4 : ∀ x ∈ wsX40, x ∈ wsX4_as := by decide +kernel
set_option maxRecDepth 100000 in
set_option maxHeartbeats 4000000 in
/-- X4_as -/
theorem c_X4_as (l : Launch) (D : va_G) (cI cJ cO : ClassId) (a : Nat → Nat) (ft : Int32) (tr : Int32) (h : Nat) (w : Nat) (pc : Int32) (br : Int32) (kd : Nat → Int32) (et : Nat → Int32) (nb : Nat → Int32) (c : Int32) (v : Int32) (hn : h * w ≤ 16) : MG l yX4_as wsX4_as 3 62 0 0 D [(cI, .int), (cJ, .long), (cO, .object "ShornHill$Sheet")] [.ref (a 0), .int c, .int v] [(a 0, .inr (4, [.ref (a 1), .ref (a 5), .ref (a 9), .ref (a 12), .int ft, .int tr])), (a 1, .inr (0, [.int (nI h), .int (nI w), .int pc, .int br, .ref (a 2), .ref (a 3), .ref (a 4)])), (a 2, .inl (cI, 16, .inl kd)), (a 3, .inl (cI, 16, .inl et)), (a 4, .inl (cI, 64, .inl nb))] (QI D (fun (r : Int32) (w1 : va_W) => r = (asR (h * w) kd c v) ∧ w1 = [(a 0, .inr (4, [.ref (a 1), .ref (a 5), .ref (a 9), .ref (a 12), .int (asF (h * w) kd c v), .int tr])), (a 1, .inr (0, [.int (nI h), .int (nI w), .int pc, .int br, .ref (a 2), .ref (a 3), .ref (a 4)])), (a 2, .inl (cI, 16, .inl kd)), (a 3, .inl (cI, 16, .inl et)), (a 4, .inl (cI, 64, .inl nb))])) := by
  refine MG.of (cc := cX4_as) (maxL := 3) (ret := (some .int)) (by decide) rfl (Nat.le_of_ble_eq_true rfl) ?_
  intro P_ E_ S_ M_ B_ T_ K_ hx hb hml hr hts hown hlk hnm A hA hP hK hD hS ls hl
  have hl : lv_has ls 3 [(0, .ref (a 0)), (1, .int c), (2, .int v)] := hl
  have hin0 : ∀ x ∈ u_ws RX0 TX0 7, x ∈ wsX4_as := iwX4_as_X0
  have hin4 : ∀ x ∈ u_ws RX4 TX4 6, x ∈ wsX4_as := iwX4_as_X4
  refine lv_aload_n hx hb dX4_as_0 rfl (lv_at hl 0 rfl) ?_
  refine lv_iconst (v := 0) hx hb dX4_as_1 (by decide) ?_
  refine va_put (D := D) (ci := 4) (v := .int 0) (ty := .int) (C := RX4) (T := TX4) (N := 6) hx hb hts hin4 tyX4 tyX4_ok nmX4 hown hK.1 hP hD hS 0 rfl rfl 4 (by decide) (hts _ (List.mem_of_getElem? (i := 1) rfl)) (fun _ h9 => h9) rfl (by decide +kernel) rfl rfl (Nat.le_of_ble_eq_true rfl) dX4_as_2 (fun H locs hP hD hS => ?_)
  have hP : va_P D vwCl [(a 0, .inr (4, [.ref (a 1), .ref (a 5), .ref (a 9), .ref (a 12), .int 0, .int tr])), (a 1, .inr (0, [.int (nI h), .int (nI w), .int pc, .int br, .ref (a 2), .ref (a 3), .ref (a 4)])), (a 2, .inl (cI, 16, .inl kd)), (a 3, .inl (cI, 16, .inl et)), (a 4, .inl (cI, 64, .inl nb))] H := hP
  have hD : va_D A [(a 0, .inr (4, [.ref (a 1), .ref (a 5), .ref (a 9), .ref (a 12), .int 0, .int tr])), (a 1, .inr (0, [.int (nI h), .int (nI w), .int pc, .int br, .ref (a 2), .ref (a 3), .ref (a 4)])), (a 2, .inl (cI, 16, .inl kd)), (a 3, .inl (cI, 16, .inl et)), (a 4, .inl (cI, 64, .inl nb))] := hD
  refine lv_aload_n hx hb dX4_as_5 rfl (lv_at hl 0 rfl) ?_
  refine va_get (D := D) (ci := 4) (v := .ref (a 1)) (C := RX4) (T := TX4) (N := 6) hx hb hts hin4 hown hK.1 hP 0 rfl rfl 0 (by decide) (hts _ (List.mem_of_getElem? (i := 2) rfl)) (fun _ h9 => h9) rfl dX4_as_6 ?_
  refine lv_iload_n hx hb dX4_as_9 rfl (lv_at hl 1 rfl) ?_
  refine k_ri (run_RN (As := [.int c]) (rest := []) ⟨hx, hb, hml, hown, hts⟩ (c_X0_isSoft l D cI cJ cO a h w pc br kd et nb c hn) ⟨va_cnB 1 hts ggX4_as_X0_isSoft rfl rfl rfl (nw_X4_100 hK) (hts _ (List.mem_of_getElem? (i := 4) rfl)) (by decide +kernel) ⟨Nat.le_of_ble_eq_true rfl, Nat.le_of_ble_eq_true rfl⟩, (hts _ (List.mem_of_getElem? (i := 3) rfl)), (hts _ (List.mem_of_getElem? (i := 5) rfl))⟩ hP hK [1, 2, 3, 4] rfl rfl rfl rfl rfl hl.1 rfl (Nat.le_of_ble_eq_true rfl) dX4_as_10 ⟨Nat.le_refl _, Nat.le_refl _⟩) (fun r_1 q_2 => ?_)
  obtain rfl := q_2
  refine lv_if_ne (tgt := 18) hx hb dX4_as_13 (by decide) (fun c_3 => ?_) (fun c_3 => ?_)
  · have c_3 := b2_t c_3
    refine lv_iload_n hx hb dX4_as_18 rfl (lv_at hl 2 rfl) ?_
    refine lv_if_lt (tgt := 27) hx hb dX4_as_19 (by decide) (fun c_4 => ?_) (fun c_4 => ?_)
    · have cb : ¬ btw v 0 2 := by simp only [inN, softP, btw, inS, ripP, Int32.lt_iff_toInt_lt, Int32.le_iff_toInt_le, ← Int32.toInt_inj, ti_0, ti_1, ti_2, ti_3, ti_4, ti_8, ti_9, ti_10, ti_14, ti_15, ti_20, ti_60, ti_m1] at c_4 ⊢; omega
      refine lv_bipush (v := (-2)) hx hb dX4_as_27 (by decide) ?_
      refine mi_ret (v := (-2)) hx hb hr hlk hP hD hS dX4_as_29 ?_
      rw [show asF (h * w) kd c v = _ from by rw [asF, if_neg (fun z => (fun z => cb z.1) z.2)]]
      refine ⟨?_, rfl⟩
      rw [asR, if_pos c_3, if_neg cb] <;> rfl
    · refine lv_iload_n hx hb dX4_as_22 rfl (lv_at hl 2 rfl) ?_
      refine lv_iconst (v := 2) hx hb dX4_as_23 (by decide) ?_
      refine lv_icmp_le (tgt := 30) hx hb dX4_as_24 (by decide) (fun c_5 => ?_) (fun c_5 => ?_)
      · have cb : btw v 0 2 := by simp only [inN, softP, btw, inS, ripP, Int32.lt_iff_toInt_lt, Int32.le_iff_toInt_le, ← Int32.toInt_inj, ti_0, ti_1, ti_2, ti_3, ti_4, ti_8, ti_9, ti_10, ti_14, ti_15, ti_20, ti_60, ti_m1] at c_4 c_5 ⊢; omega
        refine lv_aload_n hx hb dX4_as_30 rfl (lv_at hl 0 rfl) ?_
        refine va_get (D := D) (ci := 4) (v := .ref (a 1)) (C := RX4) (T := TX4) (N := 6) hx hb hts hin4 hown hK.1 hP 0 rfl rfl 0 (by decide) (hts _ (List.mem_of_getElem? (i := 2) rfl)) (fun _ h9 => h9) rfl dX4_as_31 ?_
        refine va_getN (D := D) (ci := 0) (v := .ref (a 2)) (C := RX0) (T := TX0) (N := 7) hx hb hts hin0 hown hK.1 hP 1 rfl rfl 4 (by decide) (va_Nw.use rfl (nw_X4_91 hK)) (fun _ h9 => h9) rfl dX4_as_34 ?_
        refine lv_iload_n hx hb dX4_as_37 rfl (lv_at hl 1 rfl) ?_
        refine k_iald hx hb hK hP 2 0 rfl rfl (j := c.toNatClampNeg) (inN.vp c_3.1 (by omega)) rfl dX4_as_38 ?_
        refine lv_iload_n hx hb dX4_as_39 rfl (lv_at hl 2 rfl) ?_
        refine lv_icmp_lt (tgt := 47) hx hb dX4_as_40 (by decide) (fun c_6 => ?_) (fun c_6 => ?_)
        · have cq : ¬ v ≤ kd c.toNatClampNeg := Int32.not_le.mpr c_6
          refine lv_aload_n hx hb dX4_as_47 rfl (lv_at hl 0 rfl) ?_
          refine lv_iconst (v := 2) hx hb dX4_as_48 (by decide) ?_
          refine k_mi (wr := [(a 1, .inr (0, [.int (nI h), .int (nI w), .int pc, .int br, .ref (a 2), .ref (a 3), .ref (a 4)])), (a 2, .inl (cI, 16, .inl kd)), (a 3, .inl (cI, 16, .inl et)), (a 4, .inl (cI, 64, .inl nb))]) [0] [1, 2, 3, 4] (run_MV (As := [.int 2]) (rest := []) ⟨hx, hb, hml, hown, hts⟩ (c_X4_failed l D cI cJ cO a 0 tr 2) (cwV 1 hts gX4_as_X4_failed rfl rfl rfl (by decide +kernel) ⟨Nat.le_of_ble_eq_true rfl, Nat.le_of_ble_eq_true rfl⟩) hP hK hD [0] (by decide) rfl rfl rfl rfl rfl hl.1 rfl (Nat.le_of_ble_eq_true rfl) dX4_as_49 ⟨Nat.le_refl _, Nat.le_refl _⟩) hP hD hS hA rfl rfl (by decide) (by decide) (fun r_7 w_9 H locs q_8 hP hD hS => ?_)
          obtain ⟨rfl, rfl⟩ := q_8
          have hP : va_P D vwCl [(a 0, .inr (4, [.ref (a 1), .ref (a 5), .ref (a 9), .ref (a 12), .int 2, .int tr])), (a 1, .inr (0, [.int (nI h), .int (nI w), .int pc, .int br, .ref (a 2), .ref (a 3), .ref (a 4)])), (a 2, .inl (cI, 16, .inl kd)), (a 3, .inl (cI, 16, .inl et)), (a 4, .inl (cI, 64, .inl nb))] H := hP.sub [4, 0, 1, 2, 3] rfl
          have hD : va_D A [(a 0, .inr (4, [.ref (a 1), .ref (a 5), .ref (a 9), .ref (a 12), .int 2, .int tr])), (a 1, .inr (0, [.int (nI h), .int (nI w), .int pc, .int br, .ref (a 2), .ref (a 3), .ref (a 4)])), (a 2, .inl (cI, 16, .inl kd)), (a 3, .inl (cI, 16, .inl et)), (a 4, .inl (cI, 64, .inl nb))] := hD.sub [4, 0, 1, 2, 3] (by decide) rfl
          refine mi_ret (v := ((-10) - 2)) hx hb hr hlk hP hD hS dX4_as_52 ?_
          rw [show asF (h * w) kd c v = _ from by rw [asF, if_pos ⟨c_3, ⟨cb, cq⟩⟩]]
          refine ⟨?_, rfl⟩
          rw [asR, if_pos c_3, if_pos cb, if_neg cq] <;> rfl
        · have cq : v ≤ kd c.toNatClampNeg := Int32.not_lt.mp c_6
          refine lv_iconst (v := 1) hx hb dX4_as_43 (by decide) ?_
          refine lv_goto (tgt := 52) hx hb dX4_as_44 (by decide) ?_
          refine mi_ret (v := 1) hx hb hr hlk hP hD hS dX4_as_52 ?_
          rw [show asF (h * w) kd c v = _ from by rw [asF, if_neg (fun z => (fun z => (fun z => z cq) z.2) z.2)]]
          refine ⟨?_, rfl⟩
          rw [asR, if_pos c_3, if_pos cb, if_pos cq] <;> rfl
      · have cb : ¬ btw v 0 2 := by simp only [inN, softP, btw, inS, ripP, Int32.lt_iff_toInt_lt, Int32.le_iff_toInt_le, ← Int32.toInt_inj, ti_0, ti_1, ti_2, ti_3, ti_4, ti_8, ti_9, ti_10, ti_14, ti_15, ti_20, ti_60, ti_m1] at c_4 c_5 ⊢; omega
        refine lv_bipush (v := (-2)) hx hb dX4_as_27 (by decide) ?_
        refine mi_ret (v := (-2)) hx hb hr hlk hP hD hS dX4_as_29 ?_
        rw [show asF (h * w) kd c v = _ from by rw [asF, if_neg (fun z => (fun z => cb z.1) z.2)]]
        refine ⟨?_, rfl⟩
        rw [asR, if_pos c_3, if_neg cb] <;> rfl
  · have c_3 := b2_f c_3
    refine lv_iconst (v := (-1)) hx hb dX4_as_16 (by decide) ?_
    refine mi_ret (v := (-1)) hx hb hr hlk hP hD hS dX4_as_17 ?_
    rw [show asF (h * w) kd c v = _ from by rw [asF, if_neg (fun z => c_3 z.1)]]
    refine ⟨?_, rfl⟩
    rw [asR, if_neg c_3] <;> rfl
theorem iwX4_ofCell_X0 : ∀ x ∈ wsX00, x ∈ wsX4_ofCell := by decide +kernel
theorem iwX4_ofCell_X4 : ∀ x ∈ wsX40, x ∈ wsX4_ofCell := by decide +kernel
set_option maxRecDepth 100000 in
set_option maxHeartbeats 4000000 in
/-- X4_ofCell -/
theorem c_X4_ofCell (l : Launch) (D : va_G) (cI cJ cO : ClassId) (a : Nat → Nat) (ft : Int32) (tr : Int32) (h : Nat) (w : Nat) (pc : Int32) (br : Int32) (kd : Nat → Int32) (et : Nat → Int32) (nb : Nat → Int32) (c : Int32) (v : Int32) (hn : h * w ≤ 16) : RG l yX4_ofCell wsX4_ofCell 2 41 D [(cI, .int), (cJ, .long), (cO, .object "ShornHill$Sheet")] [.ref (a 0), .int c, .int v] [(a 0, .inr (4, [.ref (a 1), .ref (a 5), .ref (a 9), .ref (a 12), .int ft, .int tr])), (a 1, .inr (0, [.int (nI h), .int (nI w), .int pc, .int br, .ref (a 2), .ref (a 3), .ref (a 4)])), (a 2, .inl (cI, 16, .inl kd)), (a 3, .inl (cI, 16, .inl et)), (a 4, .inl (cI, 64, .inl nb))] (vp_Si (fun (r : Int32) => r = (ofR (h * w) pc kd et c v))) := by
  refine RG.of (cc := cX4_ofCell) (maxL := 3) (ret := (some .int)) (by decide) rfl (Nat.le_of_ble_eq_true rfl) ?_
  intro P_ E_ S_ M_ B_ T_ K_ hx hb hml hr hts hown hlk hP hK ls hl
  have hl : lv_has ls 3 [(0, .ref (a 0)), (1, .int c), (2, .int v)] := hl
  have hin0 : ∀ x ∈ u_ws RX0 TX0 7, x ∈ wsX4_ofCell := iwX4_ofCell_X0
  have hin4 : ∀ x ∈ u_ws RX4 TX4 6, x ∈ wsX4_ofCell := iwX4_ofCell_X4
  refine lv_aload_n hx hb dX4_ofCell_0 rfl (lv_at hl 0 rfl) ?_
  refine va_get (D := D) (ci := 4) (v := .ref (a 1)) (C := RX4) (T := TX4) (N := 6) hx hb hts hin4 hown hK.1 hP 0 rfl rfl 0 (by decide) (hts _ (List.mem_of_getElem? (i := 1) rfl)) (fun _ h9 => h9) rfl dX4_ofCell_1 ?_
  refine lv_iload_n hx hb dX4_ofCell_4 rfl (lv_at hl 1 rfl) ?_
  refine k_ri (run_RN (As := [.int c]) (rest := []) ⟨hx, hb, hml, hown, hts⟩ (c_X0_has l D cI cJ cO a h w pc br kd et nb c hn) ⟨va_cnB 1 hts ggX4_ofCell_X0_has rfl rfl rfl (nw_X4_88 hK) (hts _ (List.mem_of_getElem? (i := 3) rfl)) (by decide +kernel) ⟨Nat.le_of_ble_eq_true rfl, Nat.le_of_ble_eq_true rfl⟩, (hts _ (List.mem_of_getElem? (i := 2) rfl)), (hts _ (List.mem_of_getElem? (i := 4) rfl))⟩ hP hK [1, 2, 3, 4] rfl rfl rfl rfl rfl hl.1 rfl (Nat.le_of_ble_eq_true rfl) dX4_ofCell_5 ⟨Nat.le_refl _, Nat.le_refl _⟩) (fun r_1 q_2 => ?_)
  obtain rfl := q_2
  refine lv_if_ne (tgt := 13) hx hb dX4_ofCell_8 (by decide) (fun c_3 => ?_) (fun c_3 => ?_)
  · have c_3 := b2_t c_3
    refine lv_iload_n hx hb dX4_ofCell_13 rfl (lv_at hl 2 rfl) ?_
    rcases sw3 (v) with c_4 | c_4 | c_4 | c_4
    · refine lv_tableIn (off := 26) (tgt := 40) hx hb dX4_ofCell_14 (by rw [c_4]; decide) (by rw [c_4]; decide) (by rw [c_4]; rfl) (by decide) ?_
      refine lv_aload_n hx hb dX4_ofCell_40 rfl (lv_at hl 0 rfl) ?_
      refine va_get (D := D) (ci := 4) (v := .ref (a 1)) (C := RX4) (T := TX4) (N := 6) hx hb hts hin4 hown hK.1 hP 0 rfl rfl 0 (by decide) (hts _ (List.mem_of_getElem? (i := 1) rfl)) (fun _ h9 => h9) rfl dX4_ofCell_41 ?_
      refine va_getN (D := D) (ci := 0) (v := .ref (a 2)) (C := RX0) (T := TX0) (N := 7) hx hb hts hin0 hown hK.1 hP 1 rfl rfl 4 (by decide) (va_Nw.use rfl (nw_X4_91 hK)) (fun _ h9 => h9) rfl dX4_ofCell_44 ?_
      refine lv_iload_n hx hb dX4_ofCell_47 rfl (lv_at hl 1 rfl) ?_
      refine k_iald hx hb hK hP 2 0 rfl rfl (j := c.toNatClampNeg) (inN.vp c_3 (by omega)) rfl dX4_ofCell_48 ?_
      refine ri_ret (v := (kd c.toNatClampNeg)) hx hb hr hlk dX4_ofCell_49 ?_
      rw [ofR, if_pos c_3, if_pos c_4] <;> rfl
    · refine lv_tableIn (off := 36) (tgt := 50) hx hb dX4_ofCell_14 (by rw [c_4]; decide) (by rw [c_4]; decide) (by rw [c_4]; rfl) (by decide) ?_
      have cn0 : ¬ v = 0 := fun z => by rw [z] at c_4; exact absurd c_4 (by decide)
      refine lv_aload_n hx hb dX4_ofCell_50 rfl (lv_at hl 0 rfl) ?_
      refine va_get (D := D) (ci := 4) (v := .ref (a 1)) (C := RX4) (T := TX4) (N := 6) hx hb hts hin4 hown hK.1 hP 0 rfl rfl 0 (by decide) (hts _ (List.mem_of_getElem? (i := 1) rfl)) (fun _ h9 => h9) rfl dX4_ofCell_51 ?_
      refine lv_iload_n hx hb dX4_ofCell_54 rfl (lv_at hl 1 rfl) ?_
      refine k_ri (run_RN (As := [.int c]) (rest := []) ⟨hx, hb, hml, hown, hts⟩ (c_X0_weekly l D cI cJ cO a h w pc br kd et nb c c.toNatClampNeg (inN.vp c_3 (by omega)) rfl) ⟨va_cnB 1 hts ggX4_ofCell_X0_weekly rfl rfl rfl (nw_X4_94 hK) (hts _ (List.mem_of_getElem? (i := 3) rfl)) (by decide +kernel) ⟨Nat.le_of_ble_eq_true rfl, Nat.le_of_ble_eq_true rfl⟩, (hts _ (List.mem_of_getElem? (i := 12) rfl)), (hts _ (List.mem_of_getElem? (i := 13) rfl))⟩ hP hK [1, 2, 3, 4] rfl rfl rfl rfl rfl hl.1 rfl (Nat.le_of_ble_eq_true rfl) dX4_ofCell_55 ⟨Nat.le_refl _, Nat.le_refl _⟩) (fun r_5 q_6 => ?_)
      obtain rfl := q_6
      refine ri_ret (v := (wk (kd c.toNatClampNeg) pc)) hx hb hr hlk dX4_ofCell_58 ?_
      rw [ofR, if_pos c_3, if_neg cn0, if_pos c_4] <;> rfl
    · refine lv_tableIn (off := 45) (tgt := 59) hx hb dX4_ofCell_14 (by rw [c_4]; decide) (by rw [c_4]; decide) (by rw [c_4]; rfl) (by decide) ?_
      have cn0 : ¬ v = 0 := fun z => by rw [z] at c_4; exact absurd c_4 (by decide)
      have cn1 : ¬ v = 1 := fun z => by rw [z] at c_4; exact absurd c_4 (by decide)
      refine lv_aload_n hx hb dX4_ofCell_59 rfl (lv_at hl 0 rfl) ?_
      refine va_get (D := D) (ci := 4) (v := .ref (a 1)) (C := RX4) (T := TX4) (N := 6) hx hb hts hin4 hown hK.1 hP 0 rfl rfl 0 (by decide) (hts _ (List.mem_of_getElem? (i := 1) rfl)) (fun _ h9 => h9) rfl dX4_ofCell_60 ?_
      refine va_getN (D := D) (ci := 0) (v := .ref (a 3)) (C := RX0) (T := TX0) (N := 7) hx hb hts hin0 hown hK.1 hP 1 rfl rfl 5 (by decide) (va_Nw.use rfl (nw_X4_97 hK)) (fun _ h9 => h9) rfl dX4_ofCell_63 ?_
      refine lv_iload_n hx hb dX4_ofCell_66 rfl (lv_at hl 1 rfl) ?_
      refine k_iald hx hb hK hP 3 0 rfl rfl (j := c.toNatClampNeg) (inN.vp c_3 (by omega)) rfl dX4_ofCell_67 ?_
      refine ri_ret (v := (et c.toNatClampNeg)) hx hb hr hlk dX4_ofCell_68 ?_
      rw [ofR, if_pos c_3, if_neg cn0, if_neg cn1, if_pos c_4] <;> rfl
    · refine lv_tableOut (tgt := 69) hx hb dX4_ofCell_14 c_4 (by decide) ?_
      have cn0 : ¬ v = 0 := fun z => by rw [z] at c_4; exact absurd c_4 (by decide)
      have cn1 : ¬ v = 1 := fun z => by rw [z] at c_4; exact absurd c_4 (by decide)
      have cn2 : ¬ v = 2 := fun z => by rw [z] at c_4; exact absurd c_4 (by decide)
      refine lv_bipush (v := (-2)) hx hb dX4_ofCell_69 (by decide) ?_
      refine ri_ret (v := (-2)) hx hb hr hlk dX4_ofCell_71 ?_
      rw [ofR, if_pos c_3, if_neg cn0, if_neg cn1, if_neg cn2] <;> rfl
  · have c_3 := b2_f c_3
    refine lv_iconst (v := (-1)) hx hb dX4_ofCell_11 (by decide) ?_
    refine ri_ret (v := (-1)) hx hb hr hlk dX4_ofCell_12 ?_
    rw [ofR, if_neg c_3] <;> rfl
theorem iwX4_goats_X0 : ∀ x ∈ wsX00, x ∈ wsX4_goats := by decide +kernel
theorem iwX4_goats_X4 : ∀ x ∈ wsX40, x ∈ wsX4_goats := by decide +kernel
set_option maxRecDepth 100000 in
set_option maxHeartbeats 4000000 in
/-- X4_goats -/
theorem c_X4_goats (l : Launch) (D : va_G) (cI cJ cO : ClassId) (a : Nat → Nat) (ft : Int32) (tr : Int32) (h : Nat) (w : Nat) (pc : Int32) (br : Int32) (kd : Nat → Int32) (et : Nat → Int32) (nb : Nat → Int32) (c : Int32) (v : Int32) (hn : h * w ≤ 16) : MG l yX4_goats wsX4_goats 3 62 0 0 D [(cI, .int), (cJ, .long), (cO, .object "ShornHill$Sheet")] [.ref (a 0), .int c, .int v] [(a 0, .inr (4, [.ref (a 1), .ref (a 5), .ref (a 9), .ref (a 12), .int ft, .int tr])), (a 1, .inr (0, [.int (nI h), .int (nI w), .int pc, .int br, .ref (a 2), .ref (a 3), .ref (a 4)])), (a 2, .inl (cI, 16, .inl kd)), (a 3, .inl (cI, 16, .inl et)), (a 4, .inl (cI, 64, .inl nb))] (QI D (fun (r : Int32) (w1 : va_W) => r = (goR (h * w) kd et c v) ∧ w1 = [(a 0, .inr (4, [.ref (a 1), .ref (a 5), .ref (a 9), .ref (a 12), .int ft, .int tr])), (a 1, .inr (0, [.int (nI h), .int (nI w), .int pc, .int br, .ref (a 2), .ref (a 3), .ref (a 4)])), (a 2, .inl (cI, 16, .inl kd)), (a 3, .inl (cI, 16, .inl (goE (h * w) kd et c v))), (a 4, .inl (cI, 64, .inl nb))])) := by
  refine MG.of (cc := cX4_goats) (maxL := 4) (ret := (some .int)) (by decide) rfl (Nat.le_of_ble_eq_true rfl) ?_
  intro P_ E_ S_ M_ B_ T_ K_ hx hb hml hr hts hown hlk hnm A hA hP hK hD hS ls hl
  have hl : lv_has ls 4 [(0, .ref (a 0)), (1, .int c), (2, .int v)] := hl
  have hin0 : ∀ x ∈ u_ws RX0 TX0 7, x ∈ wsX4_goats := iwX4_goats_X0
  have hin4 : ∀ x ∈ u_ws RX4 TX4 6, x ∈ wsX4_goats := iwX4_goats_X4
  refine lv_aload_n hx hb dX4_goats_0 rfl (lv_at hl 0 rfl) ?_
  refine va_get (D := D) (ci := 4) (v := .ref (a 1)) (C := RX4) (T := TX4) (N := 6) hx hb hts hin4 hown hK.1 hP 0 rfl rfl 0 (by decide) (hts _ (List.mem_of_getElem? (i := 1) rfl)) (fun _ h9 => h9) rfl dX4_goats_1 ?_
  refine lv_iload_n hx hb dX4_goats_4 rfl (lv_at hl 1 rfl) ?_
  refine k_ri (run_RN (As := [.int c]) (rest := []) ⟨hx, hb, hml, hown, hts⟩ (c_X0_isSoft l D cI cJ cO a h w pc br kd et nb c hn) ⟨va_cnB 1 hts ggX4_goats_X0_isSoft rfl rfl rfl (nw_X4_100 hK) (hts _ (List.mem_of_getElem? (i := 3) rfl)) (by decide +kernel) ⟨Nat.le_of_ble_eq_true rfl, Nat.le_of_ble_eq_true rfl⟩, (hts _ (List.mem_of_getElem? (i := 2) rfl)), (hts _ (List.mem_of_getElem? (i := 4) rfl))⟩ hP hK [1, 2, 3, 4] rfl rfl rfl rfl rfl hl.1 rfl (Nat.le_of_ble_eq_true rfl) dX4_goats_5 ⟨Nat.le_refl _, Nat.le_refl _⟩) (fun r_1 q_2 => ?_)
  obtain rfl := q_2
  refine lv_if_ne (tgt := 13) hx hb dX4_goats_8 (by decide) (fun c_3 => ?_) (fun c_3 => ?_)
  · have c_3 := b2_t c_3
    refine lv_iload_n hx hb dX4_goats_13 rfl (lv_at hl 2 rfl) ?_
    refine k_ri (run_RS (As := [.int v]) (rest := []) ⟨hx, hb, hml, hown, hts⟩ (c_X4_isInches l D cI cJ cO v) (va_cwS 1 hts gX4_goats_X4_isInches rfl rfl rfl (by decide +kernel) ⟨Nat.le_of_ble_eq_true rfl, Nat.le_of_ble_eq_true rfl⟩) hP hK [] rfl rfl hl.1 rfl (Nat.le_of_ble_eq_true rfl) dX4_goats_14 ⟨Nat.le_refl _, Nat.le_refl _⟩) (fun r_4 q_5 => ?_)
    obtain rfl := q_5
    refine lv_if_ne (tgt := 23) hx hb dX4_goats_17 (by decide) (fun c_6 => ?_) (fun c_6 => ?_)
    · have c_6 := b2_t c_6
      refine lv_aload_n hx hb dX4_goats_23 rfl (lv_at hl 0 rfl) ?_
      refine va_get (D := D) (ci := 4) (v := .ref (a 1)) (C := RX4) (T := TX4) (N := 6) hx hb hts hin4 hown hK.1 hP 0 rfl rfl 0 (by decide) (hts _ (List.mem_of_getElem? (i := 1) rfl)) (fun _ h9 => h9) rfl dX4_goats_24 ?_
      refine va_getN (D := D) (ci := 0) (v := .ref (a 3)) (C := RX0) (T := TX0) (N := 7) hx hb hts hin0 hown hK.1 hP 1 rfl rfl 5 (by decide) (va_Nw.use rfl (nw_X4_97 hK)) (fun _ h9 => h9) rfl dX4_goats_27 ?_
      refine lv_iload_n hx hb dX4_goats_30 rfl (lv_at hl 1 rfl) ?_
      refine k_iald hx hb hK hP 3 0 rfl rfl (j := c.toNatClampNeg) (inN.vp c_3.1 (by omega)) rfl dX4_goats_31 ?_
      refine lv_istore_n (lv' := [(3, .int (et c.toNatClampNeg)), (0, .ref (a 0)), (1, .int c), (2, .int v)]) hx hb dX4_goats_32 rfl hl (by decide) rfl (fun ls hl => ?_)
      refine lv_aload_n hx hb dX4_goats_33 rfl (lv_at hl 1 rfl) ?_
      refine va_get (D := D) (ci := 4) (v := .ref (a 1)) (C := RX4) (T := TX4) (N := 6) hx hb hts hin4 hown hK.1 hP 0 rfl rfl 0 (by decide) (hts _ (List.mem_of_getElem? (i := 1) rfl)) (fun _ h9 => h9) rfl dX4_goats_34 ?_
      refine va_getN (D := D) (ci := 0) (v := .ref (a 3)) (C := RX0) (T := TX0) (N := 7) hx hb hts hin0 hown hK.1 hP 1 rfl rfl 5 (by decide) (va_Nw.use rfl (nw_X4_97 hK)) (fun _ h9 => h9) rfl dX4_goats_37 ?_
      refine lv_iload_n hx hb dX4_goats_40 rfl (lv_at hl 2 rfl) ?_
      refine lv_iload_n hx hb dX4_goats_41 rfl (lv_at hl 3 rfl) ?_
      refine k_iast hx hb hK hP hD hS 3 0 rfl rfl (j := c.toNatClampNeg) (inN.vp c_3.1 (by omega)) rfl dX4_goats_42 (fun H locs hP hD hS => ?_)
      have hP : va_P D vwCl [(a 0, .inr (4, [.ref (a 1), .ref (a 5), .ref (a 9), .ref (a 12), .int ft, .int tr])), (a 1, .inr (0, [.int (nI h), .int (nI w), .int pc, .int br, .ref (a 2), .ref (a 3), .ref (a 4)])), (a 2, .inl (cI, 16, .inl kd)), (a 3, .inl (cI, 16, .inl (upd et c.toNatClampNeg v))), (a 4, .inl (cI, 64, .inl nb))] H := hP
      have hD : va_D A [(a 0, .inr (4, [.ref (a 1), .ref (a 5), .ref (a 9), .ref (a 12), .int ft, .int tr])), (a 1, .inr (0, [.int (nI h), .int (nI w), .int pc, .int br, .ref (a 2), .ref (a 3), .ref (a 4)])), (a 2, .inl (cI, 16, .inl kd)), (a 3, .inl (cI, 16, .inl (upd et c.toNatClampNeg v))), (a 4, .inl (cI, 64, .inl nb))] := hD
      refine lv_iload_n hx hb dX4_goats_43 rfl (lv_at hl 0 rfl) ?_
      refine mi_ret (v := (et c.toNatClampNeg)) hx hb hr hlk hP hD hS dX4_goats_44 ?_
      rw [show goE (h * w) kd et c v = _ from by rw [goE, if_pos ⟨c_3, c_6⟩]]
      refine ⟨?_, rfl⟩
      rw [goR, if_pos c_3, if_pos c_6] <;> rfl
    · have c_6 := b2_f c_6
      refine lv_bipush (v := (-2)) hx hb dX4_goats_20 (by decide) ?_
      refine mi_ret (v := (-2)) hx hb hr hlk hP hD hS dX4_goats_22 ?_
      rw [show goE (h * w) kd et c v = _ from by rw [goE, if_neg (fun z => c_6 z.2)]]
      refine ⟨?_, rfl⟩
      rw [goR, if_pos c_3, if_neg c_6] <;> rfl
  · have c_3 := b2_f c_3
    refine lv_iconst (v := (-1)) hx hb dX4_goats_11 (by decide) ?_
    refine mi_ret (v := (-1)) hx hb hr hlk hP hD hS dX4_goats_12 ?_
    rw [show goE (h * w) kd et c v = _ from by rw [goE, if_neg (fun z => c_3 z.1)]]
    refine ⟨?_, rfl⟩
    rw [goR, if_neg c_3] <;> rfl
theorem iwX4_pace_X0 : ∀ x ∈ wsX00, x ∈ wsX4_pace := by decide +kernel
theorem iwX4_pace_X4 : ∀ x ∈ wsX40, x ∈ wsX4_pace := by decide +kernel
set_option maxRecDepth 100000 in
set_option maxHeartbeats 4000000 in
/-- X4_pace -/
theorem c_X4_pace (l : Launch) (D : va_G) (cI cJ cO : ClassId) (a : Nat → Nat) (ft : Int32) (tr : Int32) (h : Nat) (w : Nat) (pc : Int32) (br : Int32) (kd : Nat → Int32) (et : Nat → Int32) (nb : Nat → Int32) (v : Int32) (hh : h ≤ 4) : MG l yX4_pace wsX4_pace 1 20 0 0 D [(cI, .int), (cJ, .long), (cO, .object "ShornHill$Sheet")] [.ref (a 0), .int v] [(a 0, .inr (4, [.ref (a 1), .ref (a 5), .ref (a 9), .ref (a 12), .int ft, .int tr])), (a 1, .inr (0, [.int (nI h), .int (nI w), .int pc, .int br, .ref (a 2), .ref (a 3), .ref (a 4)])), (a 2, .inl (cI, 16, .inl kd)), (a 3, .inl (cI, 16, .inl et)), (a 4, .inl (cI, 64, .inl nb))] (QI D (fun (r : Int32) (w1 : va_W) => r = (paR h pc v 3) ∧ w1 = [(a 0, .inr (4, [.ref (a 1), .ref (a 5), .ref (a 9), .ref (a 12), .int ft, .int tr])), (a 1, .inr (0, [.int (nI h), .int (nI w), .int (paE h pc v 3), .int br, .ref (a 2), .ref (a 3), .ref (a 4)])), (a 2, .inl (cI, 16, .inl kd)), (a 3, .inl (cI, 16, .inl et)), (a 4, .inl (cI, 64, .inl nb))])) := by
  refine MG.of (cc := cX4_pace) (maxL := 3) (ret := (some .int)) (by decide) rfl (Nat.le_of_ble_eq_true rfl) ?_
  intro P_ E_ S_ M_ B_ T_ K_ hx hb hml hr hts hown hlk hnm A hA hP hK hD hS ls hl
  have hl : lv_has ls 3 [(0, .ref (a 0)), (1, .int v)] := hl
  have hin0 : ∀ x ∈ u_ws RX0 TX0 7, x ∈ wsX4_pace := iwX4_pace_X0
  have hin4 : ∀ x ∈ u_ws RX4 TX4 6, x ∈ wsX4_pace := iwX4_pace_X4
  refine lv_iload_n hx hb dX4_pace_0 rfl (lv_at hl 1 rfl) ?_
  refine lv_iconst (v := 1) hx hb dX4_pace_1 (by decide) ?_
  refine lv_icmp_lt (tgt := 10) hx hb dX4_pace_2 (by decide) (fun c_1 => ?_) (fun c_1 => ?_)
  · have cb : ¬ btw v 1 3 := by simp only [inN, softP, btw, inS, ripP, Int32.lt_iff_toInt_lt, Int32.le_iff_toInt_le, ← Int32.toInt_inj, ti_0, ti_1, ti_2, ti_3, ti_4, ti_8, ti_9, ti_10, ti_14, ti_15, ti_20, ti_60, ti_m1] at c_1 ⊢; omega
    refine lv_bipush (v := (-2)) hx hb dX4_pace_10 (by decide) ?_
    refine mi_ret (v := (-2)) hx hb hr hlk hP hD hS dX4_pace_12 ?_
    rw [show paE h pc v 3 = _ from by rw [paE, if_neg (fun z => cb z.1)]]
    refine ⟨?_, rfl⟩
    rw [paR, if_neg cb] <;> rfl
  · refine lv_iload_n hx hb dX4_pace_5 rfl (lv_at hl 1 rfl) ?_
    refine lv_iconst (v := 3) hx hb dX4_pace_6 (by decide) ?_
    refine lv_icmp_le (tgt := 13) hx hb dX4_pace_7 (by decide) (fun c_2 => ?_) (fun c_2 => ?_)
    · have cb : btw v 1 3 := by simp only [inN, softP, btw, inS, ripP, Int32.lt_iff_toInt_lt, Int32.le_iff_toInt_le, ← Int32.toInt_inj, ti_0, ti_1, ti_2, ti_3, ti_4, ti_8, ti_9, ti_10, ti_14, ti_15, ti_20, ti_60, ti_m1] at c_1 c_2 ⊢; omega
      refine lv_aload_n hx hb dX4_pace_13 rfl (lv_at hl 0 rfl) ?_
      refine va_get (D := D) (ci := 4) (v := .ref (a 1)) (C := RX4) (T := TX4) (N := 6) hx hb hts hin4 hown hK.1 hP 0 rfl rfl 0 (by decide) (hts _ (List.mem_of_getElem? (i := 1) rfl)) (fun _ h9 => h9) rfl dX4_pace_14 ?_
      refine k_ri (run_RN (As := []) (rest := []) ⟨hx, hb, hml, hown, hts⟩ (c_X0_stands l D cI cJ cO a h w pc br kd et nb hh) ⟨va_cnB 0 hts ggX4_pace_X0_stands rfl rfl rfl (nw_X4_106 hK) (hts _ (List.mem_of_getElem? (i := 3) rfl)) (by decide +kernel) ⟨Nat.le_of_ble_eq_true rfl, Nat.le_of_ble_eq_true rfl⟩, (hts _ (List.mem_of_getElem? (i := 2) rfl)), (hts _ (List.mem_of_getElem? (i := 4) rfl))⟩ hP hK [1, 2, 3, 4] rfl rfl rfl rfl rfl hl.1 rfl (Nat.le_of_ble_eq_true rfl) dX4_pace_17 ⟨Nat.le_refl _, Nat.le_refl _⟩) (fun r_3 q_4 => ?_)
      obtain rfl := q_4
      refine lv_if_ne (tgt := 26) hx hb dX4_pace_20 (by decide) (fun c_5 => ?_) (fun c_5 => ?_)
      · have c_5 := b2_t c_5
        have ch : ¬ h = 0 := by omega
        refine lv_aload_n hx hb dX4_pace_26 rfl (lv_at hl 0 rfl) ?_
        refine va_get (D := D) (ci := 4) (v := .ref (a 1)) (C := RX4) (T := TX4) (N := 6) hx hb hts hin4 hown hK.1 hP 0 rfl rfl 0 (by decide) (hts _ (List.mem_of_getElem? (i := 1) rfl)) (fun _ h9 => h9) rfl dX4_pace_27 ?_
        refine va_getN (D := D) (ci := 0) (v := .int pc) (C := RX0) (T := TX0) (N := 7) hx hb hts hin0 hown hK.1 hP 1 rfl rfl 2 (by decide) (va_Nw.use rfl (nw_X4_110 hK)) (fun _ h9 => h9) rfl dX4_pace_30 ?_
        refine lv_istore_n (lv' := [(2, .int pc), (0, .ref (a 0)), (1, .int v)]) hx hb dX4_pace_33 rfl hl (by decide) rfl (fun ls hl => ?_)
        refine lv_aload_n hx hb dX4_pace_34 rfl (lv_at hl 1 rfl) ?_
        refine va_get (D := D) (ci := 4) (v := .ref (a 1)) (C := RX4) (T := TX4) (N := 6) hx hb hts hin4 hown hK.1 hP 0 rfl rfl 0 (by decide) (hts _ (List.mem_of_getElem? (i := 1) rfl)) (fun _ h9 => h9) rfl dX4_pace_35 ?_
        refine lv_iload_n hx hb dX4_pace_38 rfl (lv_at hl 2 rfl) ?_
        refine va_putN (D := D) (ci := 0) (v := .int v) (ty := .int) (C := RX0) (T := TX0) (N := 7) hx hb hts hin0 tyX0 tyX0_ok nmX0 hown hK.1 hP hD hS 1 rfl rfl 2 (by decide) (va_Nw.use rfl (nw_X4_110 hK)) (fun _ h9 => h9) rfl (by decide +kernel) rfl rfl (Nat.le_of_ble_eq_true rfl) dX4_pace_39 (fun H locs hP hD hS => ?_)
        have hP : va_P D vwCl [(a 0, .inr (4, [.ref (a 1), .ref (a 5), .ref (a 9), .ref (a 12), .int ft, .int tr])), (a 1, .inr (0, [.int (nI h), .int (nI w), .int v, .int br, .ref (a 2), .ref (a 3), .ref (a 4)])), (a 2, .inl (cI, 16, .inl kd)), (a 3, .inl (cI, 16, .inl et)), (a 4, .inl (cI, 64, .inl nb))] H := hP
        have hD : va_D A [(a 0, .inr (4, [.ref (a 1), .ref (a 5), .ref (a 9), .ref (a 12), .int ft, .int tr])), (a 1, .inr (0, [.int (nI h), .int (nI w), .int v, .int br, .ref (a 2), .ref (a 3), .ref (a 4)])), (a 2, .inl (cI, 16, .inl kd)), (a 3, .inl (cI, 16, .inl et)), (a 4, .inl (cI, 64, .inl nb))] := hD
        refine lv_iload_n hx hb dX4_pace_42 rfl (lv_at hl 0 rfl) ?_
        refine mi_ret (v := pc) hx hb hr hlk hP hD hS dX4_pace_43 ?_
        rw [show paE h pc v 3 = _ from by rw [paE, if_pos ⟨cb, ch⟩]]
        refine ⟨?_, rfl⟩
        rw [paR, if_pos cb, if_neg ch] <;> rfl
      · have c_5 := b2_f c_5
        have ch : h = 0 := by omega
        refine lv_bipush (v := (-3)) hx hb dX4_pace_23 (by decide) ?_
        refine mi_ret (v := (-3)) hx hb hr hlk hP hD hS dX4_pace_25 ?_
        rw [show paE h pc v 3 = _ from by rw [paE, if_neg (fun z => (fun z => z ch) z.2)]]
        refine ⟨?_, rfl⟩
        rw [paR, if_pos cb, if_pos ch] <;> rfl
    · have cb : ¬ btw v 1 3 := by simp only [inN, softP, btw, inS, ripP, Int32.lt_iff_toInt_lt, Int32.le_iff_toInt_le, ← Int32.toInt_inj, ti_0, ti_1, ti_2, ti_3, ti_4, ti_8, ti_9, ti_10, ti_14, ti_15, ti_20, ti_60, ti_m1] at c_1 c_2 ⊢; omega
      refine lv_bipush (v := (-2)) hx hb dX4_pace_10 (by decide) ?_
      refine mi_ret (v := (-2)) hx hb hr hlk hP hD hS dX4_pace_12 ?_
      rw [show paE h pc v 3 = _ from by rw [paE, if_neg (fun z => cb z.1)]]
      refine ⟨?_, rfl⟩
      rw [paR, if_neg cb] <;> rfl
theorem iwX4_breadth_X0 : ∀ x ∈ wsX00, x ∈ wsX4_breadth := by decide +kernel
theorem iwX4_breadth_X4 : ∀ x ∈ wsX40, x ∈ wsX4_breadth := by decide +kernel
set_option maxRecDepth 100000 in
set_option maxHeartbeats 4000000 in
/-- X4_breadth -/
theorem c_X4_breadth (l : Launch) (D : va_G) (cI cJ cO : ClassId) (a : Nat → Nat) (ft : Int32) (tr : Int32) (h : Nat) (w : Nat) (pc : Int32) (br : Int32) (kd : Nat → Int32) (et : Nat → Int32) (nb : Nat → Int32) (v : Int32) (hh : h ≤ 4) : MG l yX4_breadth wsX4_breadth 1 20 0 0 D [(cI, .int), (cJ, .long), (cO, .object "ShornHill$Sheet")] [.ref (a 0), .int v] [(a 0, .inr (4, [.ref (a 1), .ref (a 5), .ref (a 9), .ref (a 12), .int ft, .int tr])), (a 1, .inr (0, [.int (nI h), .int (nI w), .int pc, .int br, .ref (a 2), .ref (a 3), .ref (a 4)])), (a 2, .inl (cI, 16, .inl kd)), (a 3, .inl (cI, 16, .inl et)), (a 4, .inl (cI, 64, .inl nb))] (QI D (fun (r : Int32) (w1 : va_W) => r = (paR h br v 9) ∧ w1 = [(a 0, .inr (4, [.ref (a 1), .ref (a 5), .ref (a 9), .ref (a 12), .int ft, .int tr])), (a 1, .inr (0, [.int (nI h), .int (nI w), .int pc, .int (paE h br v 9), .ref (a 2), .ref (a 3), .ref (a 4)])), (a 2, .inl (cI, 16, .inl kd)), (a 3, .inl (cI, 16, .inl et)), (a 4, .inl (cI, 64, .inl nb))])) := by
  refine MG.of (cc := cX4_breadth) (maxL := 3) (ret := (some .int)) (by decide) rfl (Nat.le_of_ble_eq_true rfl) ?_
  intro P_ E_ S_ M_ B_ T_ K_ hx hb hml hr hts hown hlk hnm A hA hP hK hD hS ls hl
  have hl : lv_has ls 3 [(0, .ref (a 0)), (1, .int v)] := hl
  have hin0 : ∀ x ∈ u_ws RX0 TX0 7, x ∈ wsX4_breadth := iwX4_breadth_X0
  have hin4 : ∀ x ∈ u_ws RX4 TX4 6, x ∈ wsX4_breadth := iwX4_breadth_X4
  refine lv_iload_n hx hb dX4_breadth_0 rfl (lv_at hl 1 rfl) ?_
  refine lv_iconst (v := 1) hx hb dX4_breadth_1 (by decide) ?_
  refine lv_icmp_lt (tgt := 11) hx hb dX4_breadth_2 (by decide) (fun c_1 => ?_) (fun c_1 => ?_)
  · have cb : ¬ btw v 1 9 := by simp only [inN, softP, btw, inS, ripP, Int32.lt_iff_toInt_lt, Int32.le_iff_toInt_le, ← Int32.toInt_inj, ti_0, ti_1, ti_2, ti_3, ti_4, ti_8, ti_9, ti_10, ti_14, ti_15, ti_20, ti_60, ti_m1] at c_1 ⊢; omega
    refine lv_bipush (v := (-2)) hx hb dX4_breadth_11 (by decide) ?_
    refine mi_ret (v := (-2)) hx hb hr hlk hP hD hS dX4_breadth_13 ?_
    rw [show paE h br v 9 = _ from by rw [paE, if_neg (fun z => cb z.1)]]
    refine ⟨?_, rfl⟩
    rw [paR, if_neg cb] <;> rfl
  · refine lv_iload_n hx hb dX4_breadth_5 rfl (lv_at hl 1 rfl) ?_
    refine lv_bipush (v := 9) hx hb dX4_breadth_6 (by decide) ?_
    refine lv_icmp_le (tgt := 14) hx hb dX4_breadth_8 (by decide) (fun c_2 => ?_) (fun c_2 => ?_)
    · have cb : btw v 1 9 := by simp only [inN, softP, btw, inS, ripP, Int32.lt_iff_toInt_lt, Int32.le_iff_toInt_le, ← Int32.toInt_inj, ti_0, ti_1, ti_2, ti_3, ti_4, ti_8, ti_9, ti_10, ti_14, ti_15, ti_20, ti_60, ti_m1] at c_1 c_2 ⊢; omega
      refine lv_aload_n hx hb dX4_breadth_14 rfl (lv_at hl 0 rfl) ?_
      refine va_get (D := D) (ci := 4) (v := .ref (a 1)) (C := RX4) (T := TX4) (N := 6) hx hb hts hin4 hown hK.1 hP 0 rfl rfl 0 (by decide) (hts _ (List.mem_of_getElem? (i := 1) rfl)) (fun _ h9 => h9) rfl dX4_breadth_15 ?_
      refine k_ri (run_RN (As := []) (rest := []) ⟨hx, hb, hml, hown, hts⟩ (c_X0_stands l D cI cJ cO a h w pc br kd et nb hh) ⟨va_cnB 0 hts ggX4_breadth_X0_stands rfl rfl rfl (nw_X4_106 hK) (hts _ (List.mem_of_getElem? (i := 3) rfl)) (by decide +kernel) ⟨Nat.le_of_ble_eq_true rfl, Nat.le_of_ble_eq_true rfl⟩, (hts _ (List.mem_of_getElem? (i := 2) rfl)), (hts _ (List.mem_of_getElem? (i := 4) rfl))⟩ hP hK [1, 2, 3, 4] rfl rfl rfl rfl rfl hl.1 rfl (Nat.le_of_ble_eq_true rfl) dX4_breadth_18 ⟨Nat.le_refl _, Nat.le_refl _⟩) (fun r_3 q_4 => ?_)
      obtain rfl := q_4
      refine lv_if_ne (tgt := 27) hx hb dX4_breadth_21 (by decide) (fun c_5 => ?_) (fun c_5 => ?_)
      · have c_5 := b2_t c_5
        have ch : ¬ h = 0 := by omega
        refine lv_aload_n hx hb dX4_breadth_27 rfl (lv_at hl 0 rfl) ?_
        refine va_get (D := D) (ci := 4) (v := .ref (a 1)) (C := RX4) (T := TX4) (N := 6) hx hb hts hin4 hown hK.1 hP 0 rfl rfl 0 (by decide) (hts _ (List.mem_of_getElem? (i := 1) rfl)) (fun _ h9 => h9) rfl dX4_breadth_28 ?_
        refine va_getN (D := D) (ci := 0) (v := .int br) (C := RX0) (T := TX0) (N := 7) hx hb hts hin0 hown hK.1 hP 1 rfl rfl 3 (by decide) (va_Nw.use rfl (nw_X4_113 hK)) (fun _ h9 => h9) rfl dX4_breadth_31 ?_
        refine lv_istore_n (lv' := [(2, .int br), (0, .ref (a 0)), (1, .int v)]) hx hb dX4_breadth_34 rfl hl (by decide) rfl (fun ls hl => ?_)
        refine lv_aload_n hx hb dX4_breadth_35 rfl (lv_at hl 1 rfl) ?_
        refine va_get (D := D) (ci := 4) (v := .ref (a 1)) (C := RX4) (T := TX4) (N := 6) hx hb hts hin4 hown hK.1 hP 0 rfl rfl 0 (by decide) (hts _ (List.mem_of_getElem? (i := 1) rfl)) (fun _ h9 => h9) rfl dX4_breadth_36 ?_
        refine lv_iload_n hx hb dX4_breadth_39 rfl (lv_at hl 2 rfl) ?_
        refine va_putN (D := D) (ci := 0) (v := .int v) (ty := .int) (C := RX0) (T := TX0) (N := 7) hx hb hts hin0 tyX0 tyX0_ok nmX0 hown hK.1 hP hD hS 1 rfl rfl 3 (by decide) (va_Nw.use rfl (nw_X4_113 hK)) (fun _ h9 => h9) rfl (by decide +kernel) rfl rfl (Nat.le_of_ble_eq_true rfl) dX4_breadth_40 (fun H locs hP hD hS => ?_)
        have hP : va_P D vwCl [(a 0, .inr (4, [.ref (a 1), .ref (a 5), .ref (a 9), .ref (a 12), .int ft, .int tr])), (a 1, .inr (0, [.int (nI h), .int (nI w), .int pc, .int v, .ref (a 2), .ref (a 3), .ref (a 4)])), (a 2, .inl (cI, 16, .inl kd)), (a 3, .inl (cI, 16, .inl et)), (a 4, .inl (cI, 64, .inl nb))] H := hP
        have hD : va_D A [(a 0, .inr (4, [.ref (a 1), .ref (a 5), .ref (a 9), .ref (a 12), .int ft, .int tr])), (a 1, .inr (0, [.int (nI h), .int (nI w), .int pc, .int v, .ref (a 2), .ref (a 3), .ref (a 4)])), (a 2, .inl (cI, 16, .inl kd)), (a 3, .inl (cI, 16, .inl et)), (a 4, .inl (cI, 64, .inl nb))] := hD
        refine lv_iload_n hx hb dX4_breadth_43 rfl (lv_at hl 0 rfl) ?_
        refine mi_ret (v := br) hx hb hr hlk hP hD hS dX4_breadth_44 ?_
        rw [show paE h br v 9 = _ from by rw [paE, if_pos ⟨cb, ch⟩]]
        refine ⟨?_, rfl⟩
        rw [paR, if_pos cb, if_neg ch] <;> rfl
      · have c_5 := b2_f c_5
        have ch : h = 0 := by omega
        refine lv_bipush (v := (-3)) hx hb dX4_breadth_24 (by decide) ?_
        refine mi_ret (v := (-3)) hx hb hr hlk hP hD hS dX4_breadth_26 ?_
        rw [show paE h br v 9 = _ from by rw [paE, if_neg (fun z => (fun z => z ch) z.2)]]
        refine ⟨?_, rfl⟩
        rw [paR, if_pos cb, if_pos ch] <;> rfl
    · have cb : ¬ btw v 1 9 := by simp only [inN, softP, btw, inS, ripP, Int32.lt_iff_toInt_lt, Int32.le_iff_toInt_le, ← Int32.toInt_inj, ti_0, ti_1, ti_2, ti_3, ti_4, ti_8, ti_9, ti_10, ti_14, ti_15, ti_20, ti_60, ti_m1] at c_1 c_2 ⊢; omega
      refine lv_bipush (v := (-2)) hx hb dX4_breadth_11 (by decide) ?_
      refine mi_ret (v := (-2)) hx hb hr hlk hP hD hS dX4_breadth_13 ?_
      rw [show paE h br v 9 = _ from by rw [paE, if_neg (fun z => cb z.1)]]
      refine ⟨?_, rfl⟩
      rw [paR, if_neg cb] <;> rfl
theorem iwX4_coat_X4 : ∀ x ∈ wsX40, x ∈ wsX4_coat := by decide +kernel
set_option maxRecDepth 100000 in
set_option maxHeartbeats 4000000 in
/-- X4_coat -/
theorem c_X4_coat (l : Launch) (D : va_G) (cI cJ cO : ClassId) (a : Nat → Nat) (ft : Int32) (tr : Int32) (h : Nat) (w : Nat) (pc : Int32) (br : Int32) (kd : Nat → Int32) (et : Nat → Int32) (nb : Nat → Int32) (c : Int32) (ws : Int32) (hn : h * w ≤ 16) : RG l yX4_coat wsX4_coat 2 44 D [(cI, .int), (cJ, .long), (cO, .object "ShornHill$Sheet")] [.ref (a 0), .int c, .int ws] [(a 0, .inr (4, [.ref (a 1), .ref (a 5), .ref (a 9), .ref (a 12), .int ft, .int tr])), (a 1, .inr (0, [.int (nI h), .int (nI w), .int pc, .int br, .ref (a 2), .ref (a 3), .ref (a 4)])), (a 2, .inl (cI, 16, .inl kd)), (a 3, .inl (cI, 16, .inl et)), (a 4, .inl (cI, 64, .inl nb))] (vp_Si (fun (r : Int32) => r = (coR (h * w) pc kd et c ws))) := by
  refine RG.of (cc := cX4_coat) (maxL := 3) (ret := (some .int)) (by decide) rfl (Nat.le_of_ble_eq_true rfl) ?_
  intro P_ E_ S_ M_ B_ T_ K_ hx hb hml hr hts hown hlk hP hK ls hl
  have hl : lv_has ls 3 [(0, .ref (a 0)), (1, .int c), (2, .int ws)] := hl
  have hin4 : ∀ x ∈ u_ws RX4 TX4 6, x ∈ wsX4_coat := iwX4_coat_X4
  refine lv_aload_n hx hb dX4_coat_0 rfl (lv_at hl 0 rfl) ?_
  refine va_get (D := D) (ci := 4) (v := .ref (a 1)) (C := RX4) (T := TX4) (N := 6) hx hb hts hin4 hown hK.1 hP 0 rfl rfl 0 (by decide) (hts _ (List.mem_of_getElem? (i := 1) rfl)) (fun _ h9 => h9) rfl dX4_coat_1 ?_
  refine lv_iload_n hx hb dX4_coat_4 rfl (lv_at hl 1 rfl) ?_
  refine k_ri (run_RN (As := [.int c]) (rest := []) ⟨hx, hb, hml, hown, hts⟩ (c_X0_has l D cI cJ cO a h w pc br kd et nb c hn) ⟨va_cnB 1 hts ggX4_coat_X0_has rfl rfl rfl (nw_X4_88 hK) (hts _ (List.mem_of_getElem? (i := 3) rfl)) (by decide +kernel) ⟨Nat.le_of_ble_eq_true rfl, Nat.le_of_ble_eq_true rfl⟩, (hts _ (List.mem_of_getElem? (i := 2) rfl)), (hts _ (List.mem_of_getElem? (i := 4) rfl))⟩ hP hK [1, 2, 3, 4] rfl rfl rfl rfl rfl hl.1 rfl (Nat.le_of_ble_eq_true rfl) dX4_coat_5 ⟨Nat.le_refl _, Nat.le_refl _⟩) (fun r_1 q_2 => ?_)
  obtain rfl := q_2
  refine lv_if_ne (tgt := 13) hx hb dX4_coat_8 (by decide) (fun c_3 => ?_) (fun c_3 => ?_)
  · have c_3 := b2_t c_3
    refine lv_iload_n hx hb dX4_coat_13 rfl (lv_at hl 2 rfl) ?_
    refine k_ri (run_RS (As := [.int ws]) (rest := []) ⟨hx, hb, hml, hown, hts⟩ (c_X4_isWeeks l D cI cJ cO ws) (va_cwS 1 hts gX4_coat_X4_isWeeks rfl rfl rfl (by decide +kernel) ⟨Nat.le_of_ble_eq_true rfl, Nat.le_of_ble_eq_true rfl⟩) hP hK [] rfl rfl hl.1 rfl (Nat.le_of_ble_eq_true rfl) dX4_coat_14 ⟨Nat.le_refl _, Nat.le_refl _⟩) (fun r_4 q_5 => ?_)
    obtain rfl := q_5
    refine lv_if_eq (tgt := 32) hx hb dX4_coat_17 (by decide) (fun c_6 => ?_) (fun c_6 => ?_)
    · have c_6 := b2_f c_6
      refine lv_bipush (v := (-2)) hx hb dX4_coat_32 (by decide) ?_
      refine ri_ret (v := (-2)) hx hb hr hlk dX4_coat_34 ?_
      rw [coR, if_pos c_3, if_neg c_6] <;> rfl
    · have c_6 := b2_t c_6
      refine lv_aload_n hx hb dX4_coat_20 rfl (lv_at hl 0 rfl) ?_
      refine va_get (D := D) (ci := 4) (v := .ref (a 1)) (C := RX4) (T := TX4) (N := 6) hx hb hts hin4 hown hK.1 hP 0 rfl rfl 0 (by decide) (hts _ (List.mem_of_getElem? (i := 1) rfl)) (fun _ h9 => h9) rfl dX4_coat_21 ?_
      refine lv_iload_n hx hb dX4_coat_24 rfl (lv_at hl 1 rfl) ?_
      refine lv_iload_n hx hb dX4_coat_25 rfl (lv_at hl 2 rfl) ?_
      refine k_ri (run_RN (As := [.int c, .int ws]) (rest := []) ⟨hx, hb, hml, hown, hts⟩ (c_X0_inches l D cI cJ cO a h w pc br kd et nb c ws c.toNatClampNeg (inN.vp c_3 (by omega)) rfl) ⟨va_cnB 2 hts ggX4_coat_X0_inches rfl rfl rfl (nw_X4_119 hK) (hts _ (List.mem_of_getElem? (i := 3) rfl)) (by decide +kernel) ⟨Nat.le_of_ble_eq_true rfl, Nat.le_of_ble_eq_true rfl⟩, (hts _ (List.mem_of_getElem? (i := 16) rfl)), (hts _ (List.mem_of_getElem? (i := 17) rfl))⟩ hP hK [1, 2, 3, 4] rfl rfl rfl rfl rfl hl.1 rfl (Nat.le_of_ble_eq_true rfl) dX4_coat_26 ⟨Nat.le_refl _, Nat.le_refl _⟩) (fun r_7 q_8 => ?_)
      obtain rfl := q_8
      refine lv_goto (tgt := 34) hx hb dX4_coat_29 (by decide) ?_
      refine ri_ret (v := (cv (kd c.toNatClampNeg) pc (et c.toNatClampNeg) ws)) hx hb hr hlk dX4_coat_34 ?_
      rw [coR, if_pos c_3, if_pos c_6] <;> rfl
  · have c_3 := b2_f c_3
    refine lv_iconst (v := (-1)) hx hb dX4_coat_11 (by decide) ?_
    refine ri_ret (v := (-1)) hx hb hr hlk dX4_coat_12 ?_
    rw [coR, if_neg c_3] <;> rfl
theorem iwX4_ripe_X4 : ∀ x ∈ wsX40, x ∈ wsX4_ripe := by decide +kernel
set_option maxRecDepth 100000 in
set_option maxHeartbeats 4000000 in
/-- X4_ripe -/
theorem c_X4_ripe (l : Launch) (D : va_G) (cI cJ cO : ClassId) (a : Nat → Nat) (ft : Int32) (tr : Int32) (h : Nat) (w : Nat) (pc : Int32) (br : Int32) (kd : Nat → Int32) (et : Nat → Int32) (nb : Nat → Int32) (ws : Int32) (hn : h * w ≤ 16) (hh : h ≤ 4) : RG l yX4_ripe wsX4_ripe 4 89 D [(cI, .int), (cJ, .long), (cO, .object "ShornHill$Sheet")] [.ref (a 0), .int ws] [(a 0, .inr (4, [.ref (a 1), .ref (a 5), .ref (a 9), .ref (a 12), .int ft, .int tr])), (a 1, .inr (0, [.int (nI h), .int (nI w), .int pc, .int br, .ref (a 2), .ref (a 3), .ref (a 4)])), (a 2, .inl (cI, 16, .inl kd)), (a 3, .inl (cI, 16, .inl et)), (a 4, .inl (cI, 64, .inl nb))] (vp_Si (fun (r : Int32) => r = (riR h (h * w) pc br kd et ws))) := by
  refine RG.of (cc := cX4_ripe) (maxL := 2) (ret := (some .int)) (by decide) rfl (Nat.le_of_ble_eq_true rfl) ?_
  intro P_ E_ S_ M_ B_ T_ K_ hx hb hml hr hts hown hlk hP hK ls hl
  have hl : lv_has ls 2 [(0, .ref (a 0)), (1, .int ws)] := hl
  have hin4 : ∀ x ∈ u_ws RX4 TX4 6, x ∈ wsX4_ripe := iwX4_ripe_X4
  refine lv_aload_n hx hb dX4_ripe_0 rfl (lv_at hl 0 rfl) ?_
  refine va_get (D := D) (ci := 4) (v := .ref (a 1)) (C := RX4) (T := TX4) (N := 6) hx hb hts hin4 hown hK.1 hP 0 rfl rfl 0 (by decide) (hts _ (List.mem_of_getElem? (i := 1) rfl)) (fun _ h9 => h9) rfl dX4_ripe_1 ?_
  refine k_ri (run_RN (As := []) (rest := []) ⟨hx, hb, hml, hown, hts⟩ (c_X0_stands l D cI cJ cO a h w pc br kd et nb hh) ⟨va_cnB 0 hts ggX4_ripe_X0_stands rfl rfl rfl (nw_X4_106 hK) (hts _ (List.mem_of_getElem? (i := 3) rfl)) (by decide +kernel) ⟨Nat.le_of_ble_eq_true rfl, Nat.le_of_ble_eq_true rfl⟩, (hts _ (List.mem_of_getElem? (i := 2) rfl)), (hts _ (List.mem_of_getElem? (i := 4) rfl))⟩ hP hK [1, 2, 3, 4] rfl rfl rfl rfl rfl hl.1 rfl (Nat.le_of_ble_eq_true rfl) dX4_ripe_4 ⟨Nat.le_refl _, Nat.le_refl _⟩) (fun r_1 q_2 => ?_)
  obtain rfl := q_2
  refine lv_if_ne (tgt := 13) hx hb dX4_ripe_7 (by decide) (fun c_3 => ?_) (fun c_3 => ?_)
  · have c_3 := b2_t c_3
    have ch : ¬ h = 0 := by omega
    refine lv_iload_n hx hb dX4_ripe_13 rfl (lv_at hl 1 rfl) ?_
    refine k_ri (run_RS (As := [.int ws]) (rest := []) ⟨hx, hb, hml, hown, hts⟩ (c_X4_isWeeks l D cI cJ cO ws) (va_cwS 1 hts gX4_ripe_X4_isWeeks rfl rfl rfl (by decide +kernel) ⟨Nat.le_of_ble_eq_true rfl, Nat.le_of_ble_eq_true rfl⟩) hP hK [] rfl rfl hl.1 rfl (Nat.le_of_ble_eq_true rfl) dX4_ripe_14 ⟨Nat.le_refl _, Nat.le_refl _⟩) (fun r_4 q_5 => ?_)
    obtain rfl := q_5
    refine lv_if_eq (tgt := 31) hx hb dX4_ripe_17 (by decide) (fun c_6 => ?_) (fun c_6 => ?_)
    · have c_6 := b2_f c_6
      refine lv_bipush (v := (-2)) hx hb dX4_ripe_31 (by decide) ?_
      refine ri_ret (v := (-2)) hx hb hr hlk dX4_ripe_33 ?_
      rw [riR, if_neg ch, if_neg c_6] <;> rfl
    · have c_6 := b2_t c_6
      refine lv_aload_n hx hb dX4_ripe_20 rfl (lv_at hl 0 rfl) ?_
      refine va_get (D := D) (ci := 4) (v := .ref (a 1)) (C := RX4) (T := TX4) (N := 6) hx hb hts hin4 hown hK.1 hP 0 rfl rfl 0 (by decide) (hts _ (List.mem_of_getElem? (i := 1) rfl)) (fun _ h9 => h9) rfl dX4_ripe_21 ?_
      refine lv_iload_n hx hb dX4_ripe_24 rfl (lv_at hl 1 rfl) ?_
      refine k_ri (run_RN (As := [.int ws]) (rest := []) ⟨hx, hb, hml, hown, hts⟩ (c_X0_ripeCells l D cI cJ cO a h w pc br kd et nb ws hn) ⟨va_cnB 1 hts ggX4_ripe_X0_ripeCells rfl rfl rfl (nw_X4_123 hK) (hts _ (List.mem_of_getElem? (i := 3) rfl)) (by decide +kernel) ⟨Nat.le_of_ble_eq_true rfl, Nat.le_of_ble_eq_true rfl⟩, (hts _ (List.mem_of_getElem? (i := 11) rfl)), (hts _ (List.mem_of_getElem? (i := 12) rfl))⟩ hP hK [1, 2, 3, 4] rfl rfl rfl rfl rfl hl.1 rfl (Nat.le_of_ble_eq_true rfl) dX4_ripe_25 ⟨Nat.le_refl _, Nat.le_refl _⟩) (fun r_7 q_8 => ?_)
      obtain rfl := q_8
      refine lv_goto (tgt := 33) hx hb dX4_ripe_28 (by decide) ?_
      refine ri_ret (v := (ripS pc br kd et ws (h * w))) hx hb hr hlk dX4_ripe_33 ?_
      rw [riR, if_neg ch, if_pos c_6] <;> rfl
  · have c_3 := b2_f c_3
    have ch : h = 0 := by omega
    refine lv_bipush (v := (-3)) hx hb dX4_ripe_10 (by decide) ?_
    refine ri_ret (v := (-3)) hx hb hr hlk dX4_ripe_12 ?_
    rw [riR, if_pos ch] <;> rfl
theorem iwX4_reading_X1 : ∀ x ∈ wsX10, x ∈ wsX4_reading := by decide +kernel
theorem iwX4_reading_X4 : ∀ x ∈ wsX40, x ∈ wsX4_reading := by decide +kernel
set_option maxRecDepth 100000 in
set_option maxHeartbeats 4000000 in
/-- X4_reading -/
theorem c_X4_reading (l : Launch) (D : va_G) (cI cJ cO : ClassId) (a : Nat → Nat) (ft : Int32) (tr : Int32) (h : Nat) (w : Nat) (pc : Int32) (br : Int32) (kd : Nat → Int32) (et : Nat → Int32) (nb : Nat → Int32) (rc : Nat) (ro : Nat → Int32) (rb : Nat → Int32) (rv : Nat → Int32) (c : Int32) (ws : Int32) (v : Int32) (hn : h * w ≤ 16) (hrc : rc ≤ 8) : MG l yX4_reading wsX4_reading 3 62 0 0 D [(cI, .int), (cJ, .long), (cO, .object "ShornHill$Sheet")] [.ref (a 0), .int c, .int ws, .int v] [(a 0, .inr (4, [.ref (a 1), .ref (a 5), .ref (a 9), .ref (a 12), .int ft, .int tr])), (a 1, .inr (0, [.int (nI h), .int (nI w), .int pc, .int br, .ref (a 2), .ref (a 3), .ref (a 4)])), (a 2, .inl (cI, 16, .inl kd)), (a 3, .inl (cI, 16, .inl et)), (a 4, .inl (cI, 64, .inl nb)), (a 5, .inr (1, [.int (nI rc), .ref (a 6), .ref (a 7), .ref (a 8)])), (a 6, .inl (cI, 8, .inl ro)), (a 7, .inl (cI, 8, .inl rb)), (a 8, .inl (cI, 8, .inl rv))] (QI D (fun (r : Int32) (w1 : va_W) => r = (reR (h * w) kd rc c ws v) ∧ w1 = [(a 0, .inr (4, [.ref (a 1), .ref (a 5), .ref (a 9), .ref (a 12), .int ft, .int tr])), (a 1, .inr (0, [.int (nI h), .int (nI w), .int pc, .int br, .ref (a 2), .ref (a 3), .ref (a 4)])), (a 2, .inl (cI, 16, .inl kd)), (a 3, .inl (cI, 16, .inl et)), (a 4, .inl (cI, 64, .inl nb)), (a 5, .inr (1, [.int (nI (reC (h * w) kd rc c ws v)), .ref (a 6), .ref (a 7), .ref (a 8)])), (a 6, .inl (cI, 8, .inl (reA (h * w) kd rc c ws v ro c))), (a 7, .inl (cI, 8, .inl (reA (h * w) kd rc c ws v rb ws))), (a 8, .inl (cI, 8, .inl (reA (h * w) kd rc c ws v rv v)))])) := by
  refine MG.of (cc := cX4_reading) (maxL := 4) (ret := (some .int)) (by decide) rfl (Nat.le_of_ble_eq_true rfl) ?_
  intro P_ E_ S_ M_ B_ T_ K_ hx hb hml hr hts hown hlk hnm A hA hP hK hD hS ls hl
  have hl : lv_has ls 4 [(0, .ref (a 0)), (1, .int c), (2, .int ws), (3, .int v)] := hl
  have hin1 : ∀ x ∈ u_ws RX1 TX1 4, x ∈ wsX4_reading := iwX4_reading_X1
  have hin4 : ∀ x ∈ u_ws RX4 TX4 6, x ∈ wsX4_reading := iwX4_reading_X4
  refine lv_aload_n hx hb dX4_reading_0 rfl (lv_at hl 0 rfl) ?_
  refine va_get (D := D) (ci := 4) (v := .ref (a 1)) (C := RX4) (T := TX4) (N := 6) hx hb hts hin4 hown hK.1 hP 0 rfl rfl 0 (by decide) (hts _ (List.mem_of_getElem? (i := 1) rfl)) (fun _ h9 => h9) rfl dX4_reading_1 ?_
  refine lv_iload_n hx hb dX4_reading_4 rfl (lv_at hl 1 rfl) ?_
  refine k_ri (run_RN (As := [.int c]) (rest := []) ⟨hx, hb, hml, hown, hts⟩ (c_X0_isSoft l D cI cJ cO a h w pc br kd et nb c hn) ⟨va_cnB 1 hts ggX4_reading_X0_isSoft rfl rfl rfl (nw_X4_100 hK) (hts _ (List.mem_of_getElem? (i := 4) rfl)) (by decide +kernel) ⟨Nat.le_of_ble_eq_true rfl, Nat.le_of_ble_eq_true rfl⟩, (hts _ (List.mem_of_getElem? (i := 3) rfl)), (hts _ (List.mem_of_getElem? (i := 5) rfl))⟩ hP hK [1, 2, 3, 4] rfl rfl rfl rfl rfl hl.1 rfl (Nat.le_of_ble_eq_true rfl) dX4_reading_5 ⟨Nat.le_refl _, Nat.le_refl _⟩) (fun r_1 q_2 => ?_)
  obtain rfl := q_2
  refine lv_if_ne (tgt := 13) hx hb dX4_reading_8 (by decide) (fun c_3 => ?_) (fun c_3 => ?_)
  · have c_3 := b2_t c_3
    refine lv_iload_n hx hb dX4_reading_13 rfl (lv_at hl 2 rfl) ?_
    refine k_ri (run_RS (As := [.int ws]) (rest := []) ⟨hx, hb, hml, hown, hts⟩ (c_X4_isWeeks l D cI cJ cO ws) (va_cwS 1 hts gX4_reading_X4_isWeeks rfl rfl rfl (by decide +kernel) ⟨Nat.le_of_ble_eq_true rfl, Nat.le_of_ble_eq_true rfl⟩) hP hK [] rfl rfl hl.1 rfl (Nat.le_of_ble_eq_true rfl) dX4_reading_14 ⟨Nat.le_refl _, Nat.le_refl _⟩) (fun r_4 q_5 => ?_)
    obtain rfl := q_5
    refine lv_if_eq (tgt := 27) hx hb dX4_reading_17 (by decide) (fun c_6 => ?_) (fun c_6 => ?_)
    · have c_6 := b2_f c_6
      refine lv_bipush (v := (-2)) hx hb dX4_reading_27 (by decide) ?_
      refine mi_ret (v := (-2)) hx hb hr hlk hP hD hS dX4_reading_29 ?_
      rw [show reC (h * w) kd rc c ws v = _ from by rw [reC, if_neg (fun z => (fun z => (fun z => c_6 z.1) z.1) z.2)]]
      rw [show reA (h * w) kd rc c ws v ro c = _ from by rw [reA, if_neg (fun z => (fun z => (fun z => c_6 z.1) z.1) z.2)]]
      rw [show reA (h * w) kd rc c ws v rb ws = _ from by rw [reA, if_neg (fun z => (fun z => (fun z => c_6 z.1) z.1) z.2)]]
      rw [show reA (h * w) kd rc c ws v rv v = _ from by rw [reA, if_neg (fun z => (fun z => (fun z => c_6 z.1) z.1) z.2)]]
      refine ⟨?_, rfl⟩
      rw [reR, if_pos c_3, if_neg (fun z => c_6 z.1)] <;> rfl
    · have c_6 := b2_t c_6
      refine lv_iload_n hx hb dX4_reading_20 rfl (lv_at hl 3 rfl) ?_
      refine k_ri (run_RS (As := [.int v]) (rest := []) ⟨hx, hb, hml, hown, hts⟩ (c_X4_isInches l D cI cJ cO v) (va_cwS 1 hts gX4_reading_X4_isInches rfl rfl rfl (by decide +kernel) ⟨Nat.le_of_ble_eq_true rfl, Nat.le_of_ble_eq_true rfl⟩) hP hK [] rfl rfl hl.1 rfl (Nat.le_of_ble_eq_true rfl) dX4_reading_21 ⟨Nat.le_refl _, Nat.le_refl _⟩) (fun r_7 q_8 => ?_)
      obtain rfl := q_8
      refine lv_if_ne (tgt := 30) hx hb dX4_reading_24 (by decide) (fun c_9 => ?_) (fun c_9 => ?_)
      · have c_9 := b2_t c_9
        refine lv_aload_n hx hb dX4_reading_30 rfl (lv_at hl 0 rfl) ?_
        refine va_get (D := D) (ci := 4) (v := .ref (a 5)) (C := RX4) (T := TX4) (N := 6) hx hb hts hin4 hown hK.1 hP 0 rfl rfl 1 (by decide) (hts _ (List.mem_of_getElem? (i := 2) rfl)) (fun _ h9 => h9) rfl dX4_reading_31 ?_
        refine va_getN (D := D) (ci := 1) (v := .int (nI rc)) (C := RX1) (T := TX1) (N := 4) hx hb hts hin1 hown hK.1 hP 5 rfl rfl 0 (by decide) (va_Nw.use rfl (nw_X4_76 hK)) (fun _ h9 => h9) rfl dX4_reading_34 ?_
        refine lv_bipush (v := 8) hx hb dX4_reading_37 (by decide) ?_
        refine lv_icmp_ge (tgt := 55) hx hb dX4_reading_39 (by decide) (fun c_10 => ?_) (fun c_10 => ?_)
        · have c_10 : 8 ≤ rc := (nI_leI (a := 8) (b := rc) (by omega) (by omega)).mp c_10
          have cr : ¬ rc < 8 := by omega
          refine lv_bipush (v := (-4)) hx hb dX4_reading_55 (by decide) ?_
          refine mi_ret (v := (-4)) hx hb hr hlk hP hD hS dX4_reading_57 ?_
          rw [show reC (h * w) kd rc c ws v = _ from by rw [reC, if_neg (fun z => (fun z => cr z.2) z.2)]]
          rw [show reA (h * w) kd rc c ws v ro c = _ from by rw [reA, if_neg (fun z => (fun z => cr z.2) z.2)]]
          rw [show reA (h * w) kd rc c ws v rb ws = _ from by rw [reA, if_neg (fun z => (fun z => cr z.2) z.2)]]
          rw [show reA (h * w) kd rc c ws v rv v = _ from by rw [reA, if_neg (fun z => (fun z => cr z.2) z.2)]]
          refine ⟨?_, rfl⟩
          rw [reR, if_pos c_3, if_pos ⟨c_6, c_9⟩, if_neg cr] <;> rfl
        · have c_10 : rc < 8 := Nat.lt_of_not_le (fun z => c_10 ((nI_leI (a := 8) (b := rc) (by omega) (by omega)).mpr z))
          have cr : rc < 8 := by omega
          refine lv_aload_n hx hb dX4_reading_42 rfl (lv_at hl 0 rfl) ?_
          refine va_get (D := D) (ci := 4) (v := .ref (a 5)) (C := RX4) (T := TX4) (N := 6) hx hb hts hin4 hown hK.1 hP 0 rfl rfl 1 (by decide) (hts _ (List.mem_of_getElem? (i := 2) rfl)) (fun _ h9 => h9) rfl dX4_reading_43 ?_
          refine lv_iload_n hx hb dX4_reading_46 rfl (lv_at hl 1 rfl) ?_
          refine lv_iload_n hx hb dX4_reading_47 rfl (lv_at hl 2 rfl) ?_
          refine lv_iload_n hx hb dX4_reading_48 rfl (lv_at hl 3 rfl) ?_
          refine k_mi (wr := [(a 0, .inr (4, [.ref (a 1), .ref (a 5), .ref (a 9), .ref (a 12), .int ft, .int tr])), (a 1, .inr (0, [.int (nI h), .int (nI w), .int pc, .int br, .ref (a 2), .ref (a 3), .ref (a 4)])), (a 2, .inl (cI, 16, .inl kd)), (a 3, .inl (cI, 16, .inl et)), (a 4, .inl (cI, 64, .inl nb))]) [5, 6, 7, 8] [0, 1, 2, 3, 4] (run_MN (As := [.int c, .int ws, .int v]) (rest := []) ⟨hx, hb, hml, hown, hts⟩ (c_X1_add l D cI cJ cO a rc ro rb rv c ws v cr) ⟨va_cnB 3 hts ggX4_reading_X1_add rfl rfl rfl (nw_X4_161 hK) (hts _ (List.mem_of_getElem? (i := 26) rfl)) (by decide +kernel) ⟨Nat.le_of_ble_eq_true rfl, Nat.le_of_ble_eq_true rfl⟩, (hts _ (List.mem_of_getElem? (i := 25) rfl)), (hts _ (List.mem_of_getElem? (i := 27) rfl))⟩ hP hK hD [5, 6, 7, 8] (by decide) rfl rfl rfl rfl rfl hl.1 rfl (Nat.le_of_ble_eq_true rfl) dX4_reading_49 ⟨Nat.le_refl _, Nat.le_refl _⟩) hP hD hS hA rfl rfl (by decide) (by decide) (fun r_11 w_13 H locs q_12 hP hD hS => ?_)
          obtain ⟨rfl, rfl⟩ := q_12
          have hP : va_P D vwCl [(a 0, .inr (4, [.ref (a 1), .ref (a 5), .ref (a 9), .ref (a 12), .int ft, .int tr])), (a 1, .inr (0, [.int (nI h), .int (nI w), .int pc, .int br, .ref (a 2), .ref (a 3), .ref (a 4)])), (a 2, .inl (cI, 16, .inl kd)), (a 3, .inl (cI, 16, .inl et)), (a 4, .inl (cI, 64, .inl nb)), (a 5, .inr (1, [.int (nI (rc + 1)), .ref (a 6), .ref (a 7), .ref (a 8)])), (a 6, .inl (cI, 8, .inl (upd ro rc c))), (a 7, .inl (cI, 8, .inl (upd rb rc ws))), (a 8, .inl (cI, 8, .inl (upd rv rc v)))] H := hP.sub [0, 1, 2, 3, 4, 5, 6, 7, 8] rfl
          have hD : va_D A [(a 0, .inr (4, [.ref (a 1), .ref (a 5), .ref (a 9), .ref (a 12), .int ft, .int tr])), (a 1, .inr (0, [.int (nI h), .int (nI w), .int pc, .int br, .ref (a 2), .ref (a 3), .ref (a 4)])), (a 2, .inl (cI, 16, .inl kd)), (a 3, .inl (cI, 16, .inl et)), (a 4, .inl (cI, 64, .inl nb)), (a 5, .inr (1, [.int (nI (rc + 1)), .ref (a 6), .ref (a 7), .ref (a 8)])), (a 6, .inl (cI, 8, .inl (upd ro rc c))), (a 7, .inl (cI, 8, .inl (upd rb rc ws))), (a 8, .inl (cI, 8, .inl (upd rv rc v)))] := hD.sub [0, 1, 2, 3, 4, 5, 6, 7, 8] (by decide) rfl
          refine lv_goto (tgt := 57) hx hb dX4_reading_52 (by decide) ?_
          refine mi_ret (v := (nI rc)) hx hb hr hlk hP hD hS dX4_reading_57 ?_
          rw [show reC (h * w) kd rc c ws v = _ from by rw [reC, if_pos ⟨c_3, ⟨⟨c_6, c_9⟩, cr⟩⟩]]
          rw [show reA (h * w) kd rc c ws v ro c = _ from by rw [reA, if_pos ⟨c_3, ⟨⟨c_6, c_9⟩, cr⟩⟩]]
          rw [show reA (h * w) kd rc c ws v rb ws = _ from by rw [reA, if_pos ⟨c_3, ⟨⟨c_6, c_9⟩, cr⟩⟩]]
          rw [show reA (h * w) kd rc c ws v rv v = _ from by rw [reA, if_pos ⟨c_3, ⟨⟨c_6, c_9⟩, cr⟩⟩]]
          refine ⟨?_, rfl⟩
          rw [reR, if_pos c_3, if_pos ⟨c_6, c_9⟩, if_pos cr] <;> rfl
      · have c_9 := b2_f c_9
        refine lv_bipush (v := (-2)) hx hb dX4_reading_27 (by decide) ?_
        refine mi_ret (v := (-2)) hx hb hr hlk hP hD hS dX4_reading_29 ?_
        rw [show reC (h * w) kd rc c ws v = _ from by rw [reC, if_neg (fun z => (fun z => (fun z => c_9 z.2) z.1) z.2)]]
        rw [show reA (h * w) kd rc c ws v ro c = _ from by rw [reA, if_neg (fun z => (fun z => (fun z => c_9 z.2) z.1) z.2)]]
        rw [show reA (h * w) kd rc c ws v rb ws = _ from by rw [reA, if_neg (fun z => (fun z => (fun z => c_9 z.2) z.1) z.2)]]
        rw [show reA (h * w) kd rc c ws v rv v = _ from by rw [reA, if_neg (fun z => (fun z => (fun z => c_9 z.2) z.1) z.2)]]
        refine ⟨?_, rfl⟩
        rw [reR, if_pos c_3, if_neg (fun z => c_9 z.2)] <;> rfl
  · have c_3 := b2_f c_3
    refine lv_iconst (v := (-1)) hx hb dX4_reading_11 (by decide) ?_
    refine mi_ret (v := (-1)) hx hb hr hlk hP hD hS dX4_reading_12 ?_
    rw [show reC (h * w) kd rc c ws v = _ from by rw [reC, if_neg (fun z => c_3 z.1)]]
    rw [show reA (h * w) kd rc c ws v ro c = _ from by rw [reA, if_neg (fun z => c_3 z.1)]]
    rw [show reA (h * w) kd rc c ws v rb ws = _ from by rw [reA, if_neg (fun z => c_3 z.1)]]
    rw [show reA (h * w) kd rc c ws v rv v = _ from by rw [reA, if_neg (fun z => c_3 z.1)]]
    refine ⟨?_, rfl⟩
    rw [reR, if_neg c_3] <;> rfl
theorem iwX4_back_X1 : ∀ x ∈ wsX10, x ∈ wsX4_back := by decide +kernel
theorem iwX4_back_X4 : ∀ x ∈ wsX40, x ∈ wsX4_back := by decide +kernel
set_option maxRecDepth 100000 in
set_option maxHeartbeats 4000000 in
/-- X4_back -/
theorem c_X4_back (l : Launch) (D : va_G) (cI cJ cO : ClassId) (a : Nat → Nat) (ft : Int32) (tr : Int32) (rc : Nat) (ro : Nat → Int32) (rb : Nat → Int32) (rv : Nat → Int32) (v : Int32) (hrc : rc ≤ 8) : MG l yX4_back wsX4_back 0 0 0 0 D [(cI, .int), (cJ, .long), (cO, .object "ShornHill$Sheet")] [.ref (a 0), .int v] [(a 0, .inr (4, [.ref (a 1), .ref (a 5), .ref (a 9), .ref (a 12), .int ft, .int tr])), (a 5, .inr (1, [.int (nI rc), .ref (a 6), .ref (a 7), .ref (a 8)])), (a 6, .inl (cI, 8, .inl ro)), (a 7, .inl (cI, 8, .inl rb)), (a 8, .inl (cI, 8, .inl rv))] (QI D (fun (r : Int32) (w1 : va_W) => r = (baR rc v) ∧ w1 = [(a 0, .inr (4, [.ref (a 1), .ref (a 5), .ref (a 9), .ref (a 12), .int ft, .int tr])), (a 5, .inr (1, [.int (nI (baC rc v)), .ref (a 6), .ref (a 7), .ref (a 8)])), (a 6, .inl (cI, 8, .inl ro)), (a 7, .inl (cI, 8, .inl rb)), (a 8, .inl (cI, 8, .inl rv))])) := by
  refine MG.of (cc := cX4_back) (maxL := 2) (ret := (some .int)) (by decide) rfl (Nat.le_of_ble_eq_true rfl) ?_
  intro P_ E_ S_ M_ B_ T_ K_ hx hb hml hr hts hown hlk hnm A hA hP hK hD hS ls hl
  have hl : lv_has ls 2 [(0, .ref (a 0)), (1, .int v)] := hl
  have hin1 : ∀ x ∈ u_ws RX1 TX1 4, x ∈ wsX4_back := iwX4_back_X1
  have hin4 : ∀ x ∈ u_ws RX4 TX4 6, x ∈ wsX4_back := iwX4_back_X4
  refine lv_iload_n hx hb dX4_back_0 rfl (lv_at hl 1 rfl) ?_
  refine lv_if_lt (tgt := 15) hx hb dX4_back_1 (by decide) (fun c_1 => ?_) (fun c_1 => ?_)
  · have ck : ¬ inN v (rc + 1) := by simp only [inN, softP, btw, inS, ripP, Int32.lt_iff_toInt_lt, Int32.le_iff_toInt_le, ← Int32.toInt_inj, ti_0, ti_1, ti_2, ti_3, ti_4, ti_8, ti_9, ti_10, ti_14, ti_15, ti_20, ti_60, ti_m1, nI_toInt (show rc < 2 ^ 31 by omega)] at c_1 ⊢; omega
    refine lv_bipush (v := (-2)) hx hb dX4_back_15 (by decide) ?_
    refine mi_ret (v := (-2)) hx hb hr hlk hP hD hS dX4_back_17 ?_
    rw [show baC rc v = _ from by rw [baC, if_neg ck]]
    refine ⟨?_, rfl⟩
    rw [baR, if_neg ck] <;> rfl
  · refine lv_iload_n hx hb dX4_back_4 rfl (lv_at hl 1 rfl) ?_
    refine lv_aload_n hx hb dX4_back_5 rfl (lv_at hl 0 rfl) ?_
    refine va_get (D := D) (ci := 4) (v := .ref (a 5)) (C := RX4) (T := TX4) (N := 6) hx hb hts hin4 hown hK.1 hP 0 rfl rfl 1 (by decide) (hts _ (List.mem_of_getElem? (i := 1) rfl)) (fun _ h9 => h9) rfl dX4_back_6 ?_
    refine va_getN (D := D) (ci := 1) (v := .int (nI rc)) (C := RX1) (T := TX1) (N := 4) hx hb hts hin1 hown hK.1 hP 1 rfl rfl 0 (by decide) (va_Nw.use rfl (nw_X4_76 hK)) (fun _ h9 => h9) rfl dX4_back_9 ?_
    refine lv_icmp_le (tgt := 18) hx hb dX4_back_12 (by decide) (fun c_2 => ?_) (fun c_2 => ?_)
    · have ck : inN v (rc + 1) := by simp only [inN, softP, btw, inS, ripP, Int32.lt_iff_toInt_lt, Int32.le_iff_toInt_le, ← Int32.toInt_inj, ti_0, ti_1, ti_2, ti_3, ti_4, ti_8, ti_9, ti_10, ti_14, ti_15, ti_20, ti_60, ti_m1, nI_toInt (show rc < 2 ^ 31 by omega)] at c_1 c_2 ⊢; omega
      refine lv_aload_n hx hb dX4_back_18 rfl (lv_at hl 0 rfl) ?_
      refine va_get (D := D) (ci := 4) (v := .ref (a 5)) (C := RX4) (T := TX4) (N := 6) hx hb hts hin4 hown hK.1 hP 0 rfl rfl 1 (by decide) (hts _ (List.mem_of_getElem? (i := 1) rfl)) (fun _ h9 => h9) rfl dX4_back_19 ?_
      refine lv_dup hx hb dX4_back_22 rfl ?_
      refine va_getN (D := D) (ci := 1) (v := .int (nI rc)) (C := RX1) (T := TX1) (N := 4) hx hb hts hin1 hown hK.1 hP 1 rfl rfl 0 (by decide) (va_Nw.use rfl (nw_X4_76 hK)) (fun _ h9 => h9) rfl dX4_back_23 ?_
      refine lv_iload_n hx hb dX4_back_26 rfl (lv_at hl 1 rfl) ?_
      refine lv_isub hx hb dX4_back_27 ?_
      refine k_top (y := (nI (rc - v.toNatClampNeg))) (by have e := ck.eq; have l1 := ck.lt; generalize v.toNatClampNeg = z at e l1 ⊢; rw [e]; exact pk_sub (by omega)) ?_
      refine va_putN (D := D) (ci := 1) (v := .int (nI (rc - v.toNatClampNeg))) (ty := .int) (C := RX1) (T := TX1) (N := 4) hx hb hts hin1 tyX1 tyX1_ok nmX1 hown hK.1 hP hD hS 1 rfl rfl 0 (by decide) (va_Nw.use rfl (nw_X4_76 hK)) (fun _ h9 => h9) rfl (by decide +kernel) rfl rfl (Nat.le_of_ble_eq_true rfl) dX4_back_28 (fun H locs hP hD hS => ?_)
      have hP : va_P D vwCl [(a 0, .inr (4, [.ref (a 1), .ref (a 5), .ref (a 9), .ref (a 12), .int ft, .int tr])), (a 5, .inr (1, [.int (nI (rc - v.toNatClampNeg)), .ref (a 6), .ref (a 7), .ref (a 8)])), (a 6, .inl (cI, 8, .inl ro)), (a 7, .inl (cI, 8, .inl rb)), (a 8, .inl (cI, 8, .inl rv))] H := hP
      have hD : va_D A [(a 0, .inr (4, [.ref (a 1), .ref (a 5), .ref (a 9), .ref (a 12), .int ft, .int tr])), (a 5, .inr (1, [.int (nI (rc - v.toNatClampNeg)), .ref (a 6), .ref (a 7), .ref (a 8)])), (a 6, .inl (cI, 8, .inl ro)), (a 7, .inl (cI, 8, .inl rb)), (a 8, .inl (cI, 8, .inl rv))] := hD
      refine lv_aload_n hx hb dX4_back_31 rfl (lv_at hl 0 rfl) ?_
      refine va_get (D := D) (ci := 4) (v := .ref (a 5)) (C := RX4) (T := TX4) (N := 6) hx hb hts hin4 hown hK.1 hP 0 rfl rfl 1 (by decide) (hts _ (List.mem_of_getElem? (i := 1) rfl)) (fun _ h9 => h9) rfl dX4_back_32 ?_
      refine va_getN (D := D) (ci := 1) (v := .int (nI (rc - v.toNatClampNeg))) (C := RX1) (T := TX1) (N := 4) hx hb hts hin1 hown hK.1 hP 1 rfl rfl 0 (by decide) (va_Nw.use rfl (nw_X4_76 hK)) (fun _ h9 => h9) rfl dX4_back_35 ?_
      refine mi_ret (v := (nI (rc - v.toNatClampNeg))) hx hb hr hlk hP hD hS dX4_back_38 ?_
      rw [show baC rc v = _ from by rw [baC, if_pos ck]]
      refine ⟨?_, rfl⟩
      rw [baR, if_pos ck] <;> rfl
    · have ck : ¬ inN v (rc + 1) := by simp only [inN, softP, btw, inS, ripP, Int32.lt_iff_toInt_lt, Int32.le_iff_toInt_le, ← Int32.toInt_inj, ti_0, ti_1, ti_2, ti_3, ti_4, ti_8, ti_9, ti_10, ti_14, ti_15, ti_20, ti_60, ti_m1, nI_toInt (show rc < 2 ^ 31 by omega)] at c_1 c_2 ⊢; omega
      refine lv_bipush (v := (-2)) hx hb dX4_back_15 (by decide) ?_
      refine mi_ret (v := (-2)) hx hb hr hlk hP hD hS dX4_back_17 ?_
      rw [show baC rc v = _ from by rw [baC, if_neg ck]]
      refine ⟨?_, rfl⟩
      rw [baR, if_neg ck] <;> rfl
