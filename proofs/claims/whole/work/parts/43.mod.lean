theorem iwX5_traced_X5 : ∀ x ∈ wsX50, x ∈ wsX5_traced := by decide +kernel
set_option maxRecDepth 100000 in
set_option maxHeartbeats 4000000 in
/-- X5_traced -/
theorem c_X5_traced (l : Launch) (D : va_G) (cI cJ cO : ClassId) (b : Nat → Nat) (fa : Int32) (h : Nat) (w : Nat) (pc : Int32) (br : Int32) (ra : Int32) (q1 : Int32) (q2 : Int32) (q3 : Int32) (q4 : Int32) (fw : Int32) (ea : Int32) (sn : Int32) (mo : Int32) (rc : Nat) (tr : Int32) (v : Int32) : MG l yX5_traced wsX5_traced 0 0 0 0 D [(cI, .int), (cJ, .long), (cO, .object "ShornHill$Sheet")] [.ref (b 0), .int v] [(b 0, .inr (5, [.int fa, .int (nI h), .int (nI w), .int pc, .int br, .ref (b 1), .ref (b 2), .int ra, .int q1, .int q2, .int q3, .int q4, .ref (b 3), .int fw, .int ea, .int sn, .ref (b 4), .ref (b 5), .ref (b 6), .int mo, .int (nI rc), .ref (b 7), .ref (b 8), .ref (b 9), .ref (b 10), .ref (b 11), .ref (b 12), .ref (b 13), .ref (b 14), .int tr]))] (QV D (fun (w1 : va_W) => w1 = [(b 0, .inr (5, [.int fa, .int (nI h), .int (nI w), .int pc, .int br, .ref (b 1), .ref (b 2), .int ra, .int q1, .int q2, .int q3, .int q4, .ref (b 3), .int fw, .int ea, .int sn, .ref (b 4), .ref (b 5), .ref (b 6), .int mo, .int (nI rc), .ref (b 7), .ref (b 8), .ref (b 9), .ref (b 10), .ref (b 11), .ref (b 12), .ref (b 13), .ref (b 14), .int (beg tr v)]))])) := by
  refine MG.of (cc := cX5_traced) (maxL := 2) (ret := none) (by decide) rfl (Nat.le_of_ble_eq_true rfl) ?_
  intro P_ E_ S_ M_ B_ T_ K_ hx hb hml hr hts hown hlk hnm A hA hP hK hD hS ls hl
  have hl : lv_has ls 2 [(0, .ref (b 0)), (1, .int v)] := hl
  have hin5 : ∀ x ∈ u_ws RX5 TX5 30, x ∈ wsX5_traced := iwX5_traced_X5
  refine lv_aload_n hx hb dX5_traced_0 rfl (lv_at hl 0 rfl) ?_
  refine lv_bipush (v := 31) hx hb dX5_traced_1 (by decide) ?_
  refine lv_aload_n hx hb dX5_traced_3 rfl (lv_at hl 0 rfl) ?_
  refine va_get (D := D) (ci := 5) (v := .int tr) (C := RX5) (T := TX5) (N := 30) hx hb hts hin5 hown hK.1 hP 0 rfl rfl 29 (by decide) (hts _ (List.mem_of_getElem? (i := 1) rfl)) (fun _ h9 => h9) rfl dX5_traced_4 ?_
  refine lv_imul hx hb dX5_traced_7 ?_
  refine lv_iload_n hx hb dX5_traced_8 rfl (lv_at hl 1 rfl) ?_
  refine lv_iadd hx hb dX5_traced_9 ?_
  refine va_put (D := D) (ci := 5) (v := .int ((31 * tr) + v)) (ty := .int) (C := RX5) (T := TX5) (N := 30) hx hb hts hin5 tyX5 tyX5_ok nmX5 hown hK.1 hP hD hS 0 rfl rfl 29 (by decide) (hts _ (List.mem_of_getElem? (i := 1) rfl)) (fun _ h9 => h9) rfl (by decide +kernel) rfl rfl (Nat.le_of_ble_eq_true rfl) dX5_traced_10 (fun H locs hP hD hS => ?_)
  have hP : va_P D vwCl [(b 0, .inr (5, [.int fa, .int (nI h), .int (nI w), .int pc, .int br, .ref (b 1), .ref (b 2), .int ra, .int q1, .int q2, .int q3, .int q4, .ref (b 3), .int fw, .int ea, .int sn, .ref (b 4), .ref (b 5), .ref (b 6), .int mo, .int (nI rc), .ref (b 7), .ref (b 8), .ref (b 9), .ref (b 10), .ref (b 11), .ref (b 12), .ref (b 13), .ref (b 14), .int ((31 * tr) + v)]))] H := hP
  have hD : va_D A [(b 0, .inr (5, [.int fa, .int (nI h), .int (nI w), .int pc, .int br, .ref (b 1), .ref (b 2), .int ra, .int q1, .int q2, .int q3, .int q4, .ref (b 3), .int fw, .int ea, .int sn, .ref (b 4), .ref (b 5), .ref (b 6), .int mo, .int (nI rc), .ref (b 7), .ref (b 8), .ref (b 9), .ref (b 10), .ref (b 11), .ref (b 12), .ref (b 13), .ref (b 14), .int ((31 * tr) + v)]))] := hD
  refine mv_ret hx hb hr hlk hP hD hS dX5_traced_13 ?_
  rfl
theorem iwX5_trod_X5 : ∀ x ∈ wsX50, x ∈ wsX5_trod := by decide +kernel
set_option maxRecDepth 100000 in
set_option maxHeartbeats 4000000 in
/-- X5_trod -/
theorem c_X5_trod (l : Launch) (D : va_G) (cI cJ cO : ClassId) (b : Nat → Nat) (fa : Int32) (h : Nat) (w : Nat) (pc : Int32) (br : Int32) (ra : Int32) (q1 : Int32) (q2 : Int32) (q3 : Int32) (q4 : Int32) (fw : Int32) (ea : Int32) (sn : Int32) (mo : Int32) (rc : Nat) (tr : Int32) (kd : Nat → Int32) (c : Int32) (hn : h * w ≤ 16) : MG l yX5_trod wsX5_trod 3 67 0 0 D [(cI, .int), (cJ, .long), (cO, .object "ShornHill$Sheet")] [.ref (b 0), .int c] [(b 0, .inr (5, [.int fa, .int (nI h), .int (nI w), .int pc, .int br, .ref (b 1), .ref (b 2), .int ra, .int q1, .int q2, .int q3, .int q4, .ref (b 3), .int fw, .int ea, .int sn, .ref (b 4), .ref (b 5), .ref (b 6), .int mo, .int (nI rc), .ref (b 7), .ref (b 8), .ref (b 9), .ref (b 10), .ref (b 11), .ref (b 12), .ref (b 13), .ref (b 14), .int tr])), (b 1, .inl (cI, 16, .inl kd))] (QI D (fun (r : Int32) (w1 : va_W) => r = (trR (h * w) kd c) ∧ w1 = [(b 0, .inr (5, [.int fa, .int (nI h), .int (nI w), .int pc, .int br, .ref (b 1), .ref (b 2), .int ra, .int q1, .int q2, .int q3, .int q4, .ref (b 3), .int fw, .int ea, .int sn, .ref (b 4), .ref (b 5), .ref (b 6), .int mo, .int (nI rc), .ref (b 7), .ref (b 8), .ref (b 9), .ref (b 10), .ref (b 11), .ref (b 12), .ref (b 13), .ref (b 14), .int (trT (h * w) kd tr c)])), (b 1, .inl (cI, 16, .inl kd))])) := by
  refine MG.of (cc := cX5_trod) (maxL := 2) (ret := (some .int)) (by decide) rfl (Nat.le_of_ble_eq_true rfl) ?_
  intro P_ E_ S_ M_ B_ T_ K_ hx hb hml hr hts hown hlk hnm A hA hP hK hD hS ls hl
  have hl : lv_has ls 2 [(0, .ref (b 0)), (1, .int c)] := hl
  have hin5 : ∀ x ∈ u_ws RX5 TX5 30, x ∈ wsX5_trod := iwX5_trod_X5
  refine lv_aload_n hx hb dX5_trod_0 rfl (lv_at hl 0 rfl) ?_
  refine lv_iload_n hx hb dX5_trod_1 rfl (lv_at hl 1 rfl) ?_
  refine k_ri (run_RV (As := [.int c]) (rest := []) ⟨hx, hb, hml, hown, hts⟩ (c_X5_noGrass l D cI cJ cO b fa h w pc br ra q1 q2 q3 q4 fw ea sn mo rc tr kd c hn) (cwV 1 hts gX5_trod_X5_noGrass rfl rfl rfl (by decide +kernel) ⟨Nat.le_of_ble_eq_true rfl, Nat.le_of_ble_eq_true rfl⟩) hP hK [0, 1] rfl rfl rfl rfl rfl hl.1 rfl (Nat.le_of_ble_eq_true rfl) dX5_trod_2 ⟨Nat.le_refl _, Nat.le_refl _⟩) (fun r_1 q_2 => ?_)
  obtain rfl := q_2
  refine lv_if_eq (tgt := 10) hx hb dX5_trod_5 (by decide) (fun c_3 => ?_) (fun c_3 => ?_)
  · have c_3 := Decidable.not_not.mp (b2_f c_3)
    refine lv_aload_n hx hb dX5_trod_10 rfl (lv_at hl 0 rfl) ?_
    refine lv_aload_n hx hb dX5_trod_11 rfl (lv_at hl 0 rfl) ?_
    refine va_get (D := D) (ci := 5) (v := .ref (b 1)) (C := RX5) (T := TX5) (N := 30) hx hb hts hin5 hown hK.1 hP 0 rfl rfl 5 (by decide) (hts _ (List.mem_of_getElem? (i := 1) rfl)) (fun _ h9 => h9) rfl dX5_trod_12 ?_
    refine lv_iload_n hx hb dX5_trod_15 rfl (lv_at hl 1 rfl) ?_
    refine k_iald hx hb hK hP 1 0 rfl rfl (j := c.toNatClampNeg) (inN.vp c_3.1 (by omega)) rfl dX5_trod_16 ?_
    refine lv_iconst (v := 2) hx hb dX5_trod_17 (by decide) ?_
    refine lv_icmp_ne (tgt := 25) hx hb dX5_trod_18 (by decide) (fun c_4 => ?_) (fun c_4 => ?_)
    · refine lv_iconst (v := 4) hx hb dX5_trod_25 (by decide) ?_
      refine k_mv (wr := [(b 1, .inl (cI, 16, .inl kd))]) [0] [1] (run_MV (As := [.int 4]) (rest := []) ⟨hx, hb, hml, hown, hts⟩ (c_X5_traced l D cI cJ cO b fa h w pc br ra q1 q2 q3 q4 fw ea sn mo rc tr 4) (cwV 1 hts gX5_trod_X5_traced rfl rfl rfl (by decide +kernel) ⟨Nat.le_of_ble_eq_true rfl, Nat.le_of_ble_eq_true rfl⟩) hP hK hD [0] (by decide) rfl rfl rfl rfl rfl hl.1 rfl (Nat.le_of_ble_eq_true rfl) dX5_trod_26 ⟨Nat.le_refl _, Nat.le_refl _⟩) hP hD hS hA rfl rfl (by decide) (by decide) (fun w_7 H locs q_6 hP hD hS => ?_)
      obtain rfl := q_6
      have hP : va_P D vwCl [(b 0, .inr (5, [.int fa, .int (nI h), .int (nI w), .int pc, .int br, .ref (b 1), .ref (b 2), .int ra, .int q1, .int q2, .int q3, .int q4, .ref (b 3), .int fw, .int ea, .int sn, .ref (b 4), .ref (b 5), .ref (b 6), .int mo, .int (nI rc), .ref (b 7), .ref (b 8), .ref (b 9), .ref (b 10), .ref (b 11), .ref (b 12), .ref (b 13), .ref (b 14), .int (beg tr 4)])), (b 1, .inl (cI, 16, .inl kd))] H := hP.sub [1, 0] rfl
      have hD : va_D A [(b 0, .inr (5, [.int fa, .int (nI h), .int (nI w), .int pc, .int br, .ref (b 1), .ref (b 2), .int ra, .int q1, .int q2, .int q3, .int q4, .ref (b 3), .int fw, .int ea, .int sn, .ref (b 4), .ref (b 5), .ref (b 6), .int mo, .int (nI rc), .ref (b 7), .ref (b 8), .ref (b 9), .ref (b 10), .ref (b 11), .ref (b 12), .ref (b 13), .ref (b 14), .int (beg tr 4)])), (b 1, .inl (cI, 16, .inl kd))] := hD.sub [1, 0] (by decide) rfl
      refine lv_aload_n hx hb dX5_trod_29 rfl (lv_at hl 0 rfl) ?_
      refine va_get (D := D) (ci := 5) (v := .ref (b 1)) (C := RX5) (T := TX5) (N := 30) hx hb hts hin5 hown hK.1 hP 0 rfl rfl 5 (by decide) (hts _ (List.mem_of_getElem? (i := 1) rfl)) (fun _ h9 => h9) rfl dX5_trod_30 ?_
      refine lv_iload_n hx hb dX5_trod_33 rfl (lv_at hl 1 rfl) ?_
      refine k_iald hx hb hK hP 1 0 rfl rfl (j := c.toNatClampNeg) (inN.vp c_3.1 (by omega)) rfl dX5_trod_34 ?_
      refine lv_iconst (v := 2) hx hb dX5_trod_35 (by decide) ?_
      refine lv_icmp_ne (tgt := 44) hx hb dX5_trod_36 (by decide) (fun c_8 => ?_) (fun c_8 => ?_)
      · refine lv_iload_n hx hb dX5_trod_44 rfl (lv_at hl 1 rfl) ?_
        refine mi_ret (v := c) hx hb hr hlk hP hD hS dX5_trod_45 ?_
        rw [show trT (h * w) kd tr c = _ from by rw [trT, if_pos c_3, if_neg c_8]]
        refine ⟨?_, rfl⟩
        rw [trR, if_pos c_3, if_neg c_8] <;> rfl
      · exact absurd c_8 c_4
    · refine lv_iconst (v := 5) hx hb dX5_trod_21 (by decide) ?_
      refine lv_goto (tgt := 26) hx hb dX5_trod_22 (by decide) ?_
      refine k_mv (wr := [(b 1, .inl (cI, 16, .inl kd))]) [0] [1] (run_MV (As := [.int 5]) (rest := []) ⟨hx, hb, hml, hown, hts⟩ (c_X5_traced l D cI cJ cO b fa h w pc br ra q1 q2 q3 q4 fw ea sn mo rc tr 5) (cwV 1 hts gX5_trod_X5_traced rfl rfl rfl (by decide +kernel) ⟨Nat.le_of_ble_eq_true rfl, Nat.le_of_ble_eq_true rfl⟩) hP hK hD [0] (by decide) rfl rfl rfl rfl rfl hl.1 rfl (Nat.le_of_ble_eq_true rfl) dX5_trod_26 ⟨Nat.le_refl _, Nat.le_refl _⟩) hP hD hS hA rfl rfl (by decide) (by decide) (fun w_11 H locs q_10 hP hD hS => ?_)
      obtain rfl := q_10
      have hP : va_P D vwCl [(b 0, .inr (5, [.int fa, .int (nI h), .int (nI w), .int pc, .int br, .ref (b 1), .ref (b 2), .int ra, .int q1, .int q2, .int q3, .int q4, .ref (b 3), .int fw, .int ea, .int sn, .ref (b 4), .ref (b 5), .ref (b 6), .int mo, .int (nI rc), .ref (b 7), .ref (b 8), .ref (b 9), .ref (b 10), .ref (b 11), .ref (b 12), .ref (b 13), .ref (b 14), .int (beg tr 5)])), (b 1, .inl (cI, 16, .inl kd))] H := hP.sub [1, 0] rfl
      have hD : va_D A [(b 0, .inr (5, [.int fa, .int (nI h), .int (nI w), .int pc, .int br, .ref (b 1), .ref (b 2), .int ra, .int q1, .int q2, .int q3, .int q4, .ref (b 3), .int fw, .int ea, .int sn, .ref (b 4), .ref (b 5), .ref (b 6), .int mo, .int (nI rc), .ref (b 7), .ref (b 8), .ref (b 9), .ref (b 10), .ref (b 11), .ref (b 12), .ref (b 13), .ref (b 14), .int (beg tr 5)])), (b 1, .inl (cI, 16, .inl kd))] := hD.sub [1, 0] (by decide) rfl
      refine lv_aload_n hx hb dX5_trod_29 rfl (lv_at hl 0 rfl) ?_
      refine va_get (D := D) (ci := 5) (v := .ref (b 1)) (C := RX5) (T := TX5) (N := 30) hx hb hts hin5 hown hK.1 hP 0 rfl rfl 5 (by decide) (hts _ (List.mem_of_getElem? (i := 1) rfl)) (fun _ h9 => h9) rfl dX5_trod_30 ?_
      refine lv_iload_n hx hb dX5_trod_33 rfl (lv_at hl 1 rfl) ?_
      refine k_iald hx hb hK hP 1 0 rfl rfl (j := c.toNatClampNeg) (inN.vp c_3.1 (by omega)) rfl dX5_trod_34 ?_
      refine lv_iconst (v := 2) hx hb dX5_trod_35 (by decide) ?_
      refine lv_icmp_ne (tgt := 44) hx hb dX5_trod_36 (by decide) (fun c_12 => ?_) (fun c_12 => ?_)
      · exact absurd c_4 c_12
      · refine lv_bipush (v := 40) hx hb dX5_trod_39 (by decide) ?_
        refine lv_goto (tgt := 45) hx hb dX5_trod_41 (by decide) ?_
        refine mi_ret (v := 40) hx hb hr hlk hP hD hS dX5_trod_45 ?_
        rw [show trT (h * w) kd tr c = _ from by rw [trT, if_pos c_3, if_pos c_12]]
        refine ⟨?_, rfl⟩
        rw [trR, if_pos c_3, if_pos c_12] <;> rfl
  · have c_3 := b2_t c_3
    refine lv_iconst (v := (-1)) hx hb dX5_trod_8 (by decide) ?_
    refine mi_ret (v := (-1)) hx hb hr hlk hP hD hS dX5_trod_9 ?_
    rw [show trT (h * w) kd tr c = _ from by rw [trT, if_neg c_3]]
    refine ⟨?_, rfl⟩
    rw [trR, if_neg c_3] <;> rfl
theorem iwX5_as_X5 : ∀ x ∈ wsX50, x ∈ wsX5_as := by decide +kernel
set_option maxRecDepth 100000 in
set_option maxHeartbeats 4000000 in
/-- X5_as -/
theorem c_X5_as (l : Launch) (D : va_G) (cI cJ cO : ClassId) (b : Nat → Nat) (fa : Int32) (h : Nat) (w : Nat) (pc : Int32) (br : Int32) (ra : Int32) (q1 : Int32) (q2 : Int32) (q3 : Int32) (q4 : Int32) (fw : Int32) (ea : Int32) (sn : Int32) (mo : Int32) (rc : Nat) (tr : Int32) (kd : Nat → Int32) (c : Int32) (v : Int32) (hn : h * w ≤ 16) : MG l yX5_as wsX5_as 3 67 0 0 D [(cI, .int), (cJ, .long), (cO, .object "ShornHill$Sheet")] [.ref (b 0), .int c, .int v] [(b 0, .inr (5, [.int fa, .int (nI h), .int (nI w), .int pc, .int br, .ref (b 1), .ref (b 2), .int ra, .int q1, .int q2, .int q3, .int q4, .ref (b 3), .int fw, .int ea, .int sn, .ref (b 4), .ref (b 5), .ref (b 6), .int mo, .int (nI rc), .ref (b 7), .ref (b 8), .ref (b 9), .ref (b 10), .ref (b 11), .ref (b 12), .ref (b 13), .ref (b 14), .int tr])), (b 1, .inl (cI, 16, .inl kd))] (QI D (fun (r : Int32) (w1 : va_W) => r = (asR (h * w) kd c v) ∧ w1 = [(b 0, .inr (5, [.int (asF (h * w) kd c v), .int (nI h), .int (nI w), .int pc, .int br, .ref (b 1), .ref (b 2), .int ra, .int q1, .int q2, .int q3, .int q4, .ref (b 3), .int fw, .int ea, .int sn, .ref (b 4), .ref (b 5), .ref (b 6), .int mo, .int (nI rc), .ref (b 7), .ref (b 8), .ref (b 9), .ref (b 10), .ref (b 11), .ref (b 12), .ref (b 13), .ref (b 14), .int tr])), (b 1, .inl (cI, 16, .inl kd))])) := by
  refine MG.of (cc := cX5_as) (maxL := 3) (ret := (some .int)) (by decide) rfl (Nat.le_of_ble_eq_true rfl) ?_
  intro P_ E_ S_ M_ B_ T_ K_ hx hb hml hr hts hown hlk hnm A hA hP hK hD hS ls hl
  have hl : lv_has ls 3 [(0, .ref (b 0)), (1, .int c), (2, .int v)] := hl
  have hin5 : ∀ x ∈ u_ws RX5 TX5 30, x ∈ wsX5_as := iwX5_as_X5
  refine lv_aload_n hx hb dX5_as_0 rfl (lv_at hl 0 rfl) ?_
  refine lv_iload_n hx hb dX5_as_1 rfl (lv_at hl 1 rfl) ?_
  refine k_ri (run_RV (As := [.int c]) (rest := []) ⟨hx, hb, hml, hown, hts⟩ (c_X5_noGrass l D cI cJ cO b fa h w pc br ra q1 q2 q3 q4 fw ea sn mo rc tr kd c hn) (cwV 1 hts gX5_as_X5_noGrass rfl rfl rfl (by decide +kernel) ⟨Nat.le_of_ble_eq_true rfl, Nat.le_of_ble_eq_true rfl⟩) hP hK [0, 1] rfl rfl rfl rfl rfl hl.1 rfl (Nat.le_of_ble_eq_true rfl) dX5_as_2 ⟨Nat.le_refl _, Nat.le_refl _⟩) (fun r_1 q_2 => ?_)
  obtain rfl := q_2
  refine lv_if_eq (tgt := 14) hx hb dX5_as_5 (by decide) (fun c_3 => ?_) (fun c_3 => ?_)
  · have c_3 := Decidable.not_not.mp (b2_f c_3)
    refine lv_iload_n hx hb dX5_as_14 rfl (lv_at hl 2 rfl) ?_
    refine lv_i2l (v := v.toInt64) hx hb dX5_as_15 rfl ?_
    refine lv_lconst (v := 0) hx hb dX5_as_16 (by decide) ?_
    refine lv_ldc2 (v := 2) hx hb hown (hts _ (List.mem_of_getElem? (i := 1) rfl)) dX5_as_17 ?_
    refine k_ri (run_RS (As := [.long v.toInt64, .long 0, .long 2]) (rest := []) ⟨hx, hb, hml, hown, hts⟩ (c_X5_in l D cI cJ cO v.toInt64 0 2) (va_cwS 3 hts gX5_as_X5_in rfl rfl rfl (by decide +kernel) ⟨Nat.le_of_ble_eq_true rfl, Nat.le_of_ble_eq_true rfl⟩) hP hK [] rfl rfl hl.1 rfl (Nat.le_of_ble_eq_true rfl) dX5_as_20 ⟨Nat.le_refl _, Nat.le_refl _⟩) (fun r_4 q_5 => ?_)
    obtain rfl := q_5
    refine k_top (y := (b2 (btw v 0 2))) (b2_cong (in_bt rfl rfl)) ?_
    refine lv_if_ne (tgt := 33) hx hb dX5_as_23 (by decide) (fun c_6 => ?_) (fun c_6 => ?_)
    · have c_6 := b2_t c_6
      refine lv_aload_n hx hb dX5_as_33 rfl (lv_at hl 0 rfl) ?_
      refine va_get (D := D) (ci := 5) (v := .ref (b 1)) (C := RX5) (T := TX5) (N := 30) hx hb hts hin5 hown hK.1 hP 0 rfl rfl 5 (by decide) (hts _ (List.mem_of_getElem? (i := 2) rfl)) (fun _ h9 => h9) rfl dX5_as_34 ?_
      refine lv_iload_n hx hb dX5_as_37 rfl (lv_at hl 1 rfl) ?_
      refine k_iald hx hb hK hP 1 0 rfl rfl (j := c.toNatClampNeg) (inN.vp c_3.1 (by omega)) rfl dX5_as_38 ?_
      refine lv_iload_n hx hb dX5_as_39 rfl (lv_at hl 2 rfl) ?_
      refine lv_icmp_lt (tgt := 51) hx hb dX5_as_40 (by decide) (fun c_7 => ?_) (fun c_7 => ?_)
      · have cq : ¬ v ≤ kd c.toNatClampNeg := Int32.not_le.mpr c_7
        refine lv_aload_n hx hb dX5_as_51 rfl (lv_at hl 0 rfl) ?_
        refine lv_iconst (v := 2) hx hb dX5_as_52 (by decide) ?_
        refine k_mi (wr := [(b 1, .inl (cI, 16, .inl kd))]) [0] [1] (run_MV (As := [.int 2]) (rest := []) ⟨hx, hb, hml, hown, hts⟩ (c_X5_failed l D cI cJ cO b fa h w pc br ra q1 q2 q3 q4 fw ea sn mo rc tr 2) (cwV 1 hts gX5_as_X5_failed rfl rfl rfl (by decide +kernel) ⟨Nat.le_of_ble_eq_true rfl, Nat.le_of_ble_eq_true rfl⟩) hP hK hD [0] (by decide) rfl rfl rfl rfl rfl hl.1 rfl (Nat.le_of_ble_eq_true rfl) dX5_as_53 ⟨Nat.le_refl _, Nat.le_refl _⟩) hP hD hS hA rfl rfl (by decide) (by decide) (fun r_8 w_10 H locs q_9 hP hD hS => ?_)
        obtain ⟨rfl, rfl⟩ := q_9
        have hP : va_P D vwCl [(b 0, .inr (5, [.int 2, .int (nI h), .int (nI w), .int pc, .int br, .ref (b 1), .ref (b 2), .int ra, .int q1, .int q2, .int q3, .int q4, .ref (b 3), .int fw, .int ea, .int sn, .ref (b 4), .ref (b 5), .ref (b 6), .int mo, .int (nI rc), .ref (b 7), .ref (b 8), .ref (b 9), .ref (b 10), .ref (b 11), .ref (b 12), .ref (b 13), .ref (b 14), .int tr])), (b 1, .inl (cI, 16, .inl kd))] H := hP.sub [1, 0] rfl
        have hD : va_D A [(b 0, .inr (5, [.int 2, .int (nI h), .int (nI w), .int pc, .int br, .ref (b 1), .ref (b 2), .int ra, .int q1, .int q2, .int q3, .int q4, .ref (b 3), .int fw, .int ea, .int sn, .ref (b 4), .ref (b 5), .ref (b 6), .int mo, .int (nI rc), .ref (b 7), .ref (b 8), .ref (b 9), .ref (b 10), .ref (b 11), .ref (b 12), .ref (b 13), .ref (b 14), .int tr])), (b 1, .inl (cI, 16, .inl kd))] := hD.sub [1, 0] (by decide) rfl
        refine mi_ret (v := (-10 - 2)) hx hb hr hlk hP hD hS dX5_as_56 ?_
        rw [show asF (h * w) kd c v = _ from by rw [asF, if_pos ⟨c_3, ⟨c_6, cq⟩⟩]]
        refine ⟨?_, rfl⟩
        rw [asR, if_pos c_3, if_pos c_6, if_neg cq] <;> rfl
      · have cq : v ≤ kd c.toNatClampNeg := Int32.not_lt.mp c_7
        refine lv_aload_n hx hb dX5_as_43 rfl (lv_at hl 0 rfl) ?_
        refine lv_iconst (v := 1) hx hb dX5_as_44 (by decide) ?_
        refine k_mi (wr := [(b 1, .inl (cI, 16, .inl kd))]) [0] [1] (run_MV (As := [.int 1]) (rest := []) ⟨hx, hb, hml, hown, hts⟩ (c_X5_refused l D cI cJ cO b fa h w pc br ra q1 q2 q3 q4 fw ea sn mo rc tr 1) (cwV 1 hts gX5_as_X5_refused rfl rfl rfl (by decide +kernel) ⟨Nat.le_of_ble_eq_true rfl, Nat.le_of_ble_eq_true rfl⟩) hP hK hD [0] (by decide) rfl rfl rfl rfl rfl hl.1 rfl (Nat.le_of_ble_eq_true rfl) dX5_as_45 ⟨Nat.le_refl _, Nat.le_refl _⟩) hP hD hS hA rfl rfl (by decide) (by decide) (fun r_11 w_13 H locs q_12 hP hD hS => ?_)
        obtain ⟨rfl, rfl⟩ := q_12
        have hP : va_P D vwCl [(b 0, .inr (5, [.int 0, .int (nI h), .int (nI w), .int pc, .int br, .ref (b 1), .ref (b 2), .int ra, .int q1, .int q2, .int q3, .int q4, .ref (b 3), .int fw, .int ea, .int sn, .ref (b 4), .ref (b 5), .ref (b 6), .int mo, .int (nI rc), .ref (b 7), .ref (b 8), .ref (b 9), .ref (b 10), .ref (b 11), .ref (b 12), .ref (b 13), .ref (b 14), .int tr])), (b 1, .inl (cI, 16, .inl kd))] H := hP.sub [1, 0] rfl
        have hD : va_D A [(b 0, .inr (5, [.int 0, .int (nI h), .int (nI w), .int pc, .int br, .ref (b 1), .ref (b 2), .int ra, .int q1, .int q2, .int q3, .int q4, .ref (b 3), .int fw, .int ea, .int sn, .ref (b 4), .ref (b 5), .ref (b 6), .int mo, .int (nI rc), .ref (b 7), .ref (b 8), .ref (b 9), .ref (b 10), .ref (b 11), .ref (b 12), .ref (b 13), .ref (b 14), .int tr])), (b 1, .inl (cI, 16, .inl kd))] := hD.sub [1, 0] (by decide) rfl
        refine lv_goto (tgt := 56) hx hb dX5_as_48 (by decide) ?_
        refine mi_ret (v := 1) hx hb hr hlk hP hD hS dX5_as_56 ?_
        rw [show asF (h * w) kd c v = _ from by rw [asF, if_neg (fun z => (fun z => (fun z => z cq) z.2) z.2)]]
        refine ⟨?_, rfl⟩
        rw [asR, if_pos c_3, if_pos c_6, if_pos cq] <;> rfl
    · have c_6 := b2_f c_6
      refine lv_aload_n hx hb dX5_as_26 rfl (lv_at hl 0 rfl) ?_
      refine lv_bipush (v := (-2)) hx hb dX5_as_27 (by decide) ?_
      refine k_mi (wr := [(b 1, .inl (cI, 16, .inl kd))]) [0] [1] (run_MV (As := [.int (-2)]) (rest := []) ⟨hx, hb, hml, hown, hts⟩ (c_X5_refused l D cI cJ cO b fa h w pc br ra q1 q2 q3 q4 fw ea sn mo rc tr (-2)) (cwV 1 hts gX5_as_X5_refused rfl rfl rfl (by decide +kernel) ⟨Nat.le_of_ble_eq_true rfl, Nat.le_of_ble_eq_true rfl⟩) hP hK hD [0] (by decide) rfl rfl rfl rfl rfl hl.1 rfl (Nat.le_of_ble_eq_true rfl) dX5_as_29 ⟨Nat.le_refl _, Nat.le_refl _⟩) hP hD hS hA rfl rfl (by decide) (by decide) (fun r_14 w_16 H locs q_15 hP hD hS => ?_)
      obtain ⟨rfl, rfl⟩ := q_15
      have hP : va_P D vwCl [(b 0, .inr (5, [.int 0, .int (nI h), .int (nI w), .int pc, .int br, .ref (b 1), .ref (b 2), .int ra, .int q1, .int q2, .int q3, .int q4, .ref (b 3), .int fw, .int ea, .int sn, .ref (b 4), .ref (b 5), .ref (b 6), .int mo, .int (nI rc), .ref (b 7), .ref (b 8), .ref (b 9), .ref (b 10), .ref (b 11), .ref (b 12), .ref (b 13), .ref (b 14), .int tr])), (b 1, .inl (cI, 16, .inl kd))] H := hP.sub [1, 0] rfl
      have hD : va_D A [(b 0, .inr (5, [.int 0, .int (nI h), .int (nI w), .int pc, .int br, .ref (b 1), .ref (b 2), .int ra, .int q1, .int q2, .int q3, .int q4, .ref (b 3), .int fw, .int ea, .int sn, .ref (b 4), .ref (b 5), .ref (b 6), .int mo, .int (nI rc), .ref (b 7), .ref (b 8), .ref (b 9), .ref (b 10), .ref (b 11), .ref (b 12), .ref (b 13), .ref (b 14), .int tr])), (b 1, .inl (cI, 16, .inl kd))] := hD.sub [1, 0] (by decide) rfl
      refine mi_ret (v := (-2)) hx hb hr hlk hP hD hS dX5_as_32 ?_
      rw [show asF (h * w) kd c v = _ from by rw [asF, if_neg (fun z => (fun z => c_6 z.1) z.2)]]
      refine ⟨?_, rfl⟩
      rw [asR, if_pos c_3, if_neg c_6] <;> rfl
  · have c_3 := b2_t c_3
    refine lv_aload_n hx hb dX5_as_8 rfl (lv_at hl 0 rfl) ?_
    refine lv_iconst (v := (-1)) hx hb dX5_as_9 (by decide) ?_
    refine k_mi (wr := [(b 1, .inl (cI, 16, .inl kd))]) [0] [1] (run_MV (As := [.int (-1)]) (rest := []) ⟨hx, hb, hml, hown, hts⟩ (c_X5_refused l D cI cJ cO b fa h w pc br ra q1 q2 q3 q4 fw ea sn mo rc tr (-1)) (cwV 1 hts gX5_as_X5_refused rfl rfl rfl (by decide +kernel) ⟨Nat.le_of_ble_eq_true rfl, Nat.le_of_ble_eq_true rfl⟩) hP hK hD [0] (by decide) rfl rfl rfl rfl rfl hl.1 rfl (Nat.le_of_ble_eq_true rfl) dX5_as_10 ⟨Nat.le_refl _, Nat.le_refl _⟩) hP hD hS hA rfl rfl (by decide) (by decide) (fun r_17 w_19 H locs q_18 hP hD hS => ?_)
    obtain ⟨rfl, rfl⟩ := q_18
    have hP : va_P D vwCl [(b 0, .inr (5, [.int 0, .int (nI h), .int (nI w), .int pc, .int br, .ref (b 1), .ref (b 2), .int ra, .int q1, .int q2, .int q3, .int q4, .ref (b 3), .int fw, .int ea, .int sn, .ref (b 4), .ref (b 5), .ref (b 6), .int mo, .int (nI rc), .ref (b 7), .ref (b 8), .ref (b 9), .ref (b 10), .ref (b 11), .ref (b 12), .ref (b 13), .ref (b 14), .int tr])), (b 1, .inl (cI, 16, .inl kd))] H := hP.sub [1, 0] rfl
    have hD : va_D A [(b 0, .inr (5, [.int 0, .int (nI h), .int (nI w), .int pc, .int br, .ref (b 1), .ref (b 2), .int ra, .int q1, .int q2, .int q3, .int q4, .ref (b 3), .int fw, .int ea, .int sn, .ref (b 4), .ref (b 5), .ref (b 6), .int mo, .int (nI rc), .ref (b 7), .ref (b 8), .ref (b 9), .ref (b 10), .ref (b 11), .ref (b 12), .ref (b 13), .ref (b 14), .int tr])), (b 1, .inl (cI, 16, .inl kd))] := hD.sub [1, 0] (by decide) rfl
    refine mi_ret (v := (-1)) hx hb hr hlk hP hD hS dX5_as_13 ?_
    rw [show asF (h * w) kd c v = _ from by rw [asF, if_neg (fun z => c_3 z.1)]]
    refine ⟨?_, rfl⟩
    rw [asR, if_neg c_3] <;> rfl
theorem iwX5_areSo_X5 : ∀ x ∈ wsX50, x ∈ wsX5_areSo := by decide +kernel
set_option maxRecDepth 100000 in
set_option maxHeartbeats 4000000 in
/-- X5_areSo -/
theorem c_X5_areSo (l : Launch) (D : va_G) (cI cJ cO : ClassId) (b : Nat → Nat) (fa : Int32) (h : Nat) (w : Nat) (pc : Int32) (br : Int32) (ra : Int32) (q1 : Int32) (q2 : Int32) (q3 : Int32) (q4 : Int32) (fw : Int32) (ea : Int32) (sn : Int32) (mo : Int32) (rc : Nat) (tr : Int32) (kd : Nat → Int32) (et : Nat → Int32) (ro : Nat → Int32) (rb : Nat → Int32) (rv : Nat → Int32) (hro : ∀ k, k < rc → vp_in (ro k) 16) (hrc : rc ≤ 8) (hkd : ∀ k, k < 16 → kdOk (kd k)) (het : ∀ k, k < 16 → etOk (et k)) : RG l yX5_areSo wsX5_areSo 2 45 D [(cI, .int), (cJ, .long), (cO, .object "ShornHill$Sheet")] [.ref (b 0)] [(b 0, .inr (5, [.int fa, .int (nI h), .int (nI w), .int pc, .int br, .ref (b 1), .ref (b 2), .int ra, .int q1, .int q2, .int q3, .int q4, .ref (b 3), .int fw, .int ea, .int sn, .ref (b 4), .ref (b 5), .ref (b 6), .int mo, .int (nI rc), .ref (b 7), .ref (b 8), .ref (b 9), .ref (b 10), .ref (b 11), .ref (b 12), .ref (b 13), .ref (b 14), .int tr])), (b 1, .inl (cI, 16, .inl kd)), (b 2, .inl (cI, 16, .inl et)), (b 7, .inl (cI, 8, .inl ro)), (b 8, .inl (cI, 8, .inl rb)), (b 9, .inl (cI, 8, .inl rv))] (vp_Si (fun (r : Int32) => r = (b2 (soP pc kd et ro rb rv rc)))) := by
  refine RG.of (cc := cX5_areSo) (maxL := 3) (ret := (some .boolean)) (by decide) rfl (Nat.le_of_ble_eq_true rfl) ?_
  intro P_ E_ S_ M_ B_ T_ K_ hx hb hml hr hts hown hlk hP hK ls hl
  have hl : lv_has ls 3 [(0, .ref (b 0))] := hl
  have hin5 : ∀ x ∈ u_ws RX5 TX5 30, x ∈ wsX5_areSo := iwX5_areSo_X5
  refine lv_iconst (v := 1) hx hb dX5_areSo_0 (by decide) ?_
  refine lv_istore_n (lv' := [(1, .int 1), (0, .ref (b 0))]) hx hb dX5_areSo_1 rfl hl (by decide) rfl (fun ls hl => ?_)
  refine lv_iconst (v := 0) hx hb dX5_areSo_2 (by decide) ?_
  refine lv_istore_n (lv' := [(2, .int 0), (1, .int 1), (0, .ref (b 0))]) hx hb dX5_areSo_3 rfl hl (by decide) rfl (fun ls hl => ?_)
  have key_2 : ∀ (n_1 : Nat) (k : Nat) (x1_n_1 : Int32), (k ≤ rc) → x1_n_1 = (b2 (soP pc kd et ro rb rv k)) → rc - k < n_1 → ∀ ls : Array Slot, lv_has ls 3 [(0, .ref (b 0)), (1, .int x1_n_1), (2, .int (nI k))] → W P_ l E_ ({ frames := 2, cells := 0, slots := 0, locals := 45 } : Room) S_ M_ (([.ref (b 0)] : List Value).toArray) B_ T_ K_ S_.heap [] 0 0 (MQ B_ (vp_Si (fun (r : Int32) => r = (b2 (soP pc kd et ro rb rv rc)))) (([.ref (b 0)] : List Value).toArray) S_ 0 0 (fun _ => False)) (F0 M_ 4 ls []) := by
    intro n_1
    induction n_1 with
    | zero =>
      intro k x1_n_1 hk e_x1_n_1 hmu_n_1
      exact absurd hmu_n_1 (Nat.not_lt_zero _)
    | succ n_1 ih_3 =>
      intro k x1_n_1 hk e_x1_n_1 hmu_n_1 ls hl
      subst e_x1_n_1
      have hl : lv_has ls 3 [(0, .ref (b 0)), (1, .int (b2 (soP pc kd et ro rb rv k))), (2, .int (nI k))] := hl
      refine lv_iload_n hx hb dX5_areSo_4 rfl (lv_at hl 2 rfl) ?_
      refine lv_aload_n hx hb dX5_areSo_5 rfl (lv_at hl 0 rfl) ?_
      refine va_get (D := D) (ci := 5) (v := .int (nI rc)) (C := RX5) (T := TX5) (N := 30) hx hb hts hin5 hown hK.1 hP 0 rfl rfl 20 (by decide) (hts _ (List.mem_of_getElem? (i := 1) rfl)) (fun _ h9 => h9) rfl dX5_areSo_6 ?_
      refine lv_icmp_ge (tgt := 53) hx hb dX5_areSo_9 (by decide) (fun c_4 => ?_) (fun c_4 => ?_)
      · have c_4 : rc ≤ k := (nI_leI (a := rc) (b := k) (by omega) (by omega)).mp c_4
        refine lv_iload_n hx hb dX5_areSo_53 rfl (lv_at hl 1 rfl) ?_
        refine rz_ret (v := (b2 (soP pc kd et ro rb rv k))) hx hb hr hlk dX5_areSo_54 (b2_nar _) ?_
        rw [show k = rc by omega]
      · have c_4 : k < rc := Nat.lt_of_not_le (fun z => c_4 ((nI_leI (a := rc) (b := k) (by omega) (by omega)).mpr z))
        refine lv_iload_n hx hb dX5_areSo_12 rfl (lv_at hl 1 rfl) ?_
        refine lv_if_eq (tgt := 45) hx hb dX5_areSo_13 (by decide) (fun c_5 => ?_) (fun c_5 => ?_)
        · have c_5 := b2_f c_5
          refine lv_iconst (v := 0) hx hb dX5_areSo_45 (by decide) ?_
          refine lv_istore_n (lv' := [(1, .int 0), (0, .ref (b 0)), (2, .int (nI k))]) hx hb dX5_areSo_46 rfl hl (by decide) rfl (fun ls hl => ?_)
          refine lv_iinc (v := (nI (k + 1))) (lv' := [(2, .int (nI (k + 1))), (1, .int 0), (0, .ref (b 0))]) hx hb dX5_areSo_47 hl (k := 2) rfl (nI_add _ 1) (by decide) rfl (fun ls hl => ?_)
          refine lv_goto (tgt := 4) hx hb dX5_areSo_50 (by decide) ?_
          exact ih_3 (k + 1) 0 (by omega) (by first | exact b2_1 (so_s (by assumption) (by assumption)) | exact b2_0 (so_n (by assumption)) | exact b2_0 (so_m (by assumption))) (by omega) ls (lv_sub hl [2, 1, 0] rfl)
        · have c_5 := b2_t c_5
          refine lv_aload_n hx hb dX5_areSo_16 rfl (lv_at hl 0 rfl) ?_
          refine lv_aload_n hx hb dX5_areSo_17 rfl (lv_at hl 0 rfl) ?_
          refine va_get (D := D) (ci := 5) (v := .ref (b 7)) (C := RX5) (T := TX5) (N := 30) hx hb hts hin5 hown hK.1 hP 0 rfl rfl 21 (by decide) (hts _ (List.mem_of_getElem? (i := 2) rfl)) (fun _ h9 => h9) rfl dX5_areSo_18 ?_
          refine lv_iload_n hx hb dX5_areSo_21 rfl (lv_at hl 2 rfl) ?_
          refine k_iald hx hb hK hP 3 0 rfl rfl (j := k) (vp_in_nI (show k < 8 by omega) (by decide)) (nI_clamp (by omega)) dX5_areSo_22 ?_
          refine lv_aload_n hx hb dX5_areSo_23 rfl (lv_at hl 0 rfl) ?_
          refine va_get (D := D) (ci := 5) (v := .ref (b 8)) (C := RX5) (T := TX5) (N := 30) hx hb hts hin5 hown hK.1 hP 0 rfl rfl 22 (by decide) (hts _ (List.mem_of_getElem? (i := 3) rfl)) (fun _ h9 => h9) rfl dX5_areSo_24 ?_
          refine lv_iload_n hx hb dX5_areSo_27 rfl (lv_at hl 2 rfl) ?_
          refine k_iald hx hb hK hP 4 0 rfl rfl (j := k) (vp_in_nI (show k < 8 by omega) (by decide)) (nI_clamp (by omega)) dX5_areSo_28 ?_
          have hv0 := hro k (by omega)
          refine k_ri (run_RV (As := [.int (ro k), .int (rb k)]) (rest := []) ⟨hx, hb, hml, hown, hts⟩ (c_X5_coatOf l D cI cJ cO b fa h w pc br ra q1 q2 q3 q4 fw ea sn mo rc tr kd et (ro k) (rb k) ((ro k).toNatClampNeg) (hkd _ (vp_in_iff.mp hv0 |> fun z => by have : inN (ro k) 16 := z; exact this.lt)) (het _ (vp_in_iff.mp hv0 |> fun z => by have : inN (ro k) 16 := z; exact this.lt)) hv0 rfl) (cwV 2 hts gX5_areSo_X5_coatOf rfl rfl rfl (by decide +kernel) ⟨Nat.le_of_ble_eq_true rfl, Nat.le_of_ble_eq_true rfl⟩) hP hK [0, 1, 2] rfl rfl rfl rfl rfl hl.1 rfl (Nat.le_of_ble_eq_true rfl) dX5_areSo_29 ⟨Nat.le_refl _, Nat.le_refl _⟩) (fun r_6 q_7 => ?_)
          obtain rfl := q_7
          refine lv_aload_n hx hb dX5_areSo_32 rfl (lv_at hl 0 rfl) ?_
          refine va_get (D := D) (ci := 5) (v := .ref (b 9)) (C := RX5) (T := TX5) (N := 30) hx hb hts hin5 hown hK.1 hP 0 rfl rfl 23 (by decide) (hts _ (List.mem_of_getElem? (i := 4) rfl)) (fun _ h9 => h9) rfl dX5_areSo_33 ?_
          refine lv_iload_n hx hb dX5_areSo_36 rfl (lv_at hl 2 rfl) ?_
          refine k_iald hx hb hK hP 5 0 rfl rfl (j := k) (vp_in_nI (show k < 8 by omega) (by decide)) (nI_clamp (by omega)) dX5_areSo_37 ?_
          refine lv_icmp_ne (tgt := 45) hx hb dX5_areSo_38 (by decide) (fun c_8 => ?_) (fun c_8 => ?_)
          · refine lv_iconst (v := 0) hx hb dX5_areSo_45 (by decide) ?_
            refine lv_istore_n (lv' := [(1, .int 0), (0, .ref (b 0)), (2, .int (nI k))]) hx hb dX5_areSo_46 rfl hl (by decide) rfl (fun ls hl => ?_)
            refine lv_iinc (v := (nI (k + 1))) (lv' := [(2, .int (nI (k + 1))), (1, .int 0), (0, .ref (b 0))]) hx hb dX5_areSo_47 hl (k := 2) rfl (nI_add _ 1) (by decide) rfl (fun ls hl => ?_)
            refine lv_goto (tgt := 4) hx hb dX5_areSo_50 (by decide) ?_
            exact ih_3 (k + 1) 0 (by omega) (by first | exact b2_1 (so_s (by assumption) (by assumption)) | exact b2_0 (so_n (by assumption)) | exact b2_0 (so_m (by assumption))) (by omega) ls (lv_sub hl [2, 1, 0] rfl)
          · refine lv_iconst (v := 1) hx hb dX5_areSo_41 (by decide) ?_
            refine lv_goto (tgt := 46) hx hb dX5_areSo_42 (by decide) ?_
            refine lv_istore_n (lv' := [(1, .int 1), (0, .ref (b 0)), (2, .int (nI k))]) hx hb dX5_areSo_46 rfl hl (by decide) rfl (fun ls hl => ?_)
            refine lv_iinc (v := (nI (k + 1))) (lv' := [(2, .int (nI (k + 1))), (1, .int 1), (0, .ref (b 0))]) hx hb dX5_areSo_47 hl (k := 2) rfl (nI_add _ 1) (by decide) rfl (fun ls hl => ?_)
            refine lv_goto (tgt := 4) hx hb dX5_areSo_50 (by decide) ?_
            exact ih_3 (k + 1) 1 (by omega) (by first | exact b2_1 (so_s (by assumption) (by assumption)) | exact b2_0 (so_n (by assumption)) | exact b2_0 (so_m (by assumption))) (by omega) ls (lv_sub hl [2, 1, 0] rfl)
  exact key_2 _ 0 1 (by omega) (b2_1 (fun q hq => absurd hq (by omega))) (Nat.lt_succ_self _) ls (lv_sub hl [2, 1, 0] rfl)
theorem iwX5_back_X5 : ∀ x ∈ wsX50, x ∈ wsX5_back := by decide +kernel
set_option maxRecDepth 100000 in
set_option maxHeartbeats 4000000 in
/-- X5_back -/
theorem c_X5_back (l : Launch) (D : va_G) (cI cJ cO : ClassId) (b : Nat → Nat) (fa : Int32) (h : Nat) (w : Nat) (pc : Int32) (br : Int32) (ra : Int32) (q1 : Int32) (q2 : Int32) (q3 : Int32) (q4 : Int32) (fw : Int32) (ea : Int32) (sn : Int32) (mo : Int32) (rc : Nat) (tr : Int32) (v : Int32) (hrc : rc ≤ 8) : MG l yX5_back wsX5_back 1 25 0 0 D [(cI, .int), (cJ, .long), (cO, .object "ShornHill$Sheet")] [.ref (b 0), .int v] [(b 0, .inr (5, [.int fa, .int (nI h), .int (nI w), .int pc, .int br, .ref (b 1), .ref (b 2), .int ra, .int q1, .int q2, .int q3, .int q4, .ref (b 3), .int fw, .int ea, .int sn, .ref (b 4), .ref (b 5), .ref (b 6), .int mo, .int (nI rc), .ref (b 7), .ref (b 8), .ref (b 9), .ref (b 10), .ref (b 11), .ref (b 12), .ref (b 13), .ref (b 14), .int tr]))] (QI D (fun (r : Int32) (w1 : va_W) => r = (baR rc v) ∧ w1 = [(b 0, .inr (5, [.int fa, .int (nI h), .int (nI w), .int pc, .int br, .ref (b 1), .ref (b 2), .int ra, .int q1, .int q2, .int q3, .int q4, .ref (b 3), .int fw, .int ea, .int sn, .ref (b 4), .ref (b 5), .ref (b 6), .int mo, .int (nI (baC rc v)), .ref (b 7), .ref (b 8), .ref (b 9), .ref (b 10), .ref (b 11), .ref (b 12), .ref (b 13), .ref (b 14), .int tr]))])) := by
  refine MG.of (cc := cX5_back) (maxL := 2) (ret := (some .int)) (by decide) rfl (Nat.le_of_ble_eq_true rfl) ?_
  intro P_ E_ S_ M_ B_ T_ K_ hx hb hml hr hts hown hlk hnm A hA hP hK hD hS ls hl
  have hl : lv_has ls 2 [(0, .ref (b 0)), (1, .int v)] := hl
  have hin5 : ∀ x ∈ u_ws RX5 TX5 30, x ∈ wsX5_back := iwX5_back_X5
  refine lv_iload_n hx hb dX5_back_0 rfl (lv_at hl 1 rfl) ?_
  refine lv_i2l (v := v.toInt64) hx hb dX5_back_1 rfl ?_
  refine lv_lconst (v := 0) hx hb dX5_back_2 (by decide) ?_
  refine lv_aload_n hx hb dX5_back_3 rfl (lv_at hl 0 rfl) ?_
  refine va_get (D := D) (ci := 5) (v := .int (nI rc)) (C := RX5) (T := TX5) (N := 30) hx hb hts hin5 hown hK.1 hP 0 rfl rfl 20 (by decide) (hts _ (List.mem_of_getElem? (i := 1) rfl)) (fun _ h9 => h9) rfl dX5_back_4 ?_
  refine lv_i2l (v := (nI rc).toInt64) hx hb dX5_back_7 rfl ?_
  refine k_ri (run_RS (As := [.long v.toInt64, .long 0, .long ((nI rc).toInt64)]) (rest := []) ⟨hx, hb, hml, hown, hts⟩ (c_X5_in l D cI cJ cO v.toInt64 0 ((nI rc).toInt64)) (va_cwS 3 hts gX5_back_X5_in rfl rfl rfl (by decide +kernel) ⟨Nat.le_of_ble_eq_true rfl, Nat.le_of_ble_eq_true rfl⟩) hP hK [] rfl rfl hl.1 rfl (Nat.le_of_ble_eq_true rfl) dX5_back_8 ⟨Nat.le_refl _, Nat.le_refl _⟩) (fun r_1 q_2 => ?_)
  obtain rfl := q_2
  refine k_top (y := (b2 (inN v (rc + 1)))) (b2_cong (in_le (by omega))) ?_
  refine lv_if_ne (tgt := 17) hx hb dX5_back_11 (by decide) (fun c_3 => ?_) (fun c_3 => ?_)
  · have c_3 := b2_t c_3
    have ck := c_3
    refine lv_aload_n hx hb dX5_back_17 rfl (lv_at hl 0 rfl) ?_
    refine lv_dup hx hb dX5_back_18 rfl ?_
    refine va_get (D := D) (ci := 5) (v := .int (nI rc)) (C := RX5) (T := TX5) (N := 30) hx hb hts hin5 hown hK.1 hP 0 rfl rfl 20 (by decide) (hts _ (List.mem_of_getElem? (i := 1) rfl)) (fun _ h9 => h9) rfl dX5_back_19 ?_
    refine lv_iload_n hx hb dX5_back_22 rfl (lv_at hl 1 rfl) ?_
    refine lv_isub hx hb dX5_back_23 ?_
    refine k_top (y := (nI (rc - v.toNatClampNeg))) (by have e := ck.eq; have l1 := ck.lt; generalize v.toNatClampNeg = z at e l1 ⊢; rw [e]; exact pk_sub (by omega)) ?_
    refine va_put (D := D) (ci := 5) (v := .int (nI (rc - v.toNatClampNeg))) (ty := .int) (C := RX5) (T := TX5) (N := 30) hx hb hts hin5 tyX5 tyX5_ok nmX5 hown hK.1 hP hD hS 0 rfl rfl 20 (by decide) (hts _ (List.mem_of_getElem? (i := 1) rfl)) (fun _ h9 => h9) rfl (by decide +kernel) rfl rfl (Nat.le_of_ble_eq_true rfl) dX5_back_24 (fun H locs hP hD hS => ?_)
    have hP : va_P D vwCl [(b 0, .inr (5, [.int fa, .int (nI h), .int (nI w), .int pc, .int br, .ref (b 1), .ref (b 2), .int ra, .int q1, .int q2, .int q3, .int q4, .ref (b 3), .int fw, .int ea, .int sn, .ref (b 4), .ref (b 5), .ref (b 6), .int mo, .int (nI (rc - v.toNatClampNeg)), .ref (b 7), .ref (b 8), .ref (b 9), .ref (b 10), .ref (b 11), .ref (b 12), .ref (b 13), .ref (b 14), .int tr]))] H := hP
    have hD : va_D A [(b 0, .inr (5, [.int fa, .int (nI h), .int (nI w), .int pc, .int br, .ref (b 1), .ref (b 2), .int ra, .int q1, .int q2, .int q3, .int q4, .ref (b 3), .int fw, .int ea, .int sn, .ref (b 4), .ref (b 5), .ref (b 6), .int mo, .int (nI (rc - v.toNatClampNeg)), .ref (b 7), .ref (b 8), .ref (b 9), .ref (b 10), .ref (b 11), .ref (b 12), .ref (b 13), .ref (b 14), .int tr]))] := hD
    refine lv_aload_n hx hb dX5_back_27 rfl (lv_at hl 0 rfl) ?_
    refine va_get (D := D) (ci := 5) (v := .int (nI (rc - v.toNatClampNeg))) (C := RX5) (T := TX5) (N := 30) hx hb hts hin5 hown hK.1 hP 0 rfl rfl 20 (by decide) (hts _ (List.mem_of_getElem? (i := 1) rfl)) (fun _ h9 => h9) rfl dX5_back_28 ?_
    refine mi_ret (v := (nI (rc - v.toNatClampNeg))) hx hb hr hlk hP hD hS dX5_back_31 ?_
    rw [show baC rc v = _ from by rw [baC, if_pos c_3]]
    refine ⟨?_, rfl⟩
    rw [baR, if_pos c_3] <;> rfl
  · have c_3 := b2_f c_3
    refine lv_bipush (v := (-2)) hx hb dX5_back_14 (by decide) ?_
    refine mi_ret (v := (-2)) hx hb hr hlk hP hD hS dX5_back_16 ?_
    rw [show baC rc v = _ from by rw [baC, if_neg c_3]]
    refine ⟨?_, rfl⟩
    rw [baR, if_neg c_3] <;> rfl
theorem iwX5_reading_X5 : ∀ x ∈ wsX50, x ∈ wsX5_reading := by decide +kernel
set_option maxRecDepth 100000 in
set_option maxHeartbeats 4000000 in
/-- X5_reading -/
theorem c_X5_reading (l : Launch) (D : va_G) (cI cJ cO : ClassId) (b : Nat → Nat) (fa : Int32) (h : Nat) (w : Nat) (pc : Int32) (br : Int32) (ra : Int32) (q1 : Int32) (q2 : Int32) (q3 : Int32) (q4 : Int32) (fw : Int32) (ea : Int32) (sn : Int32) (mo : Int32) (rc : Nat) (tr : Int32) (kd : Nat → Int32) (ro : Nat → Int32) (rb : Nat → Int32) (rv : Nat → Int32) (c : Int32) (ws : Int32) (v : Int32) (hn : h * w ≤ 16) (hrc : rc ≤ 8) : MG l yX5_reading wsX5_reading 3 67 0 0 D [(cI, .int), (cJ, .long), (cO, .object "ShornHill$Sheet")] [.ref (b 0), .int c, .int ws, .int v] [(b 0, .inr (5, [.int fa, .int (nI h), .int (nI w), .int pc, .int br, .ref (b 1), .ref (b 2), .int ra, .int q1, .int q2, .int q3, .int q4, .ref (b 3), .int fw, .int ea, .int sn, .ref (b 4), .ref (b 5), .ref (b 6), .int mo, .int (nI rc), .ref (b 7), .ref (b 8), .ref (b 9), .ref (b 10), .ref (b 11), .ref (b 12), .ref (b 13), .ref (b 14), .int tr])), (b 1, .inl (cI, 16, .inl kd)), (b 7, .inl (cI, 8, .inl ro)), (b 8, .inl (cI, 8, .inl rb)), (b 9, .inl (cI, 8, .inl rv))] (QI D (fun (r : Int32) (w1 : va_W) => r = (reR (h * w) kd rc c ws v) ∧ w1 = [(b 0, .inr (5, [.int fa, .int (nI h), .int (nI w), .int pc, .int br, .ref (b 1), .ref (b 2), .int ra, .int q1, .int q2, .int q3, .int q4, .ref (b 3), .int fw, .int ea, .int sn, .ref (b 4), .ref (b 5), .ref (b 6), .int mo, .int (nI (reC (h * w) kd rc c ws v)), .ref (b 7), .ref (b 8), .ref (b 9), .ref (b 10), .ref (b 11), .ref (b 12), .ref (b 13), .ref (b 14), .int tr])), (b 1, .inl (cI, 16, .inl kd)), (b 7, .inl (cI, 8, .inl (reA (h * w) kd rc c ws v ro c))), (b 8, .inl (cI, 8, .inl (reA (h * w) kd rc c ws v rb ws))), (b 9, .inl (cI, 8, .inl (reA (h * w) kd rc c ws v rv v)))])) := by
  refine MG.of (cc := cX5_reading) (maxL := 4) (ret := (some .int)) (by decide) rfl (Nat.le_of_ble_eq_true rfl) ?_
  intro P_ E_ S_ M_ B_ T_ K_ hx hb hml hr hts hown hlk hnm A hA hP hK hD hS ls hl
  have hl : lv_has ls 4 [(0, .ref (b 0)), (1, .int c), (2, .int ws), (3, .int v)] := hl
  have hin5 : ∀ x ∈ u_ws RX5 TX5 30, x ∈ wsX5_reading := iwX5_reading_X5
  refine lv_aload_n hx hb dX5_reading_0 rfl (lv_at hl 0 rfl) ?_
  refine lv_iload_n hx hb dX5_reading_1 rfl (lv_at hl 1 rfl) ?_
  refine k_ri (run_RV (As := [.int c]) (rest := []) ⟨hx, hb, hml, hown, hts⟩ (c_X5_noGrass l D cI cJ cO b fa h w pc br ra q1 q2 q3 q4 fw ea sn mo rc tr kd c hn) (cwV 1 hts gX5_reading_X5_noGrass rfl rfl rfl (by decide +kernel) ⟨Nat.le_of_ble_eq_true rfl, Nat.le_of_ble_eq_true rfl⟩) hP hK [0, 1] rfl rfl rfl rfl rfl hl.1 rfl (Nat.le_of_ble_eq_true rfl) dX5_reading_2 ⟨Nat.le_refl _, Nat.le_refl _⟩) (fun r_1 q_2 => ?_)
  obtain rfl := q_2
  refine lv_if_eq (tgt := 10) hx hb dX5_reading_5 (by decide) (fun c_3 => ?_) (fun c_3 => ?_)
  · have c_3 := Decidable.not_not.mp (b2_f c_3)
    refine lv_iload_n hx hb dX5_reading_10 rfl (lv_at hl 2 rfl) ?_
    refine k_ri (run_RS (As := [.int ws]) (rest := []) ⟨hx, hb, hml, hown, hts⟩ (c_X5_noWeeks l D cI cJ cO ws) (va_cwS 1 hts gX5_reading_X5_noWeeks rfl rfl rfl (by decide +kernel) ⟨Nat.le_of_ble_eq_true rfl, Nat.le_of_ble_eq_true rfl⟩) hP hK [] rfl rfl hl.1 rfl (Nat.le_of_ble_eq_true rfl) dX5_reading_11 ⟨Nat.le_refl _, Nat.le_refl _⟩) (fun r_4 q_5 => ?_)
    obtain rfl := q_5
    refine lv_if_ne (tgt := 29) hx hb dX5_reading_14 (by decide) (fun c_6 => ?_) (fun c_6 => ?_)
    · have c_6 := b2_t c_6
      refine lv_bipush (v := (-2)) hx hb dX5_reading_29 (by decide) ?_
      refine mi_ret (v := (-2)) hx hb hr hlk hP hD hS dX5_reading_31 ?_
      rw [show reC (h * w) kd rc c ws v = _ from by rw [reC, if_neg (fun z => (fun z => (fun z => c_6 z.1) z.1) z.2)]]
      rw [show reA (h * w) kd rc c ws v ro c = _ from by rw [reA, if_neg (fun z => (fun z => (fun z => c_6 z.1) z.1) z.2)]]
      rw [show reA (h * w) kd rc c ws v rb ws = _ from by rw [reA, if_neg (fun z => (fun z => (fun z => c_6 z.1) z.1) z.2)]]
      rw [show reA (h * w) kd rc c ws v rv v = _ from by rw [reA, if_neg (fun z => (fun z => (fun z => c_6 z.1) z.1) z.2)]]
      refine ⟨?_, rfl⟩
      rw [reR, if_pos c_3, if_neg (fun z => c_6 z.1)] <;> rfl
    · have c_6 := Decidable.not_not.mp (b2_f c_6)
      refine lv_iload_n hx hb dX5_reading_17 rfl (lv_at hl 3 rfl) ?_
      refine lv_i2l (v := v.toInt64) hx hb dX5_reading_18 rfl ?_
      refine lv_lconst (v := 0) hx hb dX5_reading_19 (by decide) ?_
      refine lv_ldc2 (v := 9) hx hb hown (hts _ (List.mem_of_getElem? (i := 1) rfl)) dX5_reading_20 ?_
      refine k_ri (run_RS (As := [.long v.toInt64, .long 0, .long 9]) (rest := []) ⟨hx, hb, hml, hown, hts⟩ (c_X5_in l D cI cJ cO v.toInt64 0 9) (va_cwS 3 hts gX5_reading_X5_in rfl rfl rfl (by decide +kernel) ⟨Nat.le_of_ble_eq_true rfl, Nat.le_of_ble_eq_true rfl⟩) hP hK [] rfl rfl hl.1 rfl (Nat.le_of_ble_eq_true rfl) dX5_reading_23 ⟨Nat.le_refl _, Nat.le_refl _⟩) (fun r_7 q_8 => ?_)
      obtain rfl := q_8
      refine k_top (y := (b2 (inN v 10))) (b2_cong (in_lit rfl rfl)) ?_
      refine lv_if_ne (tgt := 32) hx hb dX5_reading_26 (by decide) (fun c_9 => ?_) (fun c_9 => ?_)
      · have c_9 := b2_t c_9
        refine lv_aload_n hx hb dX5_reading_32 rfl (lv_at hl 0 rfl) ?_
        refine va_get (D := D) (ci := 5) (v := .int (nI rc)) (C := RX5) (T := TX5) (N := 30) hx hb hts hin5 hown hK.1 hP 0 rfl rfl 20 (by decide) (hts _ (List.mem_of_getElem? (i := 2) rfl)) (fun _ h9 => h9) rfl dX5_reading_33 ?_
        refine lv_bipush (v := 8) hx hb dX5_reading_36 (by decide) ?_
        refine lv_icmp_ne (tgt := 44) hx hb dX5_reading_38 (by decide) (fun c_10 => ?_) (fun c_10 => ?_)
        · have c_10 : ¬ rc = 8 := fun z => c_10 ((nI_eq (a := rc) (b := 8) (by omega) (by omega)).mpr z)
          have cr : rc < 8 := by omega
          refine lv_aload_n hx hb dX5_reading_44 rfl (lv_at hl 0 rfl) ?_
          refine va_get (D := D) (ci := 5) (v := .ref (b 7)) (C := RX5) (T := TX5) (N := 30) hx hb hts hin5 hown hK.1 hP 0 rfl rfl 21 (by decide) (hts _ (List.mem_of_getElem? (i := 3) rfl)) (fun _ h9 => h9) rfl dX5_reading_45 ?_
          refine lv_aload_n hx hb dX5_reading_48 rfl (lv_at hl 0 rfl) ?_
          refine va_get (D := D) (ci := 5) (v := .int (nI rc)) (C := RX5) (T := TX5) (N := 30) hx hb hts hin5 hown hK.1 hP 0 rfl rfl 20 (by decide) (hts _ (List.mem_of_getElem? (i := 2) rfl)) (fun _ h9 => h9) rfl dX5_reading_49 ?_
          refine lv_iload_n hx hb dX5_reading_52 rfl (lv_at hl 1 rfl) ?_
          refine k_iast hx hb hK hP hD hS 2 0 rfl rfl (j := rc) (vp_in_nI (show rc < 8 by omega) (by decide)) (nI_clamp (by omega)) dX5_reading_53 (fun H locs hP hD hS => ?_)
          have hP : va_P D vwCl [(b 0, .inr (5, [.int fa, .int (nI h), .int (nI w), .int pc, .int br, .ref (b 1), .ref (b 2), .int ra, .int q1, .int q2, .int q3, .int q4, .ref (b 3), .int fw, .int ea, .int sn, .ref (b 4), .ref (b 5), .ref (b 6), .int mo, .int (nI rc), .ref (b 7), .ref (b 8), .ref (b 9), .ref (b 10), .ref (b 11), .ref (b 12), .ref (b 13), .ref (b 14), .int tr])), (b 1, .inl (cI, 16, .inl kd)), (b 7, .inl (cI, 8, .inl (upd ro rc c))), (b 8, .inl (cI, 8, .inl rb)), (b 9, .inl (cI, 8, .inl rv))] H := hP
          have hD : va_D A [(b 0, .inr (5, [.int fa, .int (nI h), .int (nI w), .int pc, .int br, .ref (b 1), .ref (b 2), .int ra, .int q1, .int q2, .int q3, .int q4, .ref (b 3), .int fw, .int ea, .int sn, .ref (b 4), .ref (b 5), .ref (b 6), .int mo, .int (nI rc), .ref (b 7), .ref (b 8), .ref (b 9), .ref (b 10), .ref (b 11), .ref (b 12), .ref (b 13), .ref (b 14), .int tr])), (b 1, .inl (cI, 16, .inl kd)), (b 7, .inl (cI, 8, .inl (upd ro rc c))), (b 8, .inl (cI, 8, .inl rb)), (b 9, .inl (cI, 8, .inl rv))] := hD
          refine lv_aload_n hx hb dX5_reading_54 rfl (lv_at hl 0 rfl) ?_
          refine va_get (D := D) (ci := 5) (v := .ref (b 8)) (C := RX5) (T := TX5) (N := 30) hx hb hts hin5 hown hK.1 hP 0 rfl rfl 22 (by decide) (hts _ (List.mem_of_getElem? (i := 4) rfl)) (fun _ h9 => h9) rfl dX5_reading_55 ?_
          refine lv_aload_n hx hb dX5_reading_58 rfl (lv_at hl 0 rfl) ?_
          refine va_get (D := D) (ci := 5) (v := .int (nI rc)) (C := RX5) (T := TX5) (N := 30) hx hb hts hin5 hown hK.1 hP 0 rfl rfl 20 (by decide) (hts _ (List.mem_of_getElem? (i := 2) rfl)) (fun _ h9 => h9) rfl dX5_reading_59 ?_
          refine lv_iload_n hx hb dX5_reading_62 rfl (lv_at hl 2 rfl) ?_
          refine k_iast hx hb hK hP hD hS 3 0 rfl rfl (j := rc) (vp_in_nI (show rc < 8 by omega) (by decide)) (nI_clamp (by omega)) dX5_reading_63 (fun H locs hP hD hS => ?_)
          have hP : va_P D vwCl [(b 0, .inr (5, [.int fa, .int (nI h), .int (nI w), .int pc, .int br, .ref (b 1), .ref (b 2), .int ra, .int q1, .int q2, .int q3, .int q4, .ref (b 3), .int fw, .int ea, .int sn, .ref (b 4), .ref (b 5), .ref (b 6), .int mo, .int (nI rc), .ref (b 7), .ref (b 8), .ref (b 9), .ref (b 10), .ref (b 11), .ref (b 12), .ref (b 13), .ref (b 14), .int tr])), (b 1, .inl (cI, 16, .inl kd)), (b 7, .inl (cI, 8, .inl (upd ro rc c))), (b 8, .inl (cI, 8, .inl (upd rb rc ws))), (b 9, .inl (cI, 8, .inl rv))] H := hP
          have hD : va_D A [(b 0, .inr (5, [.int fa, .int (nI h), .int (nI w), .int pc, .int br, .ref (b 1), .ref (b 2), .int ra, .int q1, .int q2, .int q3, .int q4, .ref (b 3), .int fw, .int ea, .int sn, .ref (b 4), .ref (b 5), .ref (b 6), .int mo, .int (nI rc), .ref (b 7), .ref (b 8), .ref (b 9), .ref (b 10), .ref (b 11), .ref (b 12), .ref (b 13), .ref (b 14), .int tr])), (b 1, .inl (cI, 16, .inl kd)), (b 7, .inl (cI, 8, .inl (upd ro rc c))), (b 8, .inl (cI, 8, .inl (upd rb rc ws))), (b 9, .inl (cI, 8, .inl rv))] := hD
          refine lv_aload_n hx hb dX5_reading_64 rfl (lv_at hl 0 rfl) ?_
          refine va_get (D := D) (ci := 5) (v := .ref (b 9)) (C := RX5) (T := TX5) (N := 30) hx hb hts hin5 hown hK.1 hP 0 rfl rfl 23 (by decide) (hts _ (List.mem_of_getElem? (i := 5) rfl)) (fun _ h9 => h9) rfl dX5_reading_65 ?_
          refine lv_aload_n hx hb dX5_reading_68 rfl (lv_at hl 0 rfl) ?_
          refine va_get (D := D) (ci := 5) (v := .int (nI rc)) (C := RX5) (T := TX5) (N := 30) hx hb hts hin5 hown hK.1 hP 0 rfl rfl 20 (by decide) (hts _ (List.mem_of_getElem? (i := 2) rfl)) (fun _ h9 => h9) rfl dX5_reading_69 ?_
          refine lv_iload_n hx hb dX5_reading_72 rfl (lv_at hl 3 rfl) ?_
          refine k_iast hx hb hK hP hD hS 4 0 rfl rfl (j := rc) (vp_in_nI (show rc < 8 by omega) (by decide)) (nI_clamp (by omega)) dX5_reading_73 (fun H locs hP hD hS => ?_)
          have hP : va_P D vwCl [(b 0, .inr (5, [.int fa, .int (nI h), .int (nI w), .int pc, .int br, .ref (b 1), .ref (b 2), .int ra, .int q1, .int q2, .int q3, .int q4, .ref (b 3), .int fw, .int ea, .int sn, .ref (b 4), .ref (b 5), .ref (b 6), .int mo, .int (nI rc), .ref (b 7), .ref (b 8), .ref (b 9), .ref (b 10), .ref (b 11), .ref (b 12), .ref (b 13), .ref (b 14), .int tr])), (b 1, .inl (cI, 16, .inl kd)), (b 7, .inl (cI, 8, .inl (upd ro rc c))), (b 8, .inl (cI, 8, .inl (upd rb rc ws))), (b 9, .inl (cI, 8, .inl (upd rv rc v)))] H := hP
          have hD : va_D A [(b 0, .inr (5, [.int fa, .int (nI h), .int (nI w), .int pc, .int br, .ref (b 1), .ref (b 2), .int ra, .int q1, .int q2, .int q3, .int q4, .ref (b 3), .int fw, .int ea, .int sn, .ref (b 4), .ref (b 5), .ref (b 6), .int mo, .int (nI rc), .ref (b 7), .ref (b 8), .ref (b 9), .ref (b 10), .ref (b 11), .ref (b 12), .ref (b 13), .ref (b 14), .int tr])), (b 1, .inl (cI, 16, .inl kd)), (b 7, .inl (cI, 8, .inl (upd ro rc c))), (b 8, .inl (cI, 8, .inl (upd rb rc ws))), (b 9, .inl (cI, 8, .inl (upd rv rc v)))] := hD
          refine lv_aload_n hx hb dX5_reading_74 rfl (lv_at hl 0 rfl) ?_
          refine lv_dup hx hb dX5_reading_75 rfl ?_
          refine va_get (D := D) (ci := 5) (v := .int (nI rc)) (C := RX5) (T := TX5) (N := 30) hx hb hts hin5 hown hK.1 hP 0 rfl rfl 20 (by decide) (hts _ (List.mem_of_getElem? (i := 2) rfl)) (fun _ h9 => h9) rfl dX5_reading_76 ?_
          refine lv_iconst (v := 1) hx hb dX5_reading_79 (by decide) ?_
          refine lv_iadd hx hb dX5_reading_80 ?_
          refine k_top (y := (nI (rc + 1))) (nI_add _ 1) ?_
          refine va_put (D := D) (ci := 5) (v := .int (nI (rc + 1))) (ty := .int) (C := RX5) (T := TX5) (N := 30) hx hb hts hin5 tyX5 tyX5_ok nmX5 hown hK.1 hP hD hS 0 rfl rfl 20 (by decide) (hts _ (List.mem_of_getElem? (i := 2) rfl)) (fun _ h9 => h9) rfl (by decide +kernel) rfl rfl (Nat.le_of_ble_eq_true rfl) dX5_reading_81 (fun H locs hP hD hS => ?_)
          have hP : va_P D vwCl [(b 0, .inr (5, [.int fa, .int (nI h), .int (nI w), .int pc, .int br, .ref (b 1), .ref (b 2), .int ra, .int q1, .int q2, .int q3, .int q4, .ref (b 3), .int fw, .int ea, .int sn, .ref (b 4), .ref (b 5), .ref (b 6), .int mo, .int (nI (rc + 1)), .ref (b 7), .ref (b 8), .ref (b 9), .ref (b 10), .ref (b 11), .ref (b 12), .ref (b 13), .ref (b 14), .int tr])), (b 1, .inl (cI, 16, .inl kd)), (b 7, .inl (cI, 8, .inl (upd ro rc c))), (b 8, .inl (cI, 8, .inl (upd rb rc ws))), (b 9, .inl (cI, 8, .inl (upd rv rc v)))] H := hP
          have hD : va_D A [(b 0, .inr (5, [.int fa, .int (nI h), .int (nI w), .int pc, .int br, .ref (b 1), .ref (b 2), .int ra, .int q1, .int q2, .int q3, .int q4, .ref (b 3), .int fw, .int ea, .int sn, .ref (b 4), .ref (b 5), .ref (b 6), .int mo, .int (nI (rc + 1)), .ref (b 7), .ref (b 8), .ref (b 9), .ref (b 10), .ref (b 11), .ref (b 12), .ref (b 13), .ref (b 14), .int tr])), (b 1, .inl (cI, 16, .inl kd)), (b 7, .inl (cI, 8, .inl (upd ro rc c))), (b 8, .inl (cI, 8, .inl (upd rb rc ws))), (b 9, .inl (cI, 8, .inl (upd rv rc v)))] := hD
          refine lv_aload_n hx hb dX5_reading_84 rfl (lv_at hl 0 rfl) ?_
          refine va_get (D := D) (ci := 5) (v := .int (nI (rc + 1))) (C := RX5) (T := TX5) (N := 30) hx hb hts hin5 hown hK.1 hP 0 rfl rfl 20 (by decide) (hts _ (List.mem_of_getElem? (i := 2) rfl)) (fun _ h9 => h9) rfl dX5_reading_85 ?_
          refine lv_iconst (v := 1) hx hb dX5_reading_88 (by decide) ?_
          refine lv_isub hx hb dX5_reading_89 ?_
          refine k_top (y := (nI rc)) (by rw [← nI_add]; exact nI_pred_add rc) ?_
          refine mi_ret (v := (nI rc)) hx hb hr hlk hP hD hS dX5_reading_90 ?_
          rw [show reC (h * w) kd rc c ws v = _ from by rw [reC, if_pos ⟨c_3, ⟨⟨c_6, c_9⟩, cr⟩⟩]]
          rw [show reA (h * w) kd rc c ws v ro c = _ from by rw [reA, if_pos ⟨c_3, ⟨⟨c_6, c_9⟩, cr⟩⟩]]
          rw [show reA (h * w) kd rc c ws v rb ws = _ from by rw [reA, if_pos ⟨c_3, ⟨⟨c_6, c_9⟩, cr⟩⟩]]
          rw [show reA (h * w) kd rc c ws v rv v = _ from by rw [reA, if_pos ⟨c_3, ⟨⟨c_6, c_9⟩, cr⟩⟩]]
          refine ⟨?_, rfl⟩
          rw [reR, if_pos c_3, if_pos ⟨c_6, c_9⟩, if_pos cr] <;> rfl
        · have c_10 : rc = 8 := (nI_eq (a := rc) (b := 8) (by omega) (by omega)).mp c_10
          have cr : ¬ rc < 8 := by omega
          refine lv_bipush (v := (-4)) hx hb dX5_reading_41 (by decide) ?_
          refine mi_ret (v := (-4)) hx hb hr hlk hP hD hS dX5_reading_43 ?_
          rw [show reC (h * w) kd rc c ws v = _ from by rw [reC, if_neg (fun z => (fun z => cr z.2) z.2)]]
          rw [show reA (h * w) kd rc c ws v ro c = _ from by rw [reA, if_neg (fun z => (fun z => cr z.2) z.2)]]
          rw [show reA (h * w) kd rc c ws v rb ws = _ from by rw [reA, if_neg (fun z => (fun z => cr z.2) z.2)]]
          rw [show reA (h * w) kd rc c ws v rv v = _ from by rw [reA, if_neg (fun z => (fun z => cr z.2) z.2)]]
          refine ⟨?_, rfl⟩
          rw [reR, if_pos c_3, if_pos ⟨c_6, c_9⟩, if_neg cr] <;> rfl
      · have c_9 := b2_f c_9
        refine lv_bipush (v := (-2)) hx hb dX5_reading_29 (by decide) ?_
        refine mi_ret (v := (-2)) hx hb hr hlk hP hD hS dX5_reading_31 ?_
        rw [show reC (h * w) kd rc c ws v = _ from by rw [reC, if_neg (fun z => (fun z => (fun z => c_9 z.2) z.1) z.2)]]
        rw [show reA (h * w) kd rc c ws v ro c = _ from by rw [reA, if_neg (fun z => (fun z => (fun z => c_9 z.2) z.1) z.2)]]
        rw [show reA (h * w) kd rc c ws v rb ws = _ from by rw [reA, if_neg (fun z => (fun z => (fun z => c_9 z.2) z.1) z.2)]]
        rw [show reA (h * w) kd rc c ws v rv v = _ from by rw [reA, if_neg (fun z => (fun z => (fun z => c_9 z.2) z.1) z.2)]]
        refine ⟨?_, rfl⟩
        rw [reR, if_pos c_3, if_neg (fun z => c_9 z.2)] <;> rfl
  · have c_3 := b2_t c_3
    refine lv_iconst (v := (-1)) hx hb dX5_reading_8 (by decide) ?_
    refine mi_ret (v := (-1)) hx hb hr hlk hP hD hS dX5_reading_9 ?_
    rw [show reC (h * w) kd rc c ws v = _ from by rw [reC, if_neg (fun z => c_3 z.1)]]
    rw [show reA (h * w) kd rc c ws v ro c = _ from by rw [reA, if_neg (fun z => c_3 z.1)]]
    rw [show reA (h * w) kd rc c ws v rb ws = _ from by rw [reA, if_neg (fun z => c_3 z.1)]]
    rw [show reA (h * w) kd rc c ws v rv v = _ from by rw [reA, if_neg (fun z => c_3 z.1)]]
    refine ⟨?_, rfl⟩
    rw [reR, if_neg c_3] <;> rfl
