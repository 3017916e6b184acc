theorem iwX5_trace_X5 : ∀ x ∈ wsX50, x ∈ wsX5_trace := by decide +kernel
set_option maxRecDepth 100000 in
set_option maxHeartbeats 4000000 in
/-- X5_trace -/
theorem c_X5_trace (l : Launch) (D : va_G) (cI cJ cO : ClassId) (b : Nat → Nat) (fa : Int32) (h : Nat) (w : Nat) (pc : Int32) (br : Int32) (ra : Int32) (q1 : Int32) (q2 : Int32) (q3 : Int32) (q4 : Int32) (fw : Int32) (ea : Int32) (sn : Int32) (mo : Int32) (rc : Nat) (tr : Int32) : RG l yX5_trace wsX5_trace 0 0 D [(cI, .int), (cJ, .long), (cO, .object "ShornHill$Sheet")] [.ref (b 0)] [(b 0, .inr (5, [.int fa, .int (nI h), .int (nI w), .int pc, .int br, .ref (b 1), .ref (b 2), .int ra, .int q1, .int q2, .int q3, .int q4, .ref (b 3), .int fw, .int ea, .int sn, .ref (b 4), .ref (b 5), .ref (b 6), .int mo, .int (nI rc), .ref (b 7), .ref (b 8), .ref (b 9), .ref (b 10), .ref (b 11), .ref (b 12), .ref (b 13), .ref (b 14), .int tr]))] (vp_Si (fun (r : Int32) => r = tr)) := by
  refine RG.of (cc := cX5_trace) (maxL := 1) (ret := (some .int)) (by decide) rfl (Nat.le_of_ble_eq_true rfl) ?_
  intro P_ E_ S_ M_ B_ T_ K_ hx hb hml hr hts hown hlk hP hK ls hl
  have hl : lv_has ls 1 [(0, .ref (b 0))] := hl
  have hin5 : ∀ x ∈ u_ws RX5 TX5 30, x ∈ wsX5_trace := iwX5_trace_X5
  refine lv_aload_n hx hb dX5_trace_0 rfl (lv_at hl 0 rfl) ?_
  refine va_get (D := D) (ci := 5) (v := .int tr) (C := RX5) (T := TX5) (N := 30) hx hb hts hin5 hown hK.1 hP 0 rfl rfl 29 (by decide) (hts _ (List.mem_of_getElem? (i := 1) rfl)) (fun _ h9 => h9) rfl dX5_trace_1 ?_
  refine ri_ret (v := tr) hx hb hr hlk dX5_trace_4 ?_
  rfl
theorem iwX5_fault_X5 : ∀ x ∈ wsX50, x ∈ wsX5_fault := by decide +kernel
set_option maxRecDepth 100000 in
set_option maxHeartbeats 4000000 in
/-- X5_fault -/
theorem c_X5_fault (l : Launch) (D : va_G) (cI cJ cO : ClassId) (b : Nat → Nat) (fa : Int32) (h : Nat) (w : Nat) (pc : Int32) (br : Int32) (ra : Int32) (q1 : Int32) (q2 : Int32) (q3 : Int32) (q4 : Int32) (fw : Int32) (ea : Int32) (sn : Int32) (mo : Int32) (rc : Nat) (tr : Int32) : RG l yX5_fault wsX5_fault 0 0 D [(cI, .int), (cJ, .long), (cO, .object "ShornHill$Sheet")] [.ref (b 0)] [(b 0, .inr (5, [.int fa, .int (nI h), .int (nI w), .int pc, .int br, .ref (b 1), .ref (b 2), .int ra, .int q1, .int q2, .int q3, .int q4, .ref (b 3), .int fw, .int ea, .int sn, .ref (b 4), .ref (b 5), .ref (b 6), .int mo, .int (nI rc), .ref (b 7), .ref (b 8), .ref (b 9), .ref (b 10), .ref (b 11), .ref (b 12), .ref (b 13), .ref (b 14), .int tr]))] (vp_Si (fun (r : Int32) => r = fa)) := by
  refine RG.of (cc := cX5_fault) (maxL := 1) (ret := (some .int)) (by decide) rfl (Nat.le_of_ble_eq_true rfl) ?_
  intro P_ E_ S_ M_ B_ T_ K_ hx hb hml hr hts hown hlk hP hK ls hl
  have hl : lv_has ls 1 [(0, .ref (b 0))] := hl
  have hin5 : ∀ x ∈ u_ws RX5 TX5 30, x ∈ wsX5_fault := iwX5_fault_X5
  refine lv_aload_n hx hb dX5_fault_0 rfl (lv_at hl 0 rfl) ?_
  refine va_get (D := D) (ci := 5) (v := .int fa) (C := RX5) (T := TX5) (N := 30) hx hb hts hin5 hown hK.1 hP 0 rfl rfl 0 (by decide) (hts _ (List.mem_of_getElem? (i := 1) rfl)) (fun _ h9 => h9) rfl dX5_fault_1 ?_
  refine ri_ret (v := fa) hx hb hr hlk dX5_fault_4 ?_
  rfl
theorem iwX5_ofCell_X5 : ∀ x ∈ wsX50, x ∈ wsX5_ofCell := by decide +kernel
set_option maxRecDepth 100000 in
set_option maxHeartbeats 4000000 in
/-- X5_ofCell -/
theorem c_X5_ofCell (l : Launch) (D : va_G) (cI cJ cO : ClassId) (b : Nat → Nat) (fa : Int32) (h : Nat) (w : Nat) (pc : Int32) (br : Int32) (ra : Int32) (q1 : Int32) (q2 : Int32) (q3 : Int32) (q4 : Int32) (fw : Int32) (ea : Int32) (sn : Int32) (mo : Int32) (rc : Nat) (tr : Int32) (kd : Nat → Int32) (et : Nat → Int32) (c : Int32) (v : Int32) (hn : h * w ≤ 16) (hkd : ∀ k, k < 16 → kdOk (kd k)) : RG l yX5_ofCell wsX5_ofCell 2 46 D [(cI, .int), (cJ, .long), (cO, .object "ShornHill$Sheet")] [.ref (b 0), .int c, .int v] [(b 0, .inr (5, [.int fa, .int (nI h), .int (nI w), .int pc, .int br, .ref (b 1), .ref (b 2), .int ra, .int q1, .int q2, .int q3, .int q4, .ref (b 3), .int fw, .int ea, .int sn, .ref (b 4), .ref (b 5), .ref (b 6), .int mo, .int (nI rc), .ref (b 7), .ref (b 8), .ref (b 9), .ref (b 10), .ref (b 11), .ref (b 12), .ref (b 13), .ref (b 14), .int tr])), (b 1, .inl (cI, 16, .inl kd)), (b 2, .inl (cI, 16, .inl et))] (vp_Si (fun (r : Int32) => r = (ofR (h * w) pc kd et c v))) := by
  refine RG.of (cc := cX5_ofCell) (maxL := 3) (ret := (some .int)) (by decide) rfl (Nat.le_of_ble_eq_true rfl) ?_
  intro P_ E_ S_ M_ B_ T_ K_ hx hb hml hr hts hown hlk hP hK ls hl
  have hl : lv_has ls 3 [(0, .ref (b 0)), (1, .int c), (2, .int v)] := hl
  have hin5 : ∀ x ∈ u_ws RX5 TX5 30, x ∈ wsX5_ofCell := iwX5_ofCell_X5
  refine lv_aload_n hx hb dX5_ofCell_0 rfl (lv_at hl 0 rfl) ?_
  refine lv_iload_n hx hb dX5_ofCell_1 rfl (lv_at hl 1 rfl) ?_
  refine k_ri (run_RV (As := [.int c]) (rest := []) ⟨hx, hb, hml, hown, hts⟩ (c_X5_noPlace l D cI cJ cO b fa h w pc br ra q1 q2 q3 q4 fw ea sn mo rc tr c hn) (cwV 1 hts gX5_ofCell_X5_noPlace rfl rfl rfl (by decide +kernel) ⟨Nat.le_of_ble_eq_true rfl, Nat.le_of_ble_eq_true rfl⟩) hP hK [0] rfl rfl rfl rfl rfl hl.1 rfl (Nat.le_of_ble_eq_true rfl) dX5_ofCell_2 ⟨Nat.le_refl _, Nat.le_refl _⟩) (fun r_1 q_2 => ?_)
  obtain rfl := q_2
  refine lv_if_eq (tgt := 10) hx hb dX5_ofCell_5 (by decide) (fun c_3 => ?_) (fun c_3 => ?_)
  · have c_3 := Decidable.not_not.mp (b2_f c_3)
    refine lv_iload_n hx hb dX5_ofCell_10 rfl (lv_at hl 2 rfl) ?_
    rcases sw3 (v) with c_4 | c_4 | c_4 | c_4
    · refine lv_tableIn (off := 25) (tgt := 36) hx hb dX5_ofCell_11 (by rw [c_4]; decide) (by rw [c_4]; decide) (by rw [c_4]; rfl) (by decide) ?_
      refine lv_aload_n hx hb dX5_ofCell_36 rfl (lv_at hl 0 rfl) ?_
      refine va_get (D := D) (ci := 5) (v := .ref (b 1)) (C := RX5) (T := TX5) (N := 30) hx hb hts hin5 hown hK.1 hP 0 rfl rfl 5 (by decide) (hts _ (List.mem_of_getElem? (i := 1) rfl)) (fun _ h9 => h9) rfl dX5_ofCell_37 ?_
      refine lv_iload_n hx hb dX5_ofCell_40 rfl (lv_at hl 1 rfl) ?_
      refine k_iald hx hb hK hP 1 0 rfl rfl (j := c.toNatClampNeg) (inN.vp c_3 (by omega)) rfl dX5_ofCell_41 ?_
      refine ri_ret (v := (kd c.toNatClampNeg)) hx hb hr hlk dX5_ofCell_42 ?_
      rw [ofR, if_pos c_3, if_pos c_4] <;> rfl
    · refine lv_tableIn (off := 32) (tgt := 43) hx hb dX5_ofCell_11 (by rw [c_4]; decide) (by rw [c_4]; decide) (by rw [c_4]; rfl) (by decide) ?_
      have cn0 : ¬ v = 0 := fun z => by rw [z] at c_4; exact absurd c_4 (by decide)
      refine lv_aload_n hx hb dX5_ofCell_43 rfl (lv_at hl 0 rfl) ?_
      refine lv_iload_n hx hb dX5_ofCell_44 rfl (lv_at hl 1 rfl) ?_
      refine k_ri (run_RV (As := [.int c]) (rest := []) ⟨hx, hb, hml, hown, hts⟩ (c_X5_growsOf l D cI cJ cO b fa h w pc br ra q1 q2 q3 q4 fw ea sn mo rc tr kd c c.toNatClampNeg (hkd _ (by have := (show inN c (h * w) by assumption).lt; omega)) (inN.vp c_3 (by omega)) rfl) (cwV 1 hts gX5_ofCell_X5_growsOf rfl rfl rfl (by decide +kernel) ⟨Nat.le_of_ble_eq_true rfl, Nat.le_of_ble_eq_true rfl⟩) hP hK [0, 1] rfl rfl rfl rfl rfl hl.1 rfl (Nat.le_of_ble_eq_true rfl) dX5_ofCell_45 ⟨Nat.le_refl _, Nat.le_refl _⟩) (fun r_5 q_6 => ?_)
      obtain rfl := q_6
      refine ri_ret (v := (wk (kd c.toNatClampNeg) pc)) hx hb hr hlk dX5_ofCell_48 ?_
      rw [ofR, if_pos c_3, if_neg cn0, if_pos c_4] <;> rfl
    · refine lv_tableIn (off := 38) (tgt := 49) hx hb dX5_ofCell_11 (by rw [c_4]; decide) (by rw [c_4]; decide) (by rw [c_4]; rfl) (by decide) ?_
      have cn0 : ¬ v = 0 := fun z => by rw [z] at c_4; exact absurd c_4 (by decide)
      have cn1 : ¬ v = 1 := fun z => by rw [z] at c_4; exact absurd c_4 (by decide)
      refine lv_aload_n hx hb dX5_ofCell_49 rfl (lv_at hl 0 rfl) ?_
      refine va_get (D := D) (ci := 5) (v := .ref (b 2)) (C := RX5) (T := TX5) (N := 30) hx hb hts hin5 hown hK.1 hP 0 rfl rfl 6 (by decide) (hts _ (List.mem_of_getElem? (i := 2) rfl)) (fun _ h9 => h9) rfl dX5_ofCell_50 ?_
      refine lv_iload_n hx hb dX5_ofCell_53 rfl (lv_at hl 1 rfl) ?_
      refine k_iald hx hb hK hP 2 0 rfl rfl (j := c.toNatClampNeg) (inN.vp c_3 (by omega)) rfl dX5_ofCell_54 ?_
      refine ri_ret (v := (et c.toNatClampNeg)) hx hb hr hlk dX5_ofCell_55 ?_
      rw [ofR, if_pos c_3, if_neg cn0, if_neg cn1, if_pos c_4] <;> rfl
    · refine lv_tableOut (tgt := 56) hx hb dX5_ofCell_11 c_4 (by decide) ?_
      have cn0 : ¬ v = 0 := fun z => by rw [z] at c_4; exact absurd c_4 (by decide)
      have cn1 : ¬ v = 1 := fun z => by rw [z] at c_4; exact absurd c_4 (by decide)
      have cn2 : ¬ v = 2 := fun z => by rw [z] at c_4; exact absurd c_4 (by decide)
      refine lv_bipush (v := (-2)) hx hb dX5_ofCell_56 (by decide) ?_
      refine ri_ret (v := (-2)) hx hb hr hlk dX5_ofCell_58 ?_
      rw [ofR, if_pos c_3, if_neg cn0, if_neg cn1, if_neg cn2] <;> rfl
  · have c_3 := b2_t c_3
    refine lv_iconst (v := (-1)) hx hb dX5_ofCell_8 (by decide) ?_
    refine ri_ret (v := (-1)) hx hb hr hlk dX5_ofCell_9 ?_
    rw [ofR, if_neg c_3] <;> rfl
theorem iwX5_goats_X5 : ∀ x ∈ wsX50, x ∈ wsX5_goats := by decide +kernel
set_option maxRecDepth 100000 in
set_option maxHeartbeats 4000000 in
/-- X5_goats -/
theorem c_X5_goats (l : Launch) (D : va_G) (cI cJ cO : ClassId) (b : Nat → Nat) (fa : Int32) (h : Nat) (w : Nat) (pc : Int32) (br : Int32) (ra : Int32) (q1 : Int32) (q2 : Int32) (q3 : Int32) (q4 : Int32) (fw : Int32) (ea : Int32) (sn : Int32) (mo : Int32) (rc : Nat) (tr : Int32) (kd : Nat → Int32) (et : Nat → Int32) (c : Int32) (v : Int32) (hn : h * w ≤ 16) : MG l yX5_goats wsX5_goats 3 67 0 0 D [(cI, .int), (cJ, .long), (cO, .object "ShornHill$Sheet")] [.ref (b 0), .int c, .int v] [(b 0, .inr (5, [.int fa, .int (nI h), .int (nI w), .int pc, .int br, .ref (b 1), .ref (b 2), .int ra, .int q1, .int q2, .int q3, .int q4, .ref (b 3), .int fw, .int ea, .int sn, .ref (b 4), .ref (b 5), .ref (b 6), .int mo, .int (nI rc), .ref (b 7), .ref (b 8), .ref (b 9), .ref (b 10), .ref (b 11), .ref (b 12), .ref (b 13), .ref (b 14), .int tr])), (b 1, .inl (cI, 16, .inl kd)), (b 2, .inl (cI, 16, .inl et))] (QI D (fun (r : Int32) (w1 : va_W) => r = (goR (h * w) kd et c v) ∧ w1 = [(b 0, .inr (5, [.int fa, .int (nI h), .int (nI w), .int pc, .int br, .ref (b 1), .ref (b 2), .int ra, .int q1, .int q2, .int q3, .int q4, .ref (b 3), .int fw, .int ea, .int sn, .ref (b 4), .ref (b 5), .ref (b 6), .int mo, .int (nI rc), .ref (b 7), .ref (b 8), .ref (b 9), .ref (b 10), .ref (b 11), .ref (b 12), .ref (b 13), .ref (b 14), .int tr])), (b 1, .inl (cI, 16, .inl kd)), (b 2, .inl (cI, 16, .inl (goE (h * w) kd et c v)))])) := by
  refine MG.of (cc := cX5_goats) (maxL := 4) (ret := (some .int)) (by decide) rfl (Nat.le_of_ble_eq_true rfl) ?_
  intro P_ E_ S_ M_ B_ T_ K_ hx hb hml hr hts hown hlk hnm A hA hP hK hD hS ls hl
  have hl : lv_has ls 4 [(0, .ref (b 0)), (1, .int c), (2, .int v)] := hl
  have hin5 : ∀ x ∈ u_ws RX5 TX5 30, x ∈ wsX5_goats := iwX5_goats_X5
  refine lv_aload_n hx hb dX5_goats_0 rfl (lv_at hl 0 rfl) ?_
  refine lv_iload_n hx hb dX5_goats_1 rfl (lv_at hl 1 rfl) ?_
  refine k_ri (run_RV (As := [.int c]) (rest := []) ⟨hx, hb, hml, hown, hts⟩ (c_X5_noGrass l D cI cJ cO b fa h w pc br ra q1 q2 q3 q4 fw ea sn mo rc tr kd c hn) (cwV 1 hts gX5_goats_X5_noGrass rfl rfl rfl (by decide +kernel) ⟨Nat.le_of_ble_eq_true rfl, Nat.le_of_ble_eq_true rfl⟩) hP hK [0, 1] rfl rfl rfl rfl rfl hl.1 rfl (Nat.le_of_ble_eq_true rfl) dX5_goats_2 ⟨Nat.le_refl _, Nat.le_refl _⟩) (fun r_1 q_2 => ?_)
  obtain rfl := q_2
  refine lv_if_eq (tgt := 10) hx hb dX5_goats_5 (by decide) (fun c_3 => ?_) (fun c_3 => ?_)
  · have c_3 := Decidable.not_not.mp (b2_f c_3)
    refine lv_iload_n hx hb dX5_goats_10 rfl (lv_at hl 2 rfl) ?_
    refine lv_i2l (v := v.toInt64) hx hb dX5_goats_11 rfl ?_
    refine lv_lconst (v := 0) hx hb dX5_goats_12 (by decide) ?_
    refine lv_ldc2 (v := 9) hx hb hown (hts _ (List.mem_of_getElem? (i := 1) rfl)) dX5_goats_13 ?_
    refine k_ri (run_RS (As := [.long v.toInt64, .long 0, .long 9]) (rest := []) ⟨hx, hb, hml, hown, hts⟩ (c_X5_in l D cI cJ cO v.toInt64 0 9) (va_cwS 3 hts gX5_goats_X5_in rfl rfl rfl (by decide +kernel) ⟨Nat.le_of_ble_eq_true rfl, Nat.le_of_ble_eq_true rfl⟩) hP hK [] rfl rfl hl.1 rfl (Nat.le_of_ble_eq_true rfl) dX5_goats_16 ⟨Nat.le_refl _, Nat.le_refl _⟩) (fun r_4 q_5 => ?_)
    obtain rfl := q_5
    refine k_top (y := (b2 (inN v 10))) (b2_cong (in_lit rfl rfl)) ?_
    refine lv_if_ne (tgt := 25) hx hb dX5_goats_19 (by decide) (fun c_6 => ?_) (fun c_6 => ?_)
    · have c_6 := b2_t c_6
      refine lv_aload_n hx hb dX5_goats_25 rfl (lv_at hl 0 rfl) ?_
      refine va_get (D := D) (ci := 5) (v := .ref (b 2)) (C := RX5) (T := TX5) (N := 30) hx hb hts hin5 hown hK.1 hP 0 rfl rfl 6 (by decide) (hts _ (List.mem_of_getElem? (i := 2) rfl)) (fun _ h9 => h9) rfl dX5_goats_26 ?_
      refine lv_iload_n hx hb dX5_goats_29 rfl (lv_at hl 1 rfl) ?_
      refine k_iald hx hb hK hP 2 0 rfl rfl (j := c.toNatClampNeg) (inN.vp c_3.1 (by omega)) rfl dX5_goats_30 ?_
      refine lv_istore_n (lv' := [(3, .int (et c.toNatClampNeg)), (0, .ref (b 0)), (1, .int c), (2, .int v)]) hx hb dX5_goats_31 rfl hl (by decide) rfl (fun ls hl => ?_)
      refine lv_aload_n hx hb dX5_goats_32 rfl (lv_at hl 1 rfl) ?_
      refine va_get (D := D) (ci := 5) (v := .ref (b 2)) (C := RX5) (T := TX5) (N := 30) hx hb hts hin5 hown hK.1 hP 0 rfl rfl 6 (by decide) (hts _ (List.mem_of_getElem? (i := 2) rfl)) (fun _ h9 => h9) rfl dX5_goats_33 ?_
      refine lv_iload_n hx hb dX5_goats_36 rfl (lv_at hl 2 rfl) ?_
      refine lv_iload_n hx hb dX5_goats_37 rfl (lv_at hl 3 rfl) ?_
      refine k_iast hx hb hK hP hD hS 2 0 rfl rfl (j := c.toNatClampNeg) (inN.vp c_3.1 (by omega)) rfl dX5_goats_38 (fun H locs hP hD hS => ?_)
      have hP : va_P D vwCl [(b 0, .inr (5, [.int fa, .int (nI h), .int (nI w), .int pc, .int br, .ref (b 1), .ref (b 2), .int ra, .int q1, .int q2, .int q3, .int q4, .ref (b 3), .int fw, .int ea, .int sn, .ref (b 4), .ref (b 5), .ref (b 6), .int mo, .int (nI rc), .ref (b 7), .ref (b 8), .ref (b 9), .ref (b 10), .ref (b 11), .ref (b 12), .ref (b 13), .ref (b 14), .int tr])), (b 1, .inl (cI, 16, .inl kd)), (b 2, .inl (cI, 16, .inl (upd et c.toNatClampNeg v)))] H := hP
      have hD : va_D A [(b 0, .inr (5, [.int fa, .int (nI h), .int (nI w), .int pc, .int br, .ref (b 1), .ref (b 2), .int ra, .int q1, .int q2, .int q3, .int q4, .ref (b 3), .int fw, .int ea, .int sn, .ref (b 4), .ref (b 5), .ref (b 6), .int mo, .int (nI rc), .ref (b 7), .ref (b 8), .ref (b 9), .ref (b 10), .ref (b 11), .ref (b 12), .ref (b 13), .ref (b 14), .int tr])), (b 1, .inl (cI, 16, .inl kd)), (b 2, .inl (cI, 16, .inl (upd et c.toNatClampNeg v)))] := hD
      refine lv_iload_n hx hb dX5_goats_39 rfl (lv_at hl 0 rfl) ?_
      refine mi_ret (v := (et c.toNatClampNeg)) hx hb hr hlk hP hD hS dX5_goats_40 ?_
      rw [show goE (h * w) kd et c v = _ from by rw [goE, if_pos ⟨c_3, c_6⟩]]
      refine ⟨?_, rfl⟩
      rw [goR, if_pos c_3, if_pos c_6] <;> rfl
    · have c_6 := b2_f c_6
      refine lv_bipush (v := (-2)) hx hb dX5_goats_22 (by decide) ?_
      refine mi_ret (v := (-2)) hx hb hr hlk hP hD hS dX5_goats_24 ?_
      rw [show goE (h * w) kd et c v = _ from by rw [goE, if_neg (fun z => c_6 z.2)]]
      refine ⟨?_, rfl⟩
      rw [goR, if_pos c_3, if_neg c_6] <;> rfl
  · have c_3 := b2_t c_3
    refine lv_iconst (v := (-1)) hx hb dX5_goats_8 (by decide) ?_
    refine mi_ret (v := (-1)) hx hb hr hlk hP hD hS dX5_goats_9 ?_
    rw [show goE (h * w) kd et c v = _ from by rw [goE, if_neg (fun z => c_3 z.1)]]
    refine ⟨?_, rfl⟩
    rw [goR, if_neg c_3] <;> rfl
theorem iwX5_pace_X5 : ∀ x ∈ wsX50, x ∈ wsX5_pace := by decide +kernel
set_option maxRecDepth 100000 in
set_option maxHeartbeats 4000000 in
/-- X5_pace -/
theorem c_X5_pace (l : Launch) (D : va_G) (cI cJ cO : ClassId) (b : Nat → Nat) (fa : Int32) (h : Nat) (w : Nat) (pc : Int32) (br : Int32) (ra : Int32) (q1 : Int32) (q2 : Int32) (q3 : Int32) (q4 : Int32) (fw : Int32) (ea : Int32) (sn : Int32) (mo : Int32) (rc : Nat) (tr : Int32) (v : Int32) (hh : h ≤ 4) : MG l yX5_pace wsX5_pace 1 25 0 0 D [(cI, .int), (cJ, .long), (cO, .object "ShornHill$Sheet")] [.ref (b 0), .int v] [(b 0, .inr (5, [.int fa, .int (nI h), .int (nI w), .int pc, .int br, .ref (b 1), .ref (b 2), .int ra, .int q1, .int q2, .int q3, .int q4, .ref (b 3), .int fw, .int ea, .int sn, .ref (b 4), .ref (b 5), .ref (b 6), .int mo, .int (nI rc), .ref (b 7), .ref (b 8), .ref (b 9), .ref (b 10), .ref (b 11), .ref (b 12), .ref (b 13), .ref (b 14), .int tr]))] (QI D (fun (r : Int32) (w1 : va_W) => r = (paR h pc v 3) ∧ w1 = [(b 0, .inr (5, [.int fa, .int (nI h), .int (nI w), .int (paE h pc v 3), .int br, .ref (b 1), .ref (b 2), .int ra, .int q1, .int q2, .int q3, .int q4, .ref (b 3), .int fw, .int ea, .int sn, .ref (b 4), .ref (b 5), .ref (b 6), .int mo, .int (nI rc), .ref (b 7), .ref (b 8), .ref (b 9), .ref (b 10), .ref (b 11), .ref (b 12), .ref (b 13), .ref (b 14), .int tr]))])) := by
  refine MG.of (cc := cX5_pace) (maxL := 3) (ret := (some .int)) (by decide) rfl (Nat.le_of_ble_eq_true rfl) ?_
  intro P_ E_ S_ M_ B_ T_ K_ hx hb hml hr hts hown hlk hnm A hA hP hK hD hS ls hl
  have hl : lv_has ls 3 [(0, .ref (b 0)), (1, .int v)] := hl
  have hin5 : ∀ x ∈ u_ws RX5 TX5 30, x ∈ wsX5_pace := iwX5_pace_X5
  refine lv_iload_n hx hb dX5_pace_0 rfl (lv_at hl 1 rfl) ?_
  refine lv_i2l (v := v.toInt64) hx hb dX5_pace_1 rfl ?_
  refine lv_lconst (v := 1) hx hb dX5_pace_2 (by decide) ?_
  refine lv_ldc2 (v := 3) hx hb hown (hts _ (List.mem_of_getElem? (i := 1) rfl)) dX5_pace_3 ?_
  refine k_ri (run_RS (As := [.long v.toInt64, .long 1, .long 3]) (rest := []) ⟨hx, hb, hml, hown, hts⟩ (c_X5_in l D cI cJ cO v.toInt64 1 3) (va_cwS 3 hts gX5_pace_X5_in rfl rfl rfl (by decide +kernel) ⟨Nat.le_of_ble_eq_true rfl, Nat.le_of_ble_eq_true rfl⟩) hP hK [] rfl rfl hl.1 rfl (Nat.le_of_ble_eq_true rfl) dX5_pace_6 ⟨Nat.le_refl _, Nat.le_refl _⟩) (fun r_1 q_2 => ?_)
  obtain rfl := q_2
  refine k_top (y := (b2 (btw v 1 3))) (b2_cong (in_bt rfl rfl)) ?_
  refine lv_if_ne (tgt := 15) hx hb dX5_pace_9 (by decide) (fun c_3 => ?_) (fun c_3 => ?_)
  · have c_3 := b2_t c_3
    refine lv_aload_n hx hb dX5_pace_15 rfl (lv_at hl 0 rfl) ?_
    refine va_get (D := D) (ci := 5) (v := .int (nI h)) (C := RX5) (T := TX5) (N := 30) hx hb hts hin5 hown hK.1 hP 0 rfl rfl 1 (by decide) (hts _ (List.mem_of_getElem? (i := 2) rfl)) (fun _ h9 => h9) rfl dX5_pace_16 ?_
    refine lv_if_ne (tgt := 25) hx hb dX5_pace_19 (by decide) (fun c_4 => ?_) (fun c_4 => ?_)
    · have c_4 : ¬ h = 0 := fun z => c_4 ((nI_eq (a := h) (b := 0) (by omega) (by omega)).mpr z)
      refine lv_aload_n hx hb dX5_pace_25 rfl (lv_at hl 0 rfl) ?_
      refine va_get (D := D) (ci := 5) (v := .int pc) (C := RX5) (T := TX5) (N := 30) hx hb hts hin5 hown hK.1 hP 0 rfl rfl 3 (by decide) (hts _ (List.mem_of_getElem? (i := 3) rfl)) (fun _ h9 => h9) rfl dX5_pace_26 ?_
      refine lv_istore_n (lv' := [(2, .int pc), (0, .ref (b 0)), (1, .int v)]) hx hb dX5_pace_29 rfl hl (by decide) rfl (fun ls hl => ?_)
      refine lv_aload_n hx hb dX5_pace_30 rfl (lv_at hl 1 rfl) ?_
      refine lv_iload_n hx hb dX5_pace_31 rfl (lv_at hl 2 rfl) ?_
      refine va_put (D := D) (ci := 5) (v := .int v) (ty := .int) (C := RX5) (T := TX5) (N := 30) hx hb hts hin5 tyX5 tyX5_ok nmX5 hown hK.1 hP hD hS 0 rfl rfl 3 (by decide) (hts _ (List.mem_of_getElem? (i := 3) rfl)) (fun _ h9 => h9) rfl (by decide +kernel) rfl rfl (Nat.le_of_ble_eq_true rfl) dX5_pace_32 (fun H locs hP hD hS => ?_)
      have hP : va_P D vwCl [(b 0, .inr (5, [.int fa, .int (nI h), .int (nI w), .int v, .int br, .ref (b 1), .ref (b 2), .int ra, .int q1, .int q2, .int q3, .int q4, .ref (b 3), .int fw, .int ea, .int sn, .ref (b 4), .ref (b 5), .ref (b 6), .int mo, .int (nI rc), .ref (b 7), .ref (b 8), .ref (b 9), .ref (b 10), .ref (b 11), .ref (b 12), .ref (b 13), .ref (b 14), .int tr]))] H := hP
      have hD : va_D A [(b 0, .inr (5, [.int fa, .int (nI h), .int (nI w), .int v, .int br, .ref (b 1), .ref (b 2), .int ra, .int q1, .int q2, .int q3, .int q4, .ref (b 3), .int fw, .int ea, .int sn, .ref (b 4), .ref (b 5), .ref (b 6), .int mo, .int (nI rc), .ref (b 7), .ref (b 8), .ref (b 9), .ref (b 10), .ref (b 11), .ref (b 12), .ref (b 13), .ref (b 14), .int tr]))] := hD
      refine lv_iload_n hx hb dX5_pace_35 rfl (lv_at hl 0 rfl) ?_
      refine mi_ret (v := pc) hx hb hr hlk hP hD hS dX5_pace_36 ?_
      rw [show paE h pc v 3 = _ from by rw [paE, if_pos ⟨c_3, c_4⟩]]
      refine ⟨?_, rfl⟩
      rw [paR, if_pos c_3, if_neg c_4] <;> rfl
    · have c_4 : h = 0 := (nI_eq (a := h) (b := 0) (by omega) (by omega)).mp c_4
      refine lv_bipush (v := (-3)) hx hb dX5_pace_22 (by decide) ?_
      refine mi_ret (v := (-3)) hx hb hr hlk hP hD hS dX5_pace_24 ?_
      rw [show paE h pc v 3 = _ from by rw [paE, if_neg (fun z => (fun z => z c_4) z.2)]]
      refine ⟨?_, rfl⟩
      rw [paR, if_pos c_3, if_pos c_4] <;> rfl
  · have c_3 := b2_f c_3
    refine lv_bipush (v := (-2)) hx hb dX5_pace_12 (by decide) ?_
    refine mi_ret (v := (-2)) hx hb hr hlk hP hD hS dX5_pace_14 ?_
    rw [show paE h pc v 3 = _ from by rw [paE, if_neg (fun z => c_3 z.1)]]
    refine ⟨?_, rfl⟩
    rw [paR, if_neg c_3] <;> rfl
theorem iwX5_breadth_X5 : ∀ x ∈ wsX50, x ∈ wsX5_breadth := by decide +kernel
set_option maxRecDepth 100000 in
set_option maxHeartbeats 4000000 in
/-- X5_breadth -/
theorem c_X5_breadth (l : Launch) (D : va_G) (cI cJ cO : ClassId) (b : Nat → Nat) (fa : Int32) (h : Nat) (w : Nat) (pc : Int32) (br : Int32) (ra : Int32) (q1 : Int32) (q2 : Int32) (q3 : Int32) (q4 : Int32) (fw : Int32) (ea : Int32) (sn : Int32) (mo : Int32) (rc : Nat) (tr : Int32) (v : Int32) (hh : h ≤ 4) : MG l yX5_breadth wsX5_breadth 1 25 0 0 D [(cI, .int), (cJ, .long), (cO, .object "ShornHill$Sheet")] [.ref (b 0), .int v] [(b 0, .inr (5, [.int fa, .int (nI h), .int (nI w), .int pc, .int br, .ref (b 1), .ref (b 2), .int ra, .int q1, .int q2, .int q3, .int q4, .ref (b 3), .int fw, .int ea, .int sn, .ref (b 4), .ref (b 5), .ref (b 6), .int mo, .int (nI rc), .ref (b 7), .ref (b 8), .ref (b 9), .ref (b 10), .ref (b 11), .ref (b 12), .ref (b 13), .ref (b 14), .int tr]))] (QI D (fun (r : Int32) (w1 : va_W) => r = (paR h br v 9) ∧ w1 = [(b 0, .inr (5, [.int fa, .int (nI h), .int (nI w), .int pc, .int (paE h br v 9), .ref (b 1), .ref (b 2), .int ra, .int q1, .int q2, .int q3, .int q4, .ref (b 3), .int fw, .int ea, .int sn, .ref (b 4), .ref (b 5), .ref (b 6), .int mo, .int (nI rc), .ref (b 7), .ref (b 8), .ref (b 9), .ref (b 10), .ref (b 11), .ref (b 12), .ref (b 13), .ref (b 14), .int tr]))])) := by
  refine MG.of (cc := cX5_breadth) (maxL := 3) (ret := (some .int)) (by decide) rfl (Nat.le_of_ble_eq_true rfl) ?_
  intro P_ E_ S_ M_ B_ T_ K_ hx hb hml hr hts hown hlk hnm A hA hP hK hD hS ls hl
  have hl : lv_has ls 3 [(0, .ref (b 0)), (1, .int v)] := hl
  have hin5 : ∀ x ∈ u_ws RX5 TX5 30, x ∈ wsX5_breadth := iwX5_breadth_X5
  refine lv_iload_n hx hb dX5_breadth_0 rfl (lv_at hl 1 rfl) ?_
  refine lv_i2l (v := v.toInt64) hx hb dX5_breadth_1 rfl ?_
  refine lv_lconst (v := 1) hx hb dX5_breadth_2 (by decide) ?_
  refine lv_ldc2 (v := 9) hx hb hown (hts _ (List.mem_of_getElem? (i := 1) rfl)) dX5_breadth_3 ?_
  refine k_ri (run_RS (As := [.long v.toInt64, .long 1, .long 9]) (rest := []) ⟨hx, hb, hml, hown, hts⟩ (c_X5_in l D cI cJ cO v.toInt64 1 9) (va_cwS 3 hts gX5_breadth_X5_in rfl rfl rfl (by decide +kernel) ⟨Nat.le_of_ble_eq_true rfl, Nat.le_of_ble_eq_true rfl⟩) hP hK [] rfl rfl hl.1 rfl (Nat.le_of_ble_eq_true rfl) dX5_breadth_6 ⟨Nat.le_refl _, Nat.le_refl _⟩) (fun r_1 q_2 => ?_)
  obtain rfl := q_2
  refine k_top (y := (b2 (btw v 1 9))) (b2_cong (in_bt rfl rfl)) ?_
  refine lv_if_ne (tgt := 15) hx hb dX5_breadth_9 (by decide) (fun c_3 => ?_) (fun c_3 => ?_)
  · have c_3 := b2_t c_3
    refine lv_aload_n hx hb dX5_breadth_15 rfl (lv_at hl 0 rfl) ?_
    refine va_get (D := D) (ci := 5) (v := .int (nI h)) (C := RX5) (T := TX5) (N := 30) hx hb hts hin5 hown hK.1 hP 0 rfl rfl 1 (by decide) (hts _ (List.mem_of_getElem? (i := 2) rfl)) (fun _ h9 => h9) rfl dX5_breadth_16 ?_
    refine lv_if_ne (tgt := 25) hx hb dX5_breadth_19 (by decide) (fun c_4 => ?_) (fun c_4 => ?_)
    · have c_4 : ¬ h = 0 := fun z => c_4 ((nI_eq (a := h) (b := 0) (by omega) (by omega)).mpr z)
      refine lv_aload_n hx hb dX5_breadth_25 rfl (lv_at hl 0 rfl) ?_
      refine va_get (D := D) (ci := 5) (v := .int br) (C := RX5) (T := TX5) (N := 30) hx hb hts hin5 hown hK.1 hP 0 rfl rfl 4 (by decide) (hts _ (List.mem_of_getElem? (i := 3) rfl)) (fun _ h9 => h9) rfl dX5_breadth_26 ?_
      refine lv_istore_n (lv' := [(2, .int br), (0, .ref (b 0)), (1, .int v)]) hx hb dX5_breadth_29 rfl hl (by decide) rfl (fun ls hl => ?_)
      refine lv_aload_n hx hb dX5_breadth_30 rfl (lv_at hl 1 rfl) ?_
      refine lv_iload_n hx hb dX5_breadth_31 rfl (lv_at hl 2 rfl) ?_
      refine va_put (D := D) (ci := 5) (v := .int v) (ty := .int) (C := RX5) (T := TX5) (N := 30) hx hb hts hin5 tyX5 tyX5_ok nmX5 hown hK.1 hP hD hS 0 rfl rfl 4 (by decide) (hts _ (List.mem_of_getElem? (i := 3) rfl)) (fun _ h9 => h9) rfl (by decide +kernel) rfl rfl (Nat.le_of_ble_eq_true rfl) dX5_breadth_32 (fun H locs hP hD hS => ?_)
      have hP : va_P D vwCl [(b 0, .inr (5, [.int fa, .int (nI h), .int (nI w), .int pc, .int v, .ref (b 1), .ref (b 2), .int ra, .int q1, .int q2, .int q3, .int q4, .ref (b 3), .int fw, .int ea, .int sn, .ref (b 4), .ref (b 5), .ref (b 6), .int mo, .int (nI rc), .ref (b 7), .ref (b 8), .ref (b 9), .ref (b 10), .ref (b 11), .ref (b 12), .ref (b 13), .ref (b 14), .int tr]))] H := hP
      have hD : va_D A [(b 0, .inr (5, [.int fa, .int (nI h), .int (nI w), .int pc, .int v, .ref (b 1), .ref (b 2), .int ra, .int q1, .int q2, .int q3, .int q4, .ref (b 3), .int fw, .int ea, .int sn, .ref (b 4), .ref (b 5), .ref (b 6), .int mo, .int (nI rc), .ref (b 7), .ref (b 8), .ref (b 9), .ref (b 10), .ref (b 11), .ref (b 12), .ref (b 13), .ref (b 14), .int tr]))] := hD
      refine lv_iload_n hx hb dX5_breadth_35 rfl (lv_at hl 0 rfl) ?_
      refine mi_ret (v := br) hx hb hr hlk hP hD hS dX5_breadth_36 ?_
      rw [show paE h br v 9 = _ from by rw [paE, if_pos ⟨c_3, c_4⟩]]
      refine ⟨?_, rfl⟩
      rw [paR, if_pos c_3, if_neg c_4] <;> rfl
    · have c_4 : h = 0 := (nI_eq (a := h) (b := 0) (by omega) (by omega)).mp c_4
      refine lv_bipush (v := (-3)) hx hb dX5_breadth_22 (by decide) ?_
      refine mi_ret (v := (-3)) hx hb hr hlk hP hD hS dX5_breadth_24 ?_
      rw [show paE h br v 9 = _ from by rw [paE, if_neg (fun z => (fun z => z c_4) z.2)]]
      refine ⟨?_, rfl⟩
      rw [paR, if_pos c_3, if_pos c_4] <;> rfl
  · have c_3 := b2_f c_3
    refine lv_bipush (v := (-2)) hx hb dX5_breadth_12 (by decide) ?_
    refine mi_ret (v := (-2)) hx hb hr hlk hP hD hS dX5_breadth_14 ?_
    rw [show paE h br v 9 = _ from by rw [paE, if_neg (fun z => c_3 z.1)]]
    refine ⟨?_, rfl⟩
    rw [paR, if_neg c_3] <;> rfl
set_option maxRecDepth 100000 in
set_option maxHeartbeats 4000000 in
/-- X5_coat -/
theorem c_X5_coat (l : Launch) (D : va_G) (cI cJ cO : ClassId) (b : Nat → Nat) (fa : Int32) (h : Nat) (w : Nat) (pc : Int32) (br : Int32) (ra : Int32) (q1 : Int32) (q2 : Int32) (q3 : Int32) (q4 : Int32) (fw : Int32) (ea : Int32) (sn : Int32) (mo : Int32) (rc : Nat) (tr : Int32) (kd : Nat → Int32) (et : Nat → Int32) (c : Int32) (ws : Int32) (hn : h * w ≤ 16) (hkd : ∀ k, k < 16 → kdOk (kd k)) (het : ∀ k, k < 16 → etOk (et k)) : RG l yX5_coat wsX5_coat 2 46 D [(cI, .int), (cJ, .long), (cO, .object "ShornHill$Sheet")] [.ref (b 0), .int c, .int ws] [(b 0, .inr (5, [.int fa, .int (nI h), .int (nI w), .int pc, .int br, .ref (b 1), .ref (b 2), .int ra, .int q1, .int q2, .int q3, .int q4, .ref (b 3), .int fw, .int ea, .int sn, .ref (b 4), .ref (b 5), .ref (b 6), .int mo, .int (nI rc), .ref (b 7), .ref (b 8), .ref (b 9), .ref (b 10), .ref (b 11), .ref (b 12), .ref (b 13), .ref (b 14), .int tr])), (b 1, .inl (cI, 16, .inl kd)), (b 2, .inl (cI, 16, .inl et))] (vp_Si (fun (r : Int32) => r = (coR (h * w) pc kd et c ws))) := by
  refine RG.of (cc := cX5_coat) (maxL := 3) (ret := (some .int)) (by decide) rfl (Nat.le_of_ble_eq_true rfl) ?_
  intro P_ E_ S_ M_ B_ T_ K_ hx hb hml hr hts hown hlk hP hK ls hl
  have hl : lv_has ls 3 [(0, .ref (b 0)), (1, .int c), (2, .int ws)] := hl
  refine lv_aload_n hx hb dX5_coat_0 rfl (lv_at hl 0 rfl) ?_
  refine lv_iload_n hx hb dX5_coat_1 rfl (lv_at hl 1 rfl) ?_
  refine k_ri (run_RV (As := [.int c]) (rest := []) ⟨hx, hb, hml, hown, hts⟩ (c_X5_noPlace l D cI cJ cO b fa h w pc br ra q1 q2 q3 q4 fw ea sn mo rc tr c hn) (cwV 1 hts gX5_coat_X5_noPlace rfl rfl rfl (by decide +kernel) ⟨Nat.le_of_ble_eq_true rfl, Nat.le_of_ble_eq_true rfl⟩) hP hK [0] rfl rfl rfl rfl rfl hl.1 rfl (Nat.le_of_ble_eq_true rfl) dX5_coat_2 ⟨Nat.le_refl _, Nat.le_refl _⟩) (fun r_1 q_2 => ?_)
  obtain rfl := q_2
  refine lv_if_eq (tgt := 10) hx hb dX5_coat_5 (by decide) (fun c_3 => ?_) (fun c_3 => ?_)
  · have c_3 := Decidable.not_not.mp (b2_f c_3)
    refine lv_iload_n hx hb dX5_coat_10 rfl (lv_at hl 2 rfl) ?_
    refine k_ri (run_RS (As := [.int ws]) (rest := []) ⟨hx, hb, hml, hown, hts⟩ (c_X5_noWeeks l D cI cJ cO ws) (va_cwS 1 hts gX5_coat_X5_noWeeks rfl rfl rfl (by decide +kernel) ⟨Nat.le_of_ble_eq_true rfl, Nat.le_of_ble_eq_true rfl⟩) hP hK [] rfl rfl hl.1 rfl (Nat.le_of_ble_eq_true rfl) dX5_coat_11 ⟨Nat.le_refl _, Nat.le_refl _⟩) (fun r_4 q_5 => ?_)
    obtain rfl := q_5
    refine lv_if_eq (tgt := 22) hx hb dX5_coat_14 (by decide) (fun c_6 => ?_) (fun c_6 => ?_)
    · have c_6 := Decidable.not_not.mp (b2_f c_6)
      refine lv_aload_n hx hb dX5_coat_22 rfl (lv_at hl 0 rfl) ?_
      refine lv_iload_n hx hb dX5_coat_23 rfl (lv_at hl 1 rfl) ?_
      refine lv_iload_n hx hb dX5_coat_24 rfl (lv_at hl 2 rfl) ?_
      refine k_ri (run_RV (As := [.int c, .int ws]) (rest := []) ⟨hx, hb, hml, hown, hts⟩ (c_X5_coatOf l D cI cJ cO b fa h w pc br ra q1 q2 q3 q4 fw ea sn mo rc tr kd et c ws c.toNatClampNeg (hkd _ (by have := (show inN c (h * w) by assumption).lt; omega)) (het _ (by have := (show inN c (h * w) by assumption).lt; omega)) (inN.vp c_3 (by omega)) rfl) (cwV 2 hts gX5_coat_X5_coatOf rfl rfl rfl (by decide +kernel) ⟨Nat.le_of_ble_eq_true rfl, Nat.le_of_ble_eq_true rfl⟩) hP hK [0, 1, 2] rfl rfl rfl rfl rfl hl.1 rfl (Nat.le_of_ble_eq_true rfl) dX5_coat_25 ⟨Nat.le_refl _, Nat.le_refl _⟩) (fun r_7 q_8 => ?_)
      obtain rfl := q_8
      refine ri_ret (v := (cv (kd c.toNatClampNeg) pc (et c.toNatClampNeg) ws)) hx hb hr hlk dX5_coat_28 ?_
      rw [coR, if_pos c_3, if_pos c_6] <;> rfl
    · have c_6 := b2_t c_6
      refine lv_bipush (v := (-2)) hx hb dX5_coat_17 (by decide) ?_
      refine lv_goto (tgt := 28) hx hb dX5_coat_19 (by decide) ?_
      refine ri_ret (v := (-2)) hx hb hr hlk dX5_coat_28 ?_
      rw [coR, if_pos c_3, if_neg c_6] <;> rfl
  · have c_3 := b2_t c_3
    refine lv_iconst (v := (-1)) hx hb dX5_coat_8 (by decide) ?_
    refine ri_ret (v := (-1)) hx hb hr hlk dX5_coat_9 ?_
    rw [coR, if_neg c_3] <;> rfl
theorem iwX5_ripe_X5 : ∀ x ∈ wsX50, x ∈ wsX5_ripe := by decide +kernel
set_option maxRecDepth 100000 in
set_option maxHeartbeats 4000000 in
/-- X5_ripe -/
theorem c_X5_ripe (l : Launch) (D : va_G) (cI cJ cO : ClassId) (b : Nat → Nat) (fa : Int32) (h : Nat) (w : Nat) (pc : Int32) (br : Int32) (ra : Int32) (q1 : Int32) (q2 : Int32) (q3 : Int32) (q4 : Int32) (fw : Int32) (ea : Int32) (sn : Int32) (mo : Int32) (rc : Nat) (tr : Int32) (kd : Nat → Int32) (et : Nat → Int32) (ws : Int32) (hn : h * w ≤ 16) (hh : h ≤ 4) (hkd : ∀ k, k < 16 → kdOk (kd k)) (het : ∀ k, k < 16 → etOk (et k)) (hbr : 0 < h * w → 1 ≤ br.toInt) : RG l yX5_ripe wsX5_ripe 3 68 D [(cI, .int), (cJ, .long), (cO, .object "ShornHill$Sheet")] [.ref (b 0), .int ws] [(b 0, .inr (5, [.int fa, .int (nI h), .int (nI w), .int pc, .int br, .ref (b 1), .ref (b 2), .int ra, .int q1, .int q2, .int q3, .int q4, .ref (b 3), .int fw, .int ea, .int sn, .ref (b 4), .ref (b 5), .ref (b 6), .int mo, .int (nI rc), .ref (b 7), .ref (b 8), .ref (b 9), .ref (b 10), .ref (b 11), .ref (b 12), .ref (b 13), .ref (b 14), .int tr])), (b 1, .inl (cI, 16, .inl kd)), (b 2, .inl (cI, 16, .inl et))] (vp_Si (fun (r : Int32) => r = (riR h (h * w) pc br kd et ws))) := by
  refine RG.of (cc := cX5_ripe) (maxL := 2) (ret := (some .int)) (by decide) rfl (Nat.le_of_ble_eq_true rfl) ?_
  intro P_ E_ S_ M_ B_ T_ K_ hx hb hml hr hts hown hlk hP hK ls hl
  have hl : lv_has ls 2 [(0, .ref (b 0)), (1, .int ws)] := hl
  have hin5 : ∀ x ∈ u_ws RX5 TX5 30, x ∈ wsX5_ripe := iwX5_ripe_X5
  refine lv_aload_n hx hb dX5_ripe_0 rfl (lv_at hl 0 rfl) ?_
  refine va_get (D := D) (ci := 5) (v := .int (nI h)) (C := RX5) (T := TX5) (N := 30) hx hb hts hin5 hown hK.1 hP 0 rfl rfl 1 (by decide) (hts _ (List.mem_of_getElem? (i := 1) rfl)) (fun _ h9 => h9) rfl dX5_ripe_1 ?_
  refine lv_if_ne (tgt := 10) hx hb dX5_ripe_4 (by decide) (fun c_1 => ?_) (fun c_1 => ?_)
  · have c_1 : ¬ h = 0 := fun z => c_1 ((nI_eq (a := h) (b := 0) (by omega) (by omega)).mpr z)
    refine lv_iload_n hx hb dX5_ripe_10 rfl (lv_at hl 1 rfl) ?_
    refine k_ri (run_RS (As := [.int ws]) (rest := []) ⟨hx, hb, hml, hown, hts⟩ (c_X5_noWeeks l D cI cJ cO ws) (va_cwS 1 hts gX5_ripe_X5_noWeeks rfl rfl rfl (by decide +kernel) ⟨Nat.le_of_ble_eq_true rfl, Nat.le_of_ble_eq_true rfl⟩) hP hK [] rfl rfl hl.1 rfl (Nat.le_of_ble_eq_true rfl) dX5_ripe_11 ⟨Nat.le_refl _, Nat.le_refl _⟩) (fun r_2 q_3 => ?_)
    obtain rfl := q_3
    refine lv_if_eq (tgt := 22) hx hb dX5_ripe_14 (by decide) (fun c_4 => ?_) (fun c_4 => ?_)
    · have c_4 := Decidable.not_not.mp (b2_f c_4)
      refine lv_aload_n hx hb dX5_ripe_22 rfl (lv_at hl 0 rfl) ?_
      refine lv_iload_n hx hb dX5_ripe_23 rfl (lv_at hl 1 rfl) ?_
      refine k_ri (run_RV (As := [.int ws]) (rest := []) ⟨hx, hb, hml, hown, hts⟩ (c_X5_ripeBy l D cI cJ cO b fa h w pc br ra q1 q2 q3 q4 fw ea sn mo rc tr kd et ws hn hkd het hbr) (cwV 1 hts gX5_ripe_X5_ripeBy rfl rfl rfl (by decide +kernel) ⟨Nat.le_of_ble_eq_true rfl, Nat.le_of_ble_eq_true rfl⟩) hP hK [0, 1, 2] rfl rfl rfl rfl rfl hl.1 rfl (Nat.le_of_ble_eq_true rfl) dX5_ripe_24 ⟨Nat.le_refl _, Nat.le_refl _⟩) (fun r_5 q_6 => ?_)
      obtain rfl := q_6
      refine ri_ret (v := (ripS pc br kd et ws (h * w))) hx hb hr hlk dX5_ripe_27 ?_
      rw [riR, if_neg c_1, if_pos c_4] <;> rfl
    · have c_4 := b2_t c_4
      refine lv_bipush (v := (-2)) hx hb dX5_ripe_17 (by decide) ?_
      refine lv_goto (tgt := 27) hx hb dX5_ripe_19 (by decide) ?_
      refine ri_ret (v := (-2)) hx hb hr hlk dX5_ripe_27 ?_
      rw [riR, if_neg c_1, if_neg c_4] <;> rfl
  · have c_1 : h = 0 := (nI_eq (a := h) (b := 0) (by omega) (by omega)).mp c_1
    refine lv_bipush (v := (-3)) hx hb dX5_ripe_7 (by decide) ?_
    refine ri_ret (v := (-3)) hx hb hr hlk dX5_ripe_9 ?_
    rw [riR, if_pos c_1] <;> rfl
