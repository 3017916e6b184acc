set_option maxRecDepth 100000 in
set_option maxHeartbeats 4000000 in
/-- X5_noPlace -/
theorem c_X5_noPlace (l : Launch) (D : va_G) (cI cJ cO : ClassId) (b : Nat → Nat) (fa : Int32) (h : Nat) (w : Nat) (pc : Int32) (br : Int32) (ra : Int32) (q1 : Int32) (q2 : Int32) (q3 : Int32) (q4 : Int32) (fw : Int32) (ea : Int32) (sn : Int32) (mo : Int32) (rc : Nat) (tr : Int32) (v : Int32) (hn : h * w ≤ 16) : RG l yX5_noPlace wsX5_noPlace 1 25 D [(cI, .int), (cJ, .long), (cO, .object "ShornHill$Sheet")] [.ref (b 0), .int v] [(b 0, .inr (5, [.int fa, .int (nI h), .int (nI w), .int pc, .int br, .ref (b 1), .ref (b 2), .int ra, .int q1, .int q2, .int q3, .int q4, .ref (b 3), .int fw, .int ea, .int sn, .ref (b 4), .ref (b 5), .ref (b 6), .int mo, .int (nI rc), .ref (b 7), .ref (b 8), .ref (b 9), .ref (b 10), .ref (b 11), .ref (b 12), .ref (b 13), .ref (b 14), .int tr]))] (vp_Si (fun (r : Int32) => r = (b2 (¬ inN v (h * w))))) := by
  refine RG.of (cc := cX5_noPlace) (maxL := 2) (ret := (some .boolean)) (by decide) rfl (Nat.le_of_ble_eq_true rfl) ?_
  intro P_ E_ S_ M_ B_ T_ K_ hx hb hml hr hts hown hlk hP hK ls hl
  have hl : lv_has ls 2 [(0, .ref (b 0)), (1, .int v)] := hl
  refine lv_iload_n hx hb dX5_noPlace_0 rfl (lv_at hl 1 rfl) ?_
  refine lv_i2l (v := v.toInt64) hx hb dX5_noPlace_1 rfl ?_
  refine lv_lconst (v := 0) hx hb dX5_noPlace_2 (by decide) ?_
  refine lv_aload_n hx hb dX5_noPlace_3 rfl (lv_at hl 0 rfl) ?_
  refine k_ri (run_RV (As := []) (rest := [.long 0, .long v.toInt64]) ⟨hx, hb, hml, hown, hts⟩ (c_X5_cells l D cI cJ cO b fa h w pc br ra q1 q2 q3 q4 fw ea sn mo rc tr) (cwV 0 hts gX5_noPlace_X5_cells rfl rfl rfl (by decide +kernel) ⟨Nat.le_of_ble_eq_true rfl, Nat.le_of_ble_eq_true rfl⟩) hP hK [0] rfl rfl rfl rfl rfl hl.1 rfl (Nat.le_of_ble_eq_true rfl) dX5_noPlace_4 ⟨Nat.le_refl _, Nat.le_refl _⟩) (fun r_1 q_2 => ?_)
  obtain rfl := q_2
  refine lv_i2l (v := (nI (h * w)).toInt64) hx hb dX5_noPlace_7 rfl ?_
  refine lv_lconst (v := 1) hx hb dX5_noPlace_8 (by decide) ?_
  refine lv_lsub hx hb dX5_noPlace_9 ?_
  refine k_ri (run_RS (As := [.long v.toInt64, .long 0, .long (((nI (h * w)).toInt64) - 1)]) (rest := []) ⟨hx, hb, hml, hown, hts⟩ (c_X5_in l D cI cJ cO v.toInt64 0 (((nI (h * w)).toInt64) - 1)) (va_cwS 3 hts gX5_noPlace_X5_in rfl rfl rfl (by decide +kernel) ⟨Nat.le_of_ble_eq_true rfl, Nat.le_of_ble_eq_true rfl⟩) hP hK [] rfl rfl hl.1 rfl (Nat.le_of_ble_eq_true rfl) dX5_noPlace_10 ⟨Nat.le_refl _, Nat.le_refl _⟩) (fun r_3 q_4 => ?_)
  obtain rfl := q_4
  refine k_top (y := (b2 (inN v (h * w)))) (b2_cong (in_long (by omega))) ?_
  refine lv_if_ne (tgt := 20) hx hb dX5_noPlace_13 (by decide) (fun c_5 => ?_) (fun c_5 => ?_)
  · have c_5 := b2_t c_5
    refine lv_iconst (v := 0) hx hb dX5_noPlace_20 (by decide) ?_
    refine rz_ret (v := 0) hx hb hr hlk dX5_noPlace_21 (by decide) ?_
    exact b2_0 (fun z => z c_5)
  · have c_5 := b2_f c_5
    refine lv_iconst (v := 1) hx hb dX5_noPlace_16 (by decide) ?_
    refine lv_goto (tgt := 21) hx hb dX5_noPlace_17 (by decide) ?_
    refine rz_ret (v := 1) hx hb hr hlk dX5_noPlace_21 (by decide) ?_
    exact b2_1 c_5
theorem iwX5_noGrass_X5 : ∀ x ∈ wsX50, x ∈ wsX5_noGrass := by decide +kernel
set_option maxRecDepth 100000 in
set_option maxHeartbeats 4000000 in
/-- X5_noGrass -/
theorem c_X5_noGrass (l : Launch) (D : va_G) (cI cJ cO : ClassId) (b : Nat → Nat) (fa : Int32) (h : Nat) (w : Nat) (pc : Int32) (br : Int32) (ra : Int32) (q1 : Int32) (q2 : Int32) (q3 : Int32) (q4 : Int32) (fw : Int32) (ea : Int32) (sn : Int32) (mo : Int32) (rc : Nat) (tr : Int32) (kd : Nat → Int32) (v : Int32) (hn : h * w ≤ 16) : RG l yX5_noGrass wsX5_noGrass 2 46 D [(cI, .int), (cJ, .long), (cO, .object "ShornHill$Sheet")] [.ref (b 0), .int v] [(b 0, .inr (5, [.int fa, .int (nI h), .int (nI w), .int pc, .int br, .ref (b 1), .ref (b 2), .int ra, .int q1, .int q2, .int q3, .int q4, .ref (b 3), .int fw, .int ea, .int sn, .ref (b 4), .ref (b 5), .ref (b 6), .int mo, .int (nI rc), .ref (b 7), .ref (b 8), .ref (b 9), .ref (b 10), .ref (b 11), .ref (b 12), .ref (b 13), .ref (b 14), .int tr])), (b 1, .inl (cI, 16, .inl kd))] (vp_Si (fun (r : Int32) => r = (b2 (¬ softP (h * w) kd v)))) := by
  refine RG.of (cc := cX5_noGrass) (maxL := 2) (ret := (some .boolean)) (by decide) rfl (Nat.le_of_ble_eq_true rfl) ?_
  intro P_ E_ S_ M_ B_ T_ K_ hx hb hml hr hts hown hlk hP hK ls hl
  have hl : lv_has ls 2 [(0, .ref (b 0)), (1, .int v)] := hl
  have hin5 : ∀ x ∈ u_ws RX5 TX5 30, x ∈ wsX5_noGrass := iwX5_noGrass_X5
  refine lv_aload_n hx hb dX5_noGrass_0 rfl (lv_at hl 0 rfl) ?_
  refine lv_iload_n hx hb dX5_noGrass_1 rfl (lv_at hl 1 rfl) ?_
  refine k_ri (run_RV (As := [.int v]) (rest := []) ⟨hx, hb, hml, hown, hts⟩ (c_X5_noPlace l D cI cJ cO b fa h w pc br ra q1 q2 q3 q4 fw ea sn mo rc tr v hn) (cwV 1 hts gX5_noGrass_X5_noPlace rfl rfl rfl (by decide +kernel) ⟨Nat.le_of_ble_eq_true rfl, Nat.le_of_ble_eq_true rfl⟩) hP hK [0] rfl rfl rfl rfl rfl hl.1 rfl (Nat.le_of_ble_eq_true rfl) dX5_noGrass_2 ⟨Nat.le_refl _, Nat.le_refl _⟩) (fun r_1 q_2 => ?_)
  obtain rfl := q_2
  refine lv_if_ne (tgt := 18) hx hb dX5_noGrass_5 (by decide) (fun c_3 => ?_) (fun c_3 => ?_)
  · have c_3 := b2_t c_3
    refine lv_iconst (v := 1) hx hb dX5_noGrass_18 (by decide) ?_
    refine lv_goto (tgt := 23) hx hb dX5_noGrass_19 (by decide) ?_
    refine rz_ret (v := 1) hx hb hr hlk dX5_noGrass_23 (by decide) ?_
    exact b2_1 (fun z => c_3 z.1)
  · have c_3 := Decidable.not_not.mp (b2_f c_3)
    have hv := c_3
    refine lv_aload_n hx hb dX5_noGrass_8 rfl (lv_at hl 0 rfl) ?_
    refine va_get (D := D) (ci := 5) (v := .ref (b 1)) (C := RX5) (T := TX5) (N := 30) hx hb hts hin5 hown hK.1 hP 0 rfl rfl 5 (by decide) (hts _ (List.mem_of_getElem? (i := 1) rfl)) (fun _ h9 => h9) rfl dX5_noGrass_9 ?_
    refine lv_iload_n hx hb dX5_noGrass_12 rfl (lv_at hl 1 rfl) ?_
    refine k_iald hx hb hK hP 1 0 rfl rfl (j := v.toNatClampNeg) (inN.vp hv (by omega)) rfl dX5_noGrass_13 ?_
    refine lv_iconst (v := 3) hx hb dX5_noGrass_14 (by decide) ?_
    refine lv_icmp_ne (tgt := 22) hx hb dX5_noGrass_15 (by decide) (fun c_4 => ?_) (fun c_4 => ?_)
    · refine lv_iconst (v := 0) hx hb dX5_noGrass_22 (by decide) ?_
      refine rz_ret (v := 0) hx hb hr hlk dX5_noGrass_23 (by decide) ?_
      exact b2_0 (fun z => z ⟨c_3, c_4⟩)
    · refine lv_iconst (v := 1) hx hb dX5_noGrass_18 (by decide) ?_
      refine lv_goto (tgt := 23) hx hb dX5_noGrass_19 (by decide) ?_
      refine rz_ret (v := 1) hx hb hr hlk dX5_noGrass_23 (by decide) ?_
      exact b2_1 (fun z => z.2 c_4)
theorem iwX5_growsOf_X5 : ∀ x ∈ wsX50, x ∈ wsX5_growsOf := by decide +kernel
set_option maxRecDepth 100000 in
set_option maxHeartbeats 4000000 in
/-- X5_growsOf -/
theorem c_X5_growsOf (l : Launch) (D : va_G) (cI cJ cO : ClassId) (b : Nat → Nat) (fa : Int32) (h : Nat) (w : Nat) (pc : Int32) (br : Int32) (ra : Int32) (q1 : Int32) (q2 : Int32) (q3 : Int32) (q4 : Int32) (fw : Int32) (ea : Int32) (sn : Int32) (mo : Int32) (rc : Nat) (tr : Int32) (kd : Nat → Int32) (c : Int32) (j : Nat) (hk : kdOk (kd j)) (hv_c : vp_in c 16) (hj_c : c.toNatClampNeg = j) : RG l yX5_growsOf wsX5_growsOf 0 0 D [(cI, .int), (cJ, .long), (cO, .object "ShornHill$Sheet")] [.ref (b 0), .int c] [(b 0, .inr (5, [.int fa, .int (nI h), .int (nI w), .int pc, .int br, .ref (b 1), .ref (b 2), .int ra, .int q1, .int q2, .int q3, .int q4, .ref (b 3), .int fw, .int ea, .int sn, .ref (b 4), .ref (b 5), .ref (b 6), .int mo, .int (nI rc), .ref (b 7), .ref (b 8), .ref (b 9), .ref (b 10), .ref (b 11), .ref (b 12), .ref (b 13), .ref (b 14), .int tr])), (b 1, .inl (cI, 16, .inl kd))] (vp_Si (fun (r : Int32) => r = (wk (kd j) pc))) := by
  refine RG.of (cc := cX5_growsOf) (maxL := 3) (ret := (some .int)) (by decide) rfl (Nat.le_of_ble_eq_true rfl) ?_
  intro P_ E_ S_ M_ B_ T_ K_ hx hb hml hr hts hown hlk hP hK ls hl
  have hl : lv_has ls 3 [(0, .ref (b 0)), (1, .int c)] := hl
  have hin5 : ∀ x ∈ u_ws RX5 TX5 30, x ∈ wsX5_growsOf := iwX5_growsOf_X5
  refine lv_aload_n hx hb dX5_growsOf_0 rfl (lv_at hl 0 rfl) ?_
  refine va_get (D := D) (ci := 5) (v := .ref (b 1)) (C := RX5) (T := TX5) (N := 30) hx hb hts hin5 hown hK.1 hP 0 rfl rfl 5 (by decide) (hts _ (List.mem_of_getElem? (i := 1) rfl)) (fun _ h9 => h9) rfl dX5_growsOf_1 ?_
  refine lv_iload_n hx hb dX5_growsOf_4 rfl (lv_at hl 1 rfl) ?_
  refine k_iald hx hb hK hP 1 0 rfl rfl (j := j) hv_c hj_c dX5_growsOf_5 ?_
  refine lv_istore_n (lv' := [(2, .int (kd j)), (0, .ref (b 0)), (1, .int c)]) hx hb dX5_growsOf_6 rfl hl (by decide) rfl (fun ls hl => ?_)
  refine lv_iload_n hx hb dX5_growsOf_7 rfl (lv_at hl 0 rfl) ?_
  refine lv_iconst (v := 3) hx hb dX5_growsOf_8 (by decide) ?_
  refine lv_icmp_ne (tgt := 16) hx hb dX5_growsOf_9 (by decide) (fun c_1 => ?_) (fun c_1 => ?_)
  · refine lv_iload_n hx hb dX5_growsOf_16 rfl (lv_at hl 0 rfl) ?_
    refine lv_if_ne (tgt := 27) hx hb dX5_growsOf_17 (by decide) (fun c_2 => ?_) (fun c_2 => ?_)
    · refine lv_iload_n hx hb dX5_growsOf_27 rfl (lv_at hl 0 rfl) ?_
      refine lv_iconst (v := 1) hx hb dX5_growsOf_28 (by decide) ?_
      refine lv_icmp_ne (tgt := 41) hx hb dX5_growsOf_29 (by decide) (fun c_3 => ?_) (fun c_3 => ?_)
      · refine lv_iconst (v := 2) hx hb dX5_growsOf_41 (by decide) ?_
        refine lv_aload_n hx hb dX5_growsOf_42 rfl (lv_at hl 1 rfl) ?_
        refine va_get (D := D) (ci := 5) (v := .int pc) (C := RX5) (T := TX5) (N := 30) hx hb hts hin5 hown hK.1 hP 0 rfl rfl 3 (by decide) (hts _ (List.mem_of_getElem? (i := 2) rfl)) (fun _ h9 => h9) rfl dX5_growsOf_43 ?_
        refine lv_iconst (v := 1) hx hb dX5_growsOf_46 (by decide) ?_
        refine lv_iadd hx hb dX5_growsOf_47 ?_
        refine lv_imul hx hb dX5_growsOf_48 ?_
        refine ri_ret (v := (2 * (pc + 1))) hx hb hr hlk dX5_growsOf_49 ?_
        exact wk_else _ hk c_1 c_2 c_3
      · refine lv_aload_n hx hb dX5_growsOf_32 rfl (lv_at hl 1 rfl) ?_
        refine va_get (D := D) (ci := 5) (v := .int pc) (C := RX5) (T := TX5) (N := 30) hx hb hts hin5 hown hK.1 hP 0 rfl rfl 3 (by decide) (hts _ (List.mem_of_getElem? (i := 2) rfl)) (fun _ h9 => h9) rfl dX5_growsOf_33 ?_
        refine lv_iconst (v := 1) hx hb dX5_growsOf_36 (by decide) ?_
        refine lv_iadd hx hb dX5_growsOf_37 ?_
        refine lv_goto (tgt := 49) hx hb dX5_growsOf_38 (by decide) ?_
        refine ri_ret (v := (pc + 1)) hx hb hr hlk dX5_growsOf_49 ?_
        rw [c_3]; rfl
    · refine lv_aload_n hx hb dX5_growsOf_20 rfl (lv_at hl 1 rfl) ?_
      refine va_get (D := D) (ci := 5) (v := .int pc) (C := RX5) (T := TX5) (N := 30) hx hb hts hin5 hown hK.1 hP 0 rfl rfl 3 (by decide) (hts _ (List.mem_of_getElem? (i := 2) rfl)) (fun _ h9 => h9) rfl dX5_growsOf_21 ?_
      refine lv_goto (tgt := 49) hx hb dX5_growsOf_24 (by decide) ?_
      refine ri_ret (v := pc) hx hb hr hlk dX5_growsOf_49 ?_
      rw [c_2]; rfl
  · refine lv_iconst (v := 0) hx hb dX5_growsOf_12 (by decide) ?_
    refine lv_goto (tgt := 49) hx hb dX5_growsOf_13 (by decide) ?_
    refine ri_ret (v := 0) hx hb hr hlk dX5_growsOf_49 ?_
    rw [c_1]; rfl
theorem iwX5_coatOf_X5 : ∀ x ∈ wsX50, x ∈ wsX5_coatOf := by decide +kernel
set_option maxRecDepth 100000 in
set_option maxHeartbeats 4000000 in
/-- X5_coatOf -/
theorem c_X5_coatOf (l : Launch) (D : va_G) (cI cJ cO : ClassId) (b : Nat → Nat) (fa : Int32) (h : Nat) (w : Nat) (pc : Int32) (br : Int32) (ra : Int32) (q1 : Int32) (q2 : Int32) (q3 : Int32) (q4 : Int32) (fw : Int32) (ea : Int32) (sn : Int32) (mo : Int32) (rc : Nat) (tr : Int32) (kd : Nat → Int32) (et : Nat → Int32) (c : Int32) (ws : Int32) (j : Nat) (hk : kdOk (kd j)) (he : etOk (et j)) (hv_c : vp_in c 16) (hj_c : c.toNatClampNeg = j) : RG l yX5_coatOf wsX5_coatOf 1 22 D [(cI, .int), (cJ, .long), (cO, .object "ShornHill$Sheet")] [.ref (b 0), .int c, .int ws] [(b 0, .inr (5, [.int fa, .int (nI h), .int (nI w), .int pc, .int br, .ref (b 1), .ref (b 2), .int ra, .int q1, .int q2, .int q3, .int q4, .ref (b 3), .int fw, .int ea, .int sn, .ref (b 4), .ref (b 5), .ref (b 6), .int mo, .int (nI rc), .ref (b 7), .ref (b 8), .ref (b 9), .ref (b 10), .ref (b 11), .ref (b 12), .ref (b 13), .ref (b 14), .int tr])), (b 1, .inl (cI, 16, .inl kd)), (b 2, .inl (cI, 16, .inl et))] (vp_Si (fun (r : Int32) => r = (cv (kd j) pc (et j) ws))) := by
  refine RG.of (cc := cX5_coatOf) (maxL := 4) (ret := (some .int)) (by decide) rfl (Nat.le_of_ble_eq_true rfl) ?_
  intro P_ E_ S_ M_ B_ T_ K_ hx hb hml hr hts hown hlk hP hK ls hl
  have hl : lv_has ls 4 [(0, .ref (b 0)), (1, .int c), (2, .int ws)] := hl
  have hin5 : ∀ x ∈ u_ws RX5 TX5 30, x ∈ wsX5_coatOf := iwX5_coatOf_X5
  refine lv_aload_n hx hb dX5_coatOf_0 rfl (lv_at hl 0 rfl) ?_
  refine lv_iload_n hx hb dX5_coatOf_1 rfl (lv_at hl 1 rfl) ?_
  refine k_ri (run_RV (As := [.int c]) (rest := []) ⟨hx, hb, hml, hown, hts⟩ (c_X5_growsOf l D cI cJ cO b fa h w pc br ra q1 q2 q3 q4 fw ea sn mo rc tr kd c j hk hv_c hj_c) (cwV 1 hts gX5_coatOf_X5_growsOf rfl rfl rfl (by decide +kernel) ⟨Nat.le_of_ble_eq_true rfl, Nat.le_of_ble_eq_true rfl⟩) hP hK [0, 1] rfl rfl rfl rfl rfl hl.1 rfl (Nat.le_of_ble_eq_true rfl) dX5_coatOf_2 ⟨Nat.le_refl _, Nat.le_refl _⟩) (fun r_1 q_2 => ?_)
  obtain rfl := q_2
  refine lv_iload_n hx hb dX5_coatOf_5 rfl (lv_at hl 2 rfl) ?_
  refine lv_imul hx hb dX5_coatOf_6 ?_
  refine lv_aload_n hx hb dX5_coatOf_7 rfl (lv_at hl 0 rfl) ?_
  refine va_get (D := D) (ci := 5) (v := .ref (b 2)) (C := RX5) (T := TX5) (N := 30) hx hb hts hin5 hown hK.1 hP 0 rfl rfl 6 (by decide) (hts _ (List.mem_of_getElem? (i := 1) rfl)) (fun _ h9 => h9) rfl dX5_coatOf_8 ?_
  refine lv_iload_n hx hb dX5_coatOf_11 rfl (lv_at hl 1 rfl) ?_
  refine k_iald hx hb hK hP 2 0 rfl rfl (j := j) hv_c hj_c dX5_coatOf_12 ?_
  refine lv_isub hx hb dX5_coatOf_13 ?_
  refine lv_istore_n (lv' := [(3, .int (((wk (kd j) pc) * ws) - (et j))), (0, .ref (b 0)), (1, .int c), (2, .int ws)]) hx hb dX5_coatOf_14 rfl hl (by decide) rfl (fun ls hl => ?_)
  refine lv_aload_n hx hb dX5_coatOf_15 rfl (lv_at hl 1 rfl) ?_
  refine va_get (D := D) (ci := 5) (v := .ref (b 1)) (C := RX5) (T := TX5) (N := 30) hx hb hts hin5 hown hK.1 hP 0 rfl rfl 5 (by decide) (hts _ (List.mem_of_getElem? (i := 2) rfl)) (fun _ h9 => h9) rfl dX5_coatOf_16 ?_
  refine lv_iload_n hx hb dX5_coatOf_19 rfl (lv_at hl 2 rfl) ?_
  refine k_iald hx hb hK hP 1 0 rfl rfl (j := j) hv_c hj_c dX5_coatOf_20 ?_
  refine lv_iconst (v := 3) hx hb dX5_coatOf_21 (by decide) ?_
  refine lv_icmp_eq (tgt := 29) hx hb dX5_coatOf_22 (by decide) (fun c_3 => ?_) (fun c_3 => ?_)
  · refine lv_iconst (v := 0) hx hb dX5_coatOf_29 (by decide) ?_
    refine lv_goto (tgt := 45) hx hb dX5_coatOf_30 (by decide) ?_
    refine ri_ret (v := 0) hx hb hr hlk dX5_coatOf_45 ?_
    rw [c_3]; exact (cv_3 he).symm
  · refine lv_iload_n hx hb dX5_coatOf_25 rfl (lv_at hl 0 rfl) ?_
    refine lv_if_ge (tgt := 33) hx hb dX5_coatOf_26 (by decide) (fun c_4 => ?_) (fun c_4 => ?_)
    · refine lv_iload_n hx hb dX5_coatOf_33 rfl (lv_at hl 0 rfl) ?_
      refine lv_bipush (v := 9) hx hb dX5_coatOf_34 (by decide) ?_
      refine lv_icmp_le (tgt := 44) hx hb dX5_coatOf_36 (by decide) (fun c_5 => ?_) (fun c_5 => ?_)
      · refine lv_iload_n hx hb dX5_coatOf_44 rfl (lv_at hl 0 rfl) ?_
        refine ri_ret (v := (((wk (kd j) pc) * ws) - (et j))) hx hb hr hlk dX5_coatOf_45 ?_
        exact cv_c (Int32.not_lt.mpr c_4) (Int32.not_lt.mpr c_5)
      · refine lv_bipush (v := 9) hx hb dX5_coatOf_39 (by decide) ?_
        refine lv_goto (tgt := 45) hx hb dX5_coatOf_41 (by decide) ?_
        refine ri_ret (v := 9) hx hb hr hlk dX5_coatOf_45 ?_
        exact cv_b (Int32.not_lt.mpr c_4) (Int32.not_le.mp c_5)
    · have c_4 := Int32.not_le.mp c_4
      refine lv_iconst (v := 0) hx hb dX5_coatOf_29 (by decide) ?_
      refine lv_goto (tgt := 45) hx hb dX5_coatOf_30 (by decide) ?_
      refine ri_ret (v := 0) hx hb hr hlk dX5_coatOf_45 ?_
      exact cv_a (c_4)
theorem iwX5_thornsNow_X5 : ∀ x ∈ wsX50, x ∈ wsX5_thornsNow := by decide +kernel
set_option maxRecDepth 100000 in
set_option maxHeartbeats 4000000 in
/-- X5_thornsNow -/
theorem c_X5_thornsNow (l : Launch) (D : va_G) (cI cJ cO : ClassId) (b : Nat → Nat) (fa : Int32) (h : Nat) (w : Nat) (pc : Int32) (br : Int32) (ra : Int32) (q1 : Int32) (q2 : Int32) (q3 : Int32) (q4 : Int32) (fw : Int32) (ea : Int32) (sn : Int32) (mo : Int32) (rc : Nat) (tr : Int32) (kd : Nat → Int32) (hn : h * w ≤ 16) : RG l yX5_thornsNow wsX5_thornsNow 1 20 D [(cI, .int), (cJ, .long), (cO, .object "ShornHill$Sheet")] [.ref (b 0)] [(b 0, .inr (5, [.int fa, .int (nI h), .int (nI w), .int pc, .int br, .ref (b 1), .ref (b 2), .int ra, .int q1, .int q2, .int q3, .int q4, .ref (b 3), .int fw, .int ea, .int sn, .ref (b 4), .ref (b 5), .ref (b 6), .int mo, .int (nI rc), .ref (b 7), .ref (b 8), .ref (b 9), .ref (b 10), .ref (b 11), .ref (b 12), .ref (b 13), .ref (b 14), .int tr])), (b 1, .inl (cI, 16, .inl kd))] (vp_Si (fun (r : Int32) => r = (nI (thN kd (h * w))))) := by
  refine RG.of (cc := cX5_thornsNow) (maxL := 3) (ret := (some .int)) (by decide) rfl (Nat.le_of_ble_eq_true rfl) ?_
  intro P_ E_ S_ M_ B_ T_ K_ hx hb hml hr hts hown hlk hP hK ls hl
  have hl : lv_has ls 3 [(0, .ref (b 0))] := hl
  have hin5 : ∀ x ∈ u_ws RX5 TX5 30, x ∈ wsX5_thornsNow := iwX5_thornsNow_X5
  refine lv_iconst (v := 0) hx hb dX5_thornsNow_0 (by decide) ?_
  refine lv_istore_n (lv' := [(1, .int 0), (0, .ref (b 0))]) hx hb dX5_thornsNow_1 rfl hl (by decide) rfl (fun ls hl => ?_)
  refine lv_iconst (v := 0) hx hb dX5_thornsNow_2 (by decide) ?_
  refine lv_istore_n (lv' := [(2, .int 0), (1, .int 0), (0, .ref (b 0))]) hx hb dX5_thornsNow_3 rfl hl (by decide) rfl (fun ls hl => ?_)
  have key_2 : ∀ (n_1 : Nat) (k : Nat) (x1_n_1 : Int32), (k ≤ h * w) → x1_n_1 = (nI (thN kd k)) → h * w - k < n_1 → ∀ ls : Array Slot, lv_has ls 3 [(0, .ref (b 0)), (1, .int x1_n_1), (2, .int (nI k))] → W P_ l E_ ({ frames := 1, cells := 0, slots := 0, locals := 20 } : Room) S_ M_ (([.ref (b 0)] : List Value).toArray) B_ T_ K_ S_.heap [] 0 0 (MQ B_ (vp_Si (fun (r : Int32) => r = (nI (thN kd (h * w))))) (([.ref (b 0)] : List Value).toArray) S_ 0 0 (fun _ => False)) (F0 M_ 4 ls []) := by
    intro n_1
    induction n_1 with
    | zero =>
      intro k x1_n_1 hk e_x1_n_1 hmu_n_1
      exact absurd hmu_n_1 (Nat.not_lt_zero _)
    | succ n_1 ih_3 =>
      intro k x1_n_1 hk e_x1_n_1 hmu_n_1 ls hl
      subst e_x1_n_1
      have hl : lv_has ls 3 [(0, .ref (b 0)), (1, .int (nI (thN kd k))), (2, .int (nI k))] := hl
      refine lv_iload_n hx hb dX5_thornsNow_4 rfl (lv_at hl 2 rfl) ?_
      refine lv_aload_n hx hb dX5_thornsNow_5 rfl (lv_at hl 0 rfl) ?_
      refine k_ri (run_RV (As := []) (rest := [.int (nI k)]) ⟨hx, hb, hml, hown, hts⟩ (c_X5_cells l D cI cJ cO b fa h w pc br ra q1 q2 q3 q4 fw ea sn mo rc tr) (cwV 0 hts gX5_thornsNow_X5_cells rfl rfl rfl (by decide +kernel) ⟨Nat.le_of_ble_eq_true rfl, Nat.le_of_ble_eq_true rfl⟩) hP hK [0] rfl rfl rfl rfl rfl hl.1 rfl (Nat.le_of_ble_eq_true rfl) dX5_thornsNow_6 ⟨Nat.le_refl _, Nat.le_refl _⟩) (fun r_4 q_5 => ?_)
      obtain rfl := q_5
      refine lv_icmp_ge (tgt := 36) hx hb dX5_thornsNow_9 (by decide) (fun c_6 => ?_) (fun c_6 => ?_)
      · have c_6 : h * w ≤ k := (nI_leI (a := h * w) (b := k) (by omega) (by omega)).mp c_6
        refine lv_iload_n hx hb dX5_thornsNow_36 rfl (lv_at hl 1 rfl) ?_
        refine ri_ret (v := (nI (thN kd k))) hx hb hr hlk dX5_thornsNow_37 ?_
        rw [show k = h * w by omega]
      · have c_6 : k < h * w := Nat.lt_of_not_le (fun z => c_6 ((nI_leI (a := h * w) (b := k) (by omega) (by omega)).mpr z))
        refine lv_iload_n hx hb dX5_thornsNow_12 rfl (lv_at hl 1 rfl) ?_
        refine lv_aload_n hx hb dX5_thornsNow_13 rfl (lv_at hl 0 rfl) ?_
        refine va_get (D := D) (ci := 5) (v := .ref (b 1)) (C := RX5) (T := TX5) (N := 30) hx hb hts hin5 hown hK.1 hP 0 rfl rfl 5 (by decide) (hts _ (List.mem_of_getElem? (i := 1) rfl)) (fun _ h9 => h9) rfl dX5_thornsNow_14 ?_
        refine lv_iload_n hx hb dX5_thornsNow_17 rfl (lv_at hl 2 rfl) ?_
        refine k_iald hx hb hK hP 1 0 rfl rfl (j := k) (vp_in_nI (show k < 16 by omega) (by decide)) (nI_clamp (by omega)) dX5_thornsNow_18 ?_
        refine lv_iconst (v := 3) hx hb dX5_thornsNow_19 (by decide) ?_
        refine lv_icmp_ne (tgt := 27) hx hb dX5_thornsNow_20 (by decide) (fun c_7 => ?_) (fun c_7 => ?_)
        · refine lv_iconst (v := 0) hx hb dX5_thornsNow_27 (by decide) ?_
          refine lv_iadd hx hb dX5_thornsNow_28 ?_
          refine k_top (y := (nI ((thN kd k) + 0))) (nI_add _ 0) ?_
          refine lv_istore_n (lv' := [(1, .int (nI ((thN kd k) + 0))), (0, .ref (b 0)), (2, .int (nI k))]) hx hb dX5_thornsNow_29 rfl hl (by decide) rfl (fun ls hl => ?_)
          refine lv_iinc (v := (nI (k + 1))) (lv' := [(2, .int (nI (k + 1))), (1, .int (nI ((thN kd k) + 0))), (0, .ref (b 0))]) hx hb dX5_thornsNow_30 hl (k := 2) rfl (nI_add _ 1) (by decide) rfl (fun ls hl => ?_)
          refine lv_goto (tgt := 4) hx hb dX5_thornsNow_33 (by decide) ?_
          exact ih_3 (k + 1) (nI ((thN kd k) + 0)) (by omega) (by rw [thN]; first | rw [if_pos (by assumption)] | rw [if_neg (by assumption)]) (by omega) ls (lv_sub hl [2, 1, 0] rfl)
        · refine lv_iconst (v := 1) hx hb dX5_thornsNow_23 (by decide) ?_
          refine lv_goto (tgt := 28) hx hb dX5_thornsNow_24 (by decide) ?_
          refine lv_iadd hx hb dX5_thornsNow_28 ?_
          refine k_top (y := (nI ((thN kd k) + 1))) (nI_add _ 1) ?_
          refine lv_istore_n (lv' := [(1, .int (nI ((thN kd k) + 1))), (0, .ref (b 0)), (2, .int (nI k))]) hx hb dX5_thornsNow_29 rfl hl (by decide) rfl (fun ls hl => ?_)
          refine lv_iinc (v := (nI (k + 1))) (lv' := [(2, .int (nI (k + 1))), (1, .int (nI ((thN kd k) + 1))), (0, .ref (b 0))]) hx hb dX5_thornsNow_30 hl (k := 2) rfl (nI_add _ 1) (by decide) rfl (fun ls hl => ?_)
          refine lv_goto (tgt := 4) hx hb dX5_thornsNow_33 (by decide) ?_
          exact ih_3 (k + 1) (nI ((thN kd k) + 1)) (by omega) (by rw [thN]; first | rw [if_pos (by assumption)] | rw [if_neg (by assumption)]) (by omega) ls (lv_sub hl [2, 1, 0] rfl)
  exact key_2 _ 0 0 (by omega) rfl (Nat.lt_succ_self _) ls (lv_sub hl [2, 1, 0] rfl)
set_option maxRecDepth 100000 in
set_option maxHeartbeats 4000000 in
/-- X5_coatsOf -/
theorem c_X5_coatsOf (l : Launch) (D : va_G) (cI cJ cO : ClassId) (b : Nat → Nat) (fa : Int32) (h : Nat) (w : Nat) (pc : Int32) (br : Int32) (ra : Int32) (q1 : Int32) (q2 : Int32) (q3 : Int32) (q4 : Int32) (fw : Int32) (ea : Int32) (sn : Int32) (mo : Int32) (rc : Nat) (tr : Int32) (kd : Nat → Int32) (et : Nat → Int32) (u : Int32) (ws : Int32) (hn : h * w ≤ 16) (hkd : ∀ k, k < 16 → kdOk (kd k)) (het : ∀ k, k < 16 → etOk (et k)) : RG l yX5_coatsOf wsX5_coatsOf 2 45 D [(cI, .int), (cJ, .long), (cO, .object "ShornHill$Sheet")] [.ref (b 0), .int u, .int ws] [(b 0, .inr (5, [.int fa, .int (nI h), .int (nI w), .int pc, .int br, .ref (b 1), .ref (b 2), .int ra, .int q1, .int q2, .int q3, .int q4, .ref (b 3), .int fw, .int ea, .int sn, .ref (b 4), .ref (b 5), .ref (b 6), .int mo, .int (nI rc), .ref (b 7), .ref (b 8), .ref (b 9), .ref (b 10), .ref (b 11), .ref (b 12), .ref (b 13), .ref (b 14), .int tr])), (b 1, .inl (cI, 16, .inl kd)), (b 2, .inl (cI, 16, .inl et))] (vp_Si (fun (r : Int32) => r = (csum u pc kd et ws (h * w)))) := by
  refine RG.of (cc := cX5_coatsOf) (maxL := 5) (ret := (some .int)) (by decide) rfl (Nat.le_of_ble_eq_true rfl) ?_
  intro P_ E_ S_ M_ B_ T_ K_ hx hb hml hr hts hown hlk hP hK ls hl
  have hl : lv_has ls 5 [(0, .ref (b 0)), (1, .int u), (2, .int ws)] := hl
  refine lv_iconst (v := 0) hx hb dX5_coatsOf_0 (by decide) ?_
  refine lv_istore_n (lv' := [(3, .int 0), (0, .ref (b 0)), (1, .int u), (2, .int ws)]) hx hb dX5_coatsOf_1 rfl hl (by decide) rfl (fun ls hl => ?_)
  refine lv_iconst (v := 0) hx hb dX5_coatsOf_2 (by decide) ?_
  refine lv_istore (lv' := [(4, .int 0), (3, .int 0), (0, .ref (b 0)), (1, .int u), (2, .int ws)]) hx hb dX5_coatsOf_3 hl (by decide) rfl (fun ls hl => ?_)
  have key_2 : ∀ (n_1 : Nat) (k : Nat) (x3_n_1 : Int32), (k ≤ h * w) → x3_n_1 = (csum u pc kd et ws k) → h * w - k < n_1 → ∀ ls : Array Slot, lv_has ls 5 [(0, .ref (b 0)), (1, .int u), (2, .int ws), (3, .int x3_n_1), (4, .int (nI k))] → W P_ l E_ ({ frames := 2, cells := 0, slots := 0, locals := 45 } : Room) S_ M_ (([.ref (b 0), .int u, .int ws] : List Value).toArray) B_ T_ K_ S_.heap [] 0 0 (MQ B_ (vp_Si (fun (r : Int32) => r = (csum u pc kd et ws (h * w)))) (([.ref (b 0), .int u, .int ws] : List Value).toArray) S_ 0 0 (fun _ => False)) (F0 M_ 5 ls []) := by
    intro n_1
    induction n_1 with
    | zero =>
      intro k x3_n_1 hk e_x3_n_1 hmu_n_1
      exact absurd hmu_n_1 (Nat.not_lt_zero _)
    | succ n_1 ih_3 =>
      intro k x3_n_1 hk e_x3_n_1 hmu_n_1 ls hl
      subst e_x3_n_1
      have hl : lv_has ls 5 [(0, .ref (b 0)), (1, .int u), (2, .int ws), (3, .int (csum u pc kd et ws k)), (4, .int (nI k))] := hl
      refine lv_iload hx hb dX5_coatsOf_5 (lv_at hl 4 rfl) ?_
      refine lv_aload_n hx hb dX5_coatsOf_7 rfl (lv_at hl 0 rfl) ?_
      refine k_ri (run_RV (As := []) (rest := [.int (nI k)]) ⟨hx, hb, hml, hown, hts⟩ (c_X5_cells l D cI cJ cO b fa h w pc br ra q1 q2 q3 q4 fw ea sn mo rc tr) (cwV 0 hts gX5_coatsOf_X5_cells rfl rfl rfl (by decide +kernel) ⟨Nat.le_of_ble_eq_true rfl, Nat.le_of_ble_eq_true rfl⟩) hP hK [0] rfl rfl rfl rfl rfl hl.1 rfl (Nat.le_of_ble_eq_true rfl) dX5_coatsOf_8 ⟨Nat.le_refl _, Nat.le_refl _⟩) (fun r_4 q_5 => ?_)
      obtain rfl := q_5
      refine lv_icmp_ge (tgt := 43) hx hb dX5_coatsOf_11 (by decide) (fun c_6 => ?_) (fun c_6 => ?_)
      · have c_6 : h * w ≤ k := (nI_leI (a := h * w) (b := k) (by omega) (by omega)).mp c_6
        refine lv_iload_n hx hb dX5_coatsOf_43 rfl (lv_at hl 3 rfl) ?_
        refine ri_ret (v := (csum u pc kd et ws k)) hx hb hr hlk dX5_coatsOf_44 ?_
        rw [show k = h * w by omega]
      · have c_6 : k < h * w := Nat.lt_of_not_le (fun z => c_6 ((nI_leI (a := h * w) (b := k) (by omega) (by omega)).mpr z))
        refine lv_iload_n hx hb dX5_coatsOf_14 rfl (lv_at hl 3 rfl) ?_
        refine lv_iload_n hx hb dX5_coatsOf_15 rfl (lv_at hl 1 rfl) ?_
        refine lv_iload hx hb dX5_coatsOf_16 (lv_at hl 4 rfl) ?_
        refine k_ri (run_RS (As := [.int u, .int (nI k)]) (rest := [.int (csum u pc kd et ws k)]) ⟨hx, hb, hml, hown, hts⟩ (c_X5_isIn l D cI cJ cO u (nI k) (nI_inN (by omega) (by decide))) (va_cwS 2 hts gX5_coatsOf_X5_isIn rfl rfl rfl (by decide +kernel) ⟨Nat.le_of_ble_eq_true rfl, Nat.le_of_ble_eq_true rfl⟩) hP hK [] rfl rfl hl.1 rfl (Nat.le_of_ble_eq_true rfl) dX5_coatsOf_18 ⟨Nat.le_refl _, Nat.le_refl _⟩) (fun r_7 q_8 => ?_)
        obtain rfl := q_8
        refine lv_if_eq (tgt := 34) hx hb dX5_coatsOf_21 (by decide) (fun c_9 => ?_) (fun c_9 => ?_)
        · have c_9 := b2_f c_9
          refine lv_iconst (v := 0) hx hb dX5_coatsOf_34 (by decide) ?_
          refine lv_iadd hx hb dX5_coatsOf_35 ?_
          refine lv_istore_n (lv' := [(3, .int ((csum u pc kd et ws k) + 0)), (0, .ref (b 0)), (1, .int u), (2, .int ws), (4, .int (nI k))]) hx hb dX5_coatsOf_36 rfl hl (by decide) rfl (fun ls hl => ?_)
          refine lv_iinc (v := (nI (k + 1))) (lv' := [(4, .int (nI (k + 1))), (3, .int ((csum u pc kd et ws k) + 0)), (0, .ref (b 0)), (1, .int u), (2, .int ws)]) hx hb dX5_coatsOf_37 hl (k := 4) rfl (nI_add _ 1) (by decide) rfl (fun ls hl => ?_)
          refine lv_goto (tgt := 5) hx hb dX5_coatsOf_40 (by decide) ?_
          exact ih_3 (k + 1) ((csum u pc kd et ws k) + 0) (by omega) (by rw [csum]; first | rw [if_pos (by assumption)] | rw [if_neg (by assumption)]) (by omega) ls (lv_sub hl [2, 3, 4, 1, 0] rfl)
        · have c_9 := b2_t c_9
          refine lv_aload_n hx hb dX5_coatsOf_24 rfl (lv_at hl 0 rfl) ?_
          refine lv_iload hx hb dX5_coatsOf_25 (lv_at hl 4 rfl) ?_
          refine lv_iload_n hx hb dX5_coatsOf_27 rfl (lv_at hl 2 rfl) ?_
          refine k_ri (run_RV (As := [.int (nI k), .int ws]) (rest := [.int (csum u pc kd et ws k)]) ⟨hx, hb, hml, hown, hts⟩ (c_X5_coatOf l D cI cJ cO b fa h w pc br ra q1 q2 q3 q4 fw ea sn mo rc tr kd et (nI k) ws k (hkd k (by omega)) (het k (by omega)) (vp_in_nI (show k < 16 by omega) (by decide)) (nI_clamp (by omega))) (cwV 2 hts gX5_coatsOf_X5_coatOf rfl rfl rfl (by decide +kernel) ⟨Nat.le_of_ble_eq_true rfl, Nat.le_of_ble_eq_true rfl⟩) hP hK [0, 1, 2] rfl rfl rfl rfl rfl hl.1 rfl (Nat.le_of_ble_eq_true rfl) dX5_coatsOf_28 ⟨Nat.le_refl _, Nat.le_refl _⟩) (fun r_10 q_11 => ?_)
          obtain rfl := q_11
          refine lv_goto (tgt := 35) hx hb dX5_coatsOf_31 (by decide) ?_
          refine lv_iadd hx hb dX5_coatsOf_35 ?_
          refine lv_istore_n (lv' := [(3, .int ((csum u pc kd et ws k) + (cv (kd k) pc (et k) ws))), (0, .ref (b 0)), (1, .int u), (2, .int ws), (4, .int (nI k))]) hx hb dX5_coatsOf_36 rfl hl (by decide) rfl (fun ls hl => ?_)
          refine lv_iinc (v := (nI (k + 1))) (lv' := [(4, .int (nI (k + 1))), (3, .int ((csum u pc kd et ws k) + (cv (kd k) pc (et k) ws))), (0, .ref (b 0)), (1, .int u), (2, .int ws)]) hx hb dX5_coatsOf_37 hl (k := 4) rfl (nI_add _ 1) (by decide) rfl (fun ls hl => ?_)
          refine lv_goto (tgt := 5) hx hb dX5_coatsOf_40 (by decide) ?_
          exact ih_3 (k + 1) ((csum u pc kd et ws k) + (cv (kd k) pc (et k) ws)) (by omega) (by rw [csum]; first | rw [if_pos (by assumption)] | rw [if_neg (by assumption)]) (by omega) ls (lv_sub hl [2, 3, 4, 1, 0] rfl)
  exact key_2 _ 0 0 (by omega) rfl (Nat.lt_succ_self _) ls (lv_sub hl [2, 3, 4, 1, 0] rfl)
theorem iwX5_ripeBy_X5 : ∀ x ∈ wsX50, x ∈ wsX5_ripeBy := by decide +kernel
set_option maxRecDepth 100000 in
set_option maxHeartbeats 4000000 in
/-- X5_ripeBy -/
theorem c_X5_ripeBy (l : Launch) (D : va_G) (cI cJ cO : ClassId) (b : Nat → Nat) (fa : Int32) (h : Nat) (w : Nat) (pc : Int32) (br : Int32) (ra : Int32) (q1 : Int32) (q2 : Int32) (q3 : Int32) (q4 : Int32) (fw : Int32) (ea : Int32) (sn : Int32) (mo : Int32) (rc : Nat) (tr : Int32) (kd : Nat → Int32) (et : Nat → Int32) (ws : Int32) (hn : h * w ≤ 16) (hkd : ∀ k, k < 16 → kdOk (kd k)) (het : ∀ k, k < 16 → etOk (et k)) (hbr : 0 < h * w → 1 ≤ br.toInt) : RG l yX5_ripeBy wsX5_ripeBy 2 45 D [(cI, .int), (cJ, .long), (cO, .object "ShornHill$Sheet")] [.ref (b 0), .int ws] [(b 0, .inr (5, [.int fa, .int (nI h), .int (nI w), .int pc, .int br, .ref (b 1), .ref (b 2), .int ra, .int q1, .int q2, .int q3, .int q4, .ref (b 3), .int fw, .int ea, .int sn, .ref (b 4), .ref (b 5), .ref (b 6), .int mo, .int (nI rc), .ref (b 7), .ref (b 8), .ref (b 9), .ref (b 10), .ref (b 11), .ref (b 12), .ref (b 13), .ref (b 14), .int tr])), (b 1, .inl (cI, 16, .inl kd)), (b 2, .inl (cI, 16, .inl et))] (vp_Si (fun (r : Int32) => r = (ripS pc br kd et ws (h * w)))) := by
  refine RG.of (cc := cX5_ripeBy) (maxL := 4) (ret := (some .int)) (by decide) rfl (Nat.le_of_ble_eq_true rfl) ?_
  intro P_ E_ S_ M_ B_ T_ K_ hx hb hml hr hts hown hlk hP hK ls hl
  have hl : lv_has ls 4 [(0, .ref (b 0)), (1, .int ws)] := hl
  have hin5 : ∀ x ∈ u_ws RX5 TX5 30, x ∈ wsX5_ripeBy := iwX5_ripeBy_X5
  refine lv_iconst (v := 0) hx hb dX5_ripeBy_0 (by decide) ?_
  refine lv_istore_n (lv' := [(2, .int 0), (0, .ref (b 0)), (1, .int ws)]) hx hb dX5_ripeBy_1 rfl hl (by decide) rfl (fun ls hl => ?_)
  refine lv_iconst (v := 0) hx hb dX5_ripeBy_2 (by decide) ?_
  refine lv_istore_n (lv' := [(3, .int 0), (2, .int 0), (0, .ref (b 0)), (1, .int ws)]) hx hb dX5_ripeBy_3 rfl hl (by decide) rfl (fun ls hl => ?_)
  have key_2 : ∀ (n_1 : Nat) (k : Nat) (x2_n_1 : Int32), (k ≤ h * w) → x2_n_1 = (ripS pc br kd et ws k) → h * w - k < n_1 → ∀ ls : Array Slot, lv_has ls 4 [(0, .ref (b 0)), (1, .int ws), (2, .int x2_n_1), (3, .int (nI k))] → W P_ l E_ ({ frames := 2, cells := 0, slots := 0, locals := 45 } : Room) S_ M_ (([.ref (b 0), .int ws] : List Value).toArray) B_ T_ K_ S_.heap [] 0 0 (MQ B_ (vp_Si (fun (r : Int32) => r = (ripS pc br kd et ws (h * w)))) (([.ref (b 0), .int ws] : List Value).toArray) S_ 0 0 (fun _ => False)) (F0 M_ 4 ls []) := by
    intro n_1
    induction n_1 with
    | zero =>
      intro k x2_n_1 hk e_x2_n_1 hmu_n_1
      exact absurd hmu_n_1 (Nat.not_lt_zero _)
    | succ n_1 ih_3 =>
      intro k x2_n_1 hk e_x2_n_1 hmu_n_1 ls hl
      subst e_x2_n_1
      have hl : lv_has ls 4 [(0, .ref (b 0)), (1, .int ws), (2, .int (ripS pc br kd et ws k)), (3, .int (nI k))] := hl
      refine lv_iload_n hx hb dX5_ripeBy_4 rfl (lv_at hl 3 rfl) ?_
      refine lv_aload_n hx hb dX5_ripeBy_5 rfl (lv_at hl 0 rfl) ?_
      refine k_ri (run_RV (As := []) (rest := [.int (nI k)]) ⟨hx, hb, hml, hown, hts⟩ (c_X5_cells l D cI cJ cO b fa h w pc br ra q1 q2 q3 q4 fw ea sn mo rc tr) (cwV 0 hts gX5_ripeBy_X5_cells rfl rfl rfl (by decide +kernel) ⟨Nat.le_of_ble_eq_true rfl, Nat.le_of_ble_eq_true rfl⟩) hP hK [0] rfl rfl rfl rfl rfl hl.1 rfl (Nat.le_of_ble_eq_true rfl) dX5_ripeBy_6 ⟨Nat.le_refl _, Nat.le_refl _⟩) (fun r_4 q_5 => ?_)
      obtain rfl := q_5
      refine lv_icmp_ge (tgt := 41) hx hb dX5_ripeBy_9 (by decide) (fun c_6 => ?_) (fun c_6 => ?_)
      · have c_6 : h * w ≤ k := (nI_leI (a := h * w) (b := k) (by omega) (by omega)).mp c_6
        refine lv_iload_n hx hb dX5_ripeBy_41 rfl (lv_at hl 2 rfl) ?_
        refine ri_ret (v := (ripS pc br kd et ws k)) hx hb hr hlk dX5_ripeBy_42 ?_
        rw [show k = h * w by omega]
      · have c_6 : k < h * w := Nat.lt_of_not_le (fun z => c_6 ((nI_leI (a := h * w) (b := k) (by omega) (by omega)).mpr z))
        refine lv_iload_n hx hb dX5_ripeBy_12 rfl (lv_at hl 2 rfl) ?_
        refine lv_aload_n hx hb dX5_ripeBy_13 rfl (lv_at hl 0 rfl) ?_
        refine lv_iload_n hx hb dX5_ripeBy_14 rfl (lv_at hl 3 rfl) ?_
        refine lv_iload_n hx hb dX5_ripeBy_15 rfl (lv_at hl 1 rfl) ?_
        refine k_ri (run_RV (As := [.int (nI k), .int ws]) (rest := [.int (ripS pc br kd et ws k)]) ⟨hx, hb, hml, hown, hts⟩ (c_X5_coatOf l D cI cJ cO b fa h w pc br ra q1 q2 q3 q4 fw ea sn mo rc tr kd et (nI k) ws k (hkd k (by omega)) (het k (by omega)) (vp_in_nI (show k < 16 by omega) (by decide)) (nI_clamp (by omega))) (cwV 2 hts gX5_ripeBy_X5_coatOf rfl rfl rfl (by decide +kernel) ⟨Nat.le_of_ble_eq_true rfl, Nat.le_of_ble_eq_true rfl⟩) hP hK [0, 1, 2] rfl rfl rfl rfl rfl hl.1 rfl (Nat.le_of_ble_eq_true rfl) dX5_ripeBy_16 ⟨Nat.le_refl _, Nat.le_refl _⟩) (fun r_7 q_8 => ?_)
        obtain rfl := q_8
        refine lv_aload_n hx hb dX5_ripeBy_19 rfl (lv_at hl 0 rfl) ?_
        refine va_get (D := D) (ci := 5) (v := .int br) (C := RX5) (T := TX5) (N := 30) hx hb hts hin5 hown hK.1 hP 0 rfl rfl 4 (by decide) (hts _ (List.mem_of_getElem? (i := 1) rfl)) (fun _ h9 => h9) rfl dX5_ripeBy_20 ?_
        refine lv_icmp_lt (tgt := 32) hx hb dX5_ripeBy_23 (by decide) (fun c_9 => ?_) (fun c_9 => ?_)
        · have hrp : ¬ ripP pc br (kd k) (et k) ws := fun z => absurd z.2 (Int32.not_le.mpr c_9)
          refine lv_iconst (v := 0) hx hb dX5_ripeBy_32 (by decide) ?_
          refine lv_ior hx hb dX5_ripeBy_33 ?_
          refine lv_istore_n (lv' := [(2, .int ((ripS pc br kd et ws k) ||| 0)), (0, .ref (b 0)), (1, .int ws), (3, .int (nI k))]) hx hb dX5_ripeBy_34 rfl hl (by decide) rfl (fun ls hl => ?_)
          refine lv_iinc (v := (nI (k + 1))) (lv' := [(3, .int (nI (k + 1))), (2, .int ((ripS pc br kd et ws k) ||| 0)), (0, .ref (b 0)), (1, .int ws)]) hx hb dX5_ripeBy_35 hl (k := 3) rfl (nI_add _ 1) (by decide) rfl (fun ls hl => ?_)
          refine lv_goto (tgt := 4) hx hb dX5_ripeBy_38 (by decide) ?_
          exact ih_3 (k + 1) ((ripS pc br kd et ws k) ||| 0) (by omega) (by rw [ripS]; first | (rw [if_pos hrp] <;> rfl) | rw [if_neg hrp]) (by omega) ls (lv_sub hl [2, 3, 1, 0] rfl)
        · have hrp : ripP pc br (kd k) (et k) ws := rip_of (hbr (by omega)) (het k (by omega)) (Int32.not_lt.mp c_9)
          refine lv_iconst (v := 1) hx hb dX5_ripeBy_26 (by decide) ?_
          refine lv_iload_n hx hb dX5_ripeBy_27 rfl (lv_at hl 3 rfl) ?_
          refine lv_ishl hx hb dX5_ripeBy_28 ?_
          refine lv_goto (tgt := 33) hx hb dX5_ripeBy_29 (by decide) ?_
          refine lv_ior hx hb dX5_ripeBy_33 ?_
          refine lv_istore_n (lv' := [(2, .int ((ripS pc br kd et ws k) ||| (1 <<< ((nI k) &&& 31)))), (0, .ref (b 0)), (1, .int ws), (3, .int (nI k))]) hx hb dX5_ripeBy_34 rfl hl (by decide) rfl (fun ls hl => ?_)
          refine lv_iinc (v := (nI (k + 1))) (lv' := [(3, .int (nI (k + 1))), (2, .int ((ripS pc br kd et ws k) ||| (1 <<< ((nI k) &&& 31)))), (0, .ref (b 0)), (1, .int ws)]) hx hb dX5_ripeBy_35 hl (k := 3) rfl (nI_add _ 1) (by decide) rfl (fun ls hl => ?_)
          refine lv_goto (tgt := 4) hx hb dX5_ripeBy_38 (by decide) ?_
          exact ih_3 (k + 1) ((ripS pc br kd et ws k) ||| (1 <<< ((nI k) &&& 31))) (by omega) (by rw [ripS]; first | (rw [if_pos hrp] <;> rfl) | rw [if_neg hrp]) (by omega) ls (lv_sub hl [2, 3, 1, 0] rfl)
  exact key_2 _ 0 0 (by omega) rfl (Nat.lt_succ_self _) ls (lv_sub hl [2, 3, 1, 0] rfl)
