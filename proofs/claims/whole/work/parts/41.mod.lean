set_option maxRecDepth 100000 in
set_option maxHeartbeats 4000000 in
/-- X5_noPlace -/
theorem c_X5_noPlace (l : Launch) (D : va_G) (cI cJ cO : ClassId) (b : Nat → Nat) (fa : Int32) (h : Nat) (w : Nat) (pc : Int32) (br : Int32) (ra : Int32) (q1 : Int32) (q2 : Int32) (q3 : Int32) (q4 : Int32) (fw : Int32) (ea : Int32) (sn : Int32) (mo : Int32) (rc : Nat) (tr : Int32) (v : Int32) (hn : h * w ≤ 16) : RG l yX5_noPlace wsX5_noPlace 1 25 D [(cI, .int), (cJ, .long), (cO, .object "ShornHill$Sheet")] [.ref (b 0), .int v] [(b 0, .inr (5, [.int fa, .int (nI h), .int (nI w), .int pc, .int br, .ref (b 1), .ref (b 2), .int ra, .int q1, .int q2, .int q3, .int q4, .ref (b 3), .int fw, .int ea, .int sn, .ref (b 4), .ref (b 5), .ref (b 6), .int mo, .int (nI rc), .ref (b 7), .ref (b 8), .ref (b 9), .ref (b 10), .ref (b 11), .ref (b 12), .ref (b 13), .ref (b 14), .int tr]))] (vp_Si (fun (r : Int32) => r = (b2 (¬ inN v (h * w))))) := by
  refine RG.of (cc := cX5_noPlace) (maxL := 2) (ret := (some .boolean)) (by decide) rfl (Nat.le_of_ble_eq_true rfl) ?_
  intro P_ E_ S_ M_ B_ T_ K_ hx hb hml hr hts hown hlk hP hK ls hl
  have hl : lv_has ls 2 [(0, .ref (b 0)), (1, .int v)] := hl
  refine lv_iload_n hx hb dX5_noPlace_0 rfl (lv_at hl 1 rfl) ?_
  refine lv_i2l (v := v.toInt64) hx hb dX5_noPlace_1 rfl ?_
  refine lv_lconst (v := 0) hx hb dX5_noPlace_2 (by decide) ?_
  refine lv_aload_n hx hb dX5_noPlace_3 rfl (lv_at hl 0 rfl) ?_
  refine k_ri (run_RV (As := []) (rest := [.long 0, .long v.toInt64]) ⟨hx, hb, hml, hown, hts⟩ (c_X5_cells l D cI cJ cO b fa h w pc br ra q1 q2 q3 q4 fw ea sn mo rc tr) (cwV 0 hts gX5_noPlace_X5_cells rfl rfl rfl (by decide +kernel) ⟨Nat.le_of_ble_eq_true rfl, Nat.le_of_ble_eq_true rfl⟩) hP hK [0] rfl rfl rfl rfl rfl hl.1 rfl (Nat.le_of_ble_eq_true rfl) dX5_noPlace_4 ⟨Nat.le_refl _, Nat.le_refl _⟩) (fun r_1 q_2 => ?_)
  obtain rfl := q_2
  refine lv_i2l (v := (nI (h * w)).toInt64) hx hb dX5_noPlace_7 rfl ?_
  refine lv_lconst (v := 1) hx hb dX5_noPlace_8 (by decide) ?_
  refine lv_lsub hx hb dX5_noPlace_9 ?_
  refine k_ri (run_RS (As := [.long v.toInt64, .long 0, .long (((nI (h * w)).toInt64) - 1)]) (rest := []) ⟨hx, hb, hml, hown, hts⟩ (c_X5_in l D cI cJ cO v.toInt64 0 (((nI (h * w)).toInt64) - 1)) (va_cwS 3 hts gX5_noPlace_X5_in rfl rfl rfl (by decide +kernel) ⟨Nat.le_of_ble_eq_true rfl, Nat.le_of_ble_eq_true rfl⟩) hP hK [] rfl rfl hl.1 rfl (Nat.le_of_ble_eq_true rfl) dX5_noPlace_10 ⟨Nat.le_refl _, Nat.le_refl _⟩) (fun r_3 q_4 => ?_)
  obtain rfl := q_4
  refine k_top (y := (b2 (inN v (h * w)))) (b2_cong (in_long (by omega))) ?_
  refine lv_if_ne (tgt := 20) hx hb dX5_noPlace_13 (by decide) (fun c_5 => ?_) (fun c_5 => ?_)
  · have c_5 := b2_t c_5
    refine lv_iconst (v := 0) hx hb dX5_noPlace_20 (by decide) ?_
    refine rz_ret (v := 0) hx hb hr hlk dX5_noPlace_21 (by decide) ?_
    exact b2_0 (fun z => z c_5)
  · have c_5 := b2_f c_5
    refine lv_iconst (v := 1) hx hb dX5_noPlace_16 (by decide) ?_
    refine lv_goto (tgt := 21) hx hb dX5_noPlace_17 (by decide) ?_
    refine rz_ret (v := 1) hx hb hr hlk dX5_noPlace_21 (by decide) ?_
    exact b2_1 c_5
theorem iwX5_noGrass_X5 : ∀ x ∈ wsX50, x ∈ wsX5_noGrass := by decide +kernel
set_option maxRecDepth 100000 in
set_option maxHeartbeats 4000000 in
/-- X5_noGrass -/
theorem c_X5_noGrass (l : Launch) (D : va_G) (cI cJ cO : ClassId) (b : Nat → Nat) (fa : Int32) (h : Nat) (w : Nat) (pc : Int32) (br : Int32) (ra : Int32) (q1 : Int32) (q2 : Int32) (q3 : Int32) (q4 : Int32) (fw : Int32) (ea : Int32) (sn : Int32) (mo : Int32) (rc : Nat) (tr : Int32) (kd : Nat → Int32) (v : Int32) (hn : h * w ≤ 16) : RG l yX5_noGrass wsX5_noGrass 2 46 D [(cI, .int), (cJ, .long), (cO, .object "ShornHill$Sheet")] [.ref (b 0), .int v] [(b 0, .inr (5, [.int fa, .int (nI h), .int (nI w), .int pc, .int br, .ref (b 1), .ref (b 2), .int ra, .int q1, .int q2, .int q3, .int q4, .ref (b 3), .int fw, .int ea, .int sn, .ref (b 4), .ref (b 5), .ref (b 6), .int mo, .int (nI rc), .ref (b 7), .ref (b 8), .ref (b 9), .ref (b 10), .ref (b 11), .ref (b 12), .ref (b 13), .ref (b 14), .int tr])), (b 1, .inl (cI, 16, .inl kd))] (vp_Si (fun (r : Int32) => r = (b2 (¬ (inN v (h * w) ∧ ¬ kd v.toNatClampNeg = 3))))) := by
  refine RG.of (cc := cX5_noGrass) (maxL := 2) (ret := (some .boolean)) (by decide) rfl (Nat.le_of_ble_eq_true rfl) ?_
  intro P_ E_ S_ M_ B_ T_ K_ hx hb hml hr hts hown hlk hP hK ls hl
  have hl : lv_has ls 2 [(0, .ref (b 0)), (1, .int v)] := hl
  have hin5 : ∀ x ∈ u_ws RX5 TX5 30, x ∈ wsX5_noGrass := iwX5_noGrass_X5
  refine lv_aload_n hx hb dX5_noGrass_0 rfl (lv_at hl 0 rfl) ?_
  refine lv_iload_n hx hb dX5_noGrass_1 rfl (lv_at hl 1 rfl) ?_
  refine k_ri (run_RV (As := [.int v]) (rest := []) ⟨hx, hb, hml, hown, hts⟩ (c_X5_noPlace l D cI cJ cO b fa h w pc br ra q1 q2 q3 q4 fw ea sn mo rc tr v hn) (cwV 1 hts gX5_noGrass_X5_noPlace rfl rfl rfl (by decide +kernel) ⟨Nat.le_of_ble_eq_true rfl, Nat.le_of_ble_eq_true rfl⟩) hP hK [0] rfl rfl rfl rfl rfl hl.1 rfl (Nat.le_of_ble_eq_true rfl) dX5_noGrass_2 ⟨Nat.le_refl _, Nat.le_refl _⟩) (fun r_1 q_2 => ?_)
  obtain rfl := q_2
  refine lv_if_ne (tgt := 18) hx hb dX5_noGrass_5 (by decide) (fun c_3 => ?_) (fun c_3 => ?_)
  · have c_3 := b2_t c_3
    refine lv_iconst (v := 1) hx hb dX5_noGrass_18 (by decide) ?_
    refine lv_goto (tgt := 23) hx hb dX5_noGrass_19 (by decide) ?_
    refine rz_ret (v := 1) hx hb hr hlk dX5_noGrass_23 (by decide) ?_
    exact b2_1 (fun z => c_3 z.1)
  · have c_3 := b2_f c_3
    have hv := Decidable.not_not.mp c_3
    refine lv_aload_n hx hb dX5_noGrass_8 rfl (lv_at hl 0 rfl) ?_
    refine va_get (D := D) (ci := 5) (v := .ref (b 1)) (C := RX5) (T := TX5) (N := 30) hx hb hts hin5 hown hK.1 hP 0 rfl rfl 5 (by decide) (hts _ (List.mem_of_getElem? (i := 1) rfl)) (fun _ h9 => h9) rfl dX5_noGrass_9 ?_
    refine lv_iload_n hx hb dX5_noGrass_12 rfl (lv_at hl 1 rfl) ?_
    refine k_iald hx hb hK hP 1 0 rfl rfl (j := v.toNatClampNeg) (inN.vp hv (by omega)) rfl dX5_noGrass_13 ?_
    refine lv_iconst (v := 3) hx hb dX5_noGrass_14 (by decide) ?_
    refine lv_icmp_ne (tgt := 22) hx hb dX5_noGrass_15 (by decide) (fun c_4 => ?_) (fun c_4 => ?_)
    · refine lv_iconst (v := 0) hx hb dX5_noGrass_22 (by decide) ?_
      refine rz_ret (v := 0) hx hb hr hlk dX5_noGrass_23 (by decide) ?_
      exact b2_0 (fun z => z ⟨(Decidable.not_not.mp c_3), c_4⟩)
    · refine lv_iconst (v := 1) hx hb dX5_noGrass_18 (by decide) ?_
      refine lv_goto (tgt := 23) hx hb dX5_noGrass_19 (by decide) ?_
      refine rz_ret (v := 1) hx hb hr hlk dX5_noGrass_23 (by decide) ?_
      exact b2_1 (fun z => z.2 c_4)
theorem iwX5_growsOf_X5 : ∀ x ∈ wsX50, x ∈ wsX5_growsOf := by decide +kernel
set_option maxRecDepth 100000 in
set_option maxHeartbeats 4000000 in
/-- X5_growsOf -/
theorem c_X5_growsOf (l : Launch) (D : va_G) (cI cJ cO : ClassId) (b : Nat → Nat) (fa : Int32) (h : Nat) (w : Nat) (pc : Int32) (br : Int32) (ra : Int32) (q1 : Int32) (q2 : Int32) (q3 : Int32) (q4 : Int32) (fw : Int32) (ea : Int32) (sn : Int32) (mo : Int32) (rc : Nat) (tr : Int32) (kd : Nat → Int32) (c : Int32) (j : Nat) (hk : kdOk (kd j)) (hv_c : vp_in c 16) (hj_c : c.toNatClampNeg = j) : RG l yX5_growsOf wsX5_growsOf 0 0 D [(cI, .int), (cJ, .long), (cO, .object "ShornHill$Sheet")] [.ref (b 0), .int c] [(b 0, .inr (5, [.int fa, .int (nI h), .int (nI w), .int pc, .int br, .ref (b 1), .ref (b 2), .int ra, .int q1, .int q2, .int q3, .int q4, .ref (b 3), .int fw, .int ea, .int sn, .ref (b 4), .ref (b 5), .ref (b 6), .int mo, .int (nI rc), .ref (b 7), .ref (b 8), .ref (b 9), .ref (b 10), .ref (b 11), .ref (b 12), .ref (b 13), .ref (b 14), .int tr])), (b 1, .inl (cI, 16, .inl kd))] (vp_Si (fun (r : Int32) => r = (wk (kd j) pc))) := by
  refine RG.of (cc := cX5_growsOf) (maxL := 3) (ret := (some .int)) (by decide) rfl (Nat.le_of_ble_eq_true rfl) ?_
  intro P_ E_ S_ M_ B_ T_ K_ hx hb hml hr hts hown hlk hP hK ls hl
  have hl : lv_has ls 3 [(0, .ref (b 0)), (1, .int c)] := hl
  have hin5 : ∀ x ∈ u_ws RX5 TX5 30, x ∈ wsX5_growsOf := iwX5_growsOf_X5
  refine lv_aload_n hx hb dX5_growsOf_0 rfl (lv_at hl 0 rfl) ?_
  refine va_get (D := D) (ci := 5) (v := .ref (b 1)) (C := RX5) (T := TX5) (N := 30) hx hb hts hin5 hown hK.1 hP 0 rfl rfl 5 (by decide) (hts _ (List.mem_of_getElem? (i := 1) rfl)) (fun _ h9 => h9) rfl dX5_growsOf_1 ?_
  refine lv_iload_n hx hb dX5_growsOf_4 rfl (lv_at hl 1 rfl) ?_
  refine k_iald hx hb hK hP 1 0 rfl rfl (j := j) hv_c hj_c dX5_growsOf_5 ?_
  refine lv_istore_n (lv' := [(2, .int (kd j)), (0, .ref (b 0)), (1, .int c)]) hx hb dX5_growsOf_6 rfl hl (by decide) rfl (fun ls hl => ?_)
  refine lv_iload_n hx hb dX5_growsOf_7 rfl (lv_at hl 0 rfl) ?_
  refine lv_iconst (v := 3) hx hb dX5_growsOf_8 (by decide) ?_
  refine lv_icmp_ne (tgt := 16) hx hb dX5_growsOf_9 (by decide) (fun c_1 => ?_) (fun c_1 => ?_)
  · refine lv_iload_n hx hb dX5_growsOf_16 rfl (lv_at hl 0 rfl) ?_
    refine lv_if_ne (tgt := 27) hx hb dX5_growsOf_17 (by decide) (fun c_2 => ?_) (fun c_2 => ?_)
    · refine lv_iload_n hx hb dX5_growsOf_27 rfl (lv_at hl 0 rfl) ?_
      refine lv_iconst (v := 1) hx hb dX5_growsOf_28 (by decide) ?_
      refine lv_icmp_ne (tgt := 41) hx hb dX5_growsOf_29 (by decide) (fun c_3 => ?_) (fun c_3 => ?_)
      · refine lv_iconst (v := 2) hx hb dX5_growsOf_41 (by decide) ?_
        refine lv_aload_n hx hb dX5_growsOf_42 rfl (lv_at hl 1 rfl) ?_
        refine va_get (D := D) (ci := 5) (v := .int pc) (C := RX5) (T := TX5) (N := 30) hx hb hts hin5 hown hK.1 hP 0 rfl rfl 3 (by decide) (hts _ (List.mem_of_getElem? (i := 2) rfl)) (fun _ h9 => h9) rfl dX5_growsOf_43 ?_
        refine lv_iconst (v := 1) hx hb dX5_growsOf_46 (by decide) ?_
        refine lv_iadd hx hb dX5_growsOf_47 ?_
        refine lv_imul hx hb dX5_growsOf_48 ?_
        refine ri_ret (v := (2 * (pc + 1))) hx hb hr hlk dX5_growsOf_49 ?_
        exact wk_else _ hk c_1 c_2 c_3
      · refine lv_aload_n hx hb dX5_growsOf_32 rfl (lv_at hl 1 rfl) ?_
        refine va_get (D := D) (ci := 5) (v := .int pc) (C := RX5) (T := TX5) (N := 30) hx hb hts hin5 hown hK.1 hP 0 rfl rfl 3 (by decide) (hts _ (List.mem_of_getElem? (i := 2) rfl)) (fun _ h9 => h9) rfl dX5_growsOf_33 ?_
        refine lv_iconst (v := 1) hx hb dX5_growsOf_36 (by decide) ?_
        refine lv_iadd hx hb dX5_growsOf_37 ?_
        refine lv_goto (tgt := 49) hx hb dX5_growsOf_38 (by decide) ?_
        refine ri_ret (v := (pc + 1)) hx hb hr hlk dX5_growsOf_49 ?_
        rw [c_3]; rfl
    · refine lv_aload_n hx hb dX5_growsOf_20 rfl (lv_at hl 1 rfl) ?_
      refine va_get (D := D) (ci := 5) (v := .int pc) (C := RX5) (T := TX5) (N := 30) hx hb hts hin5 hown hK.1 hP 0 rfl rfl 3 (by decide) (hts _ (List.mem_of_getElem? (i := 2) rfl)) (fun _ h9 => h9) rfl dX5_growsOf_21 ?_
      refine lv_goto (tgt := 49) hx hb dX5_growsOf_24 (by decide) ?_
      refine ri_ret (v := pc) hx hb hr hlk dX5_growsOf_49 ?_
      rw [c_2]; rfl
  · refine lv_iconst (v := 0) hx hb dX5_growsOf_12 (by decide) ?_
    refine lv_goto (tgt := 49) hx hb dX5_growsOf_13 (by decide) ?_
    refine ri_ret (v := 0) hx hb hr hlk dX5_growsOf_49 ?_
    rw [c_1]; rfl
