theorem iwX1_add_X1 : ∀ x ∈ wsX10, x ∈ wsX1_add := by decide +kernel
set_option maxRecDepth 100000 in
set_option maxHeartbeats 4000000 in
/-- X1_add -/
theorem c_X1_add (l : Launch) (D : va_G) (cI cJ cO : ClassId) (a : Nat → Nat) (rc : Nat) (ro : Nat → Int32) (rb : Nat → Int32) (rv : Nat → Int32) (c : Int32) (ws : Int32) (v : Int32) (hrc : rc < 8) : MG l yX1_add wsX1_add 0 0 0 0 D [(cI, .int), (cJ, .long), (cO, .object "ShornHill$Sheet")] [.ref (a 5), .int c, .int ws, .int v] [(a 5, .inr (1, [.int (nI rc), .ref (a 6), .ref (a 7), .ref (a 8)])), (a 6, .inl (cI, 8, .inl ro)), (a 7, .inl (cI, 8, .inl rb)), (a 8, .inl (cI, 8, .inl rv))] (QI D (fun (r : Int32) (w1 : va_W) => r = (nI rc) ∧ w1 = [(a 5, .inr (1, [.int (nI (rc + 1)), .ref (a 6), .ref (a 7), .ref (a 8)])), (a 6, .inl (cI, 8, .inl (upd ro rc c))), (a 7, .inl (cI, 8, .inl (upd rb rc ws))), (a 8, .inl (cI, 8, .inl (upd rv rc v)))])) := by
  refine MG.of (cc := cX1_add) (maxL := 4) (ret := (some .int)) (by decide) rfl (Nat.le_of_ble_eq_true rfl) ?_
  intro P_ E_ S_ M_ B_ T_ K_ hx hb hml hr hts hown hlk hnm A hA hP hK hD hS ls hl
  have hl : lv_has ls 4 [(0, .ref (a 5)), (1, .int c), (2, .int ws), (3, .int v)] := hl
  have hin1 : ∀ x ∈ u_ws RX1 TX1 4, x ∈ wsX1_add := iwX1_add_X1
  refine lv_aload_n hx hb dX1_add_0 rfl (lv_at hl 0 rfl) ?_
  refine va_get (D := D) (ci := 1) (v := .ref (a 6)) (C := RX1) (T := TX1) (N := 4) hx hb hts hin1 hown hK.1 hP 0 rfl rfl 1 (by decide) (hts _ (List.mem_of_getElem? (i := 1) rfl)) (fun _ h9 => h9) rfl dX1_add_1 ?_
  refine lv_aload_n hx hb dX1_add_4 rfl (lv_at hl 0 rfl) ?_
  refine va_get (D := D) (ci := 1) (v := .int (nI rc)) (C := RX1) (T := TX1) (N := 4) hx hb hts hin1 hown hK.1 hP 0 rfl rfl 0 (by decide) (hts _ (List.mem_of_getElem? (i := 2) rfl)) (fun _ h9 => h9) rfl dX1_add_5 ?_
  refine lv_iload_n hx hb dX1_add_8 rfl (lv_at hl 1 rfl) ?_
  refine k_iast hx hb hK hP hD hS 1 0 rfl rfl (j := rc) (vp_in_nI (show rc < 8 by omega) (by decide)) (nI_clamp (by omega)) dX1_add_9 (fun H locs hP hD hS => ?_)
  have hP : va_P D vwCl [(a 5, .inr (1, [.int (nI rc), .ref (a 6), .ref (a 7), .ref (a 8)])), (a 6, .inl (cI, 8, .inl (upd ro rc c))), (a 7, .inl (cI, 8, .inl rb)), (a 8, .inl (cI, 8, .inl rv))] H := hP
  have hD : va_D A [(a 5, .inr (1, [.int (nI rc), .ref (a 6), .ref (a 7), .ref (a 8)])), (a 6, .inl (cI, 8, .inl (upd ro rc c))), (a 7, .inl (cI, 8, .inl rb)), (a 8, .inl (cI, 8, .inl rv))] := hD
  refine lv_aload_n hx hb dX1_add_10 rfl (lv_at hl 0 rfl) ?_
  refine va_get (D := D) (ci := 1) (v := .ref (a 7)) (C := RX1) (T := TX1) (N := 4) hx hb hts hin1 hown hK.1 hP 0 rfl rfl 2 (by decide) (hts _ (List.mem_of_getElem? (i := 3) rfl)) (fun _ h9 => h9) rfl dX1_add_11 ?_
  refine lv_aload_n hx hb dX1_add_14 rfl (lv_at hl 0 rfl) ?_
  refine va_get (D := D) (ci := 1) (v := .int (nI rc)) (C := RX1) (T := TX1) (N := 4) hx hb hts hin1 hown hK.1 hP 0 rfl rfl 0 (by decide) (hts _ (List.mem_of_getElem? (i := 2) rfl)) (fun _ h9 => h9) rfl dX1_add_15 ?_
  refine lv_iload_n hx hb dX1_add_18 rfl (lv_at hl 2 rfl) ?_
  refine k_iast hx hb hK hP hD hS 2 0 rfl rfl (j := rc) (vp_in_nI (show rc < 8 by omega) (by decide)) (nI_clamp (by omega)) dX1_add_19 (fun H locs hP hD hS => ?_)
  have hP : va_P D vwCl [(a 5, .inr (1, [.int (nI rc), .ref (a 6), .ref (a 7), .ref (a 8)])), (a 6, .inl (cI, 8, .inl (upd ro rc c))), (a 7, .inl (cI, 8, .inl (upd rb rc ws))), (a 8, .inl (cI, 8, .inl rv))] H := hP
  have hD : va_D A [(a 5, .inr (1, [.int (nI rc), .ref (a 6), .ref (a 7), .ref (a 8)])), (a 6, .inl (cI, 8, .inl (upd ro rc c))), (a 7, .inl (cI, 8, .inl (upd rb rc ws))), (a 8, .inl (cI, 8, .inl rv))] := hD
  refine lv_aload_n hx hb dX1_add_20 rfl (lv_at hl 0 rfl) ?_
  refine va_get (D := D) (ci := 1) (v := .ref (a 8)) (C := RX1) (T := TX1) (N := 4) hx hb hts hin1 hown hK.1 hP 0 rfl rfl 3 (by decide) (hts _ (List.mem_of_getElem? (i := 4) rfl)) (fun _ h9 => h9) rfl dX1_add_21 ?_
  refine lv_aload_n hx hb dX1_add_24 rfl (lv_at hl 0 rfl) ?_
  refine va_get (D := D) (ci := 1) (v := .int (nI rc)) (C := RX1) (T := TX1) (N := 4) hx hb hts hin1 hown hK.1 hP 0 rfl rfl 0 (by decide) (hts _ (List.mem_of_getElem? (i := 2) rfl)) (fun _ h9 => h9) rfl dX1_add_25 ?_
  refine lv_iload_n hx hb dX1_add_28 rfl (lv_at hl 3 rfl) ?_
  refine k_iast hx hb hK hP hD hS 3 0 rfl rfl (j := rc) (vp_in_nI (show rc < 8 by omega) (by decide)) (nI_clamp (by omega)) dX1_add_29 (fun H locs hP hD hS => ?_)
  have hP : va_P D vwCl [(a 5, .inr (1, [.int (nI rc), .ref (a 6), .ref (a 7), .ref (a 8)])), (a 6, .inl (cI, 8, .inl (upd ro rc c))), (a 7, .inl (cI, 8, .inl (upd rb rc ws))), (a 8, .inl (cI, 8, .inl (upd rv rc v)))] H := hP
  have hD : va_D A [(a 5, .inr (1, [.int (nI rc), .ref (a 6), .ref (a 7), .ref (a 8)])), (a 6, .inl (cI, 8, .inl (upd ro rc c))), (a 7, .inl (cI, 8, .inl (upd rb rc ws))), (a 8, .inl (cI, 8, .inl (upd rv rc v)))] := hD
  refine lv_aload_n hx hb dX1_add_30 rfl (lv_at hl 0 rfl) ?_
  refine lv_dup hx hb dX1_add_31 rfl ?_
  refine va_get (D := D) (ci := 1) (v := .int (nI rc)) (C := RX1) (T := TX1) (N := 4) hx hb hts hin1 hown hK.1 hP 0 rfl rfl 0 (by decide) (hts _ (List.mem_of_getElem? (i := 2) rfl)) (fun _ h9 => h9) rfl dX1_add_32 ?_
  refine lv_iconst (v := 1) hx hb dX1_add_35 (by decide) ?_
  refine lv_iadd hx hb dX1_add_36 ?_
  refine k_top (y := (nI (rc + 1))) (nI_add _ 1) ?_
  refine va_put (D := D) (ci := 1) (v := .int (nI (rc + 1))) (ty := .int) (C := RX1) (T := TX1) (N := 4) hx hb hts hin1 tyX1 tyX1_ok nmX1 hown hK.1 hP hD hS 0 rfl rfl 0 (by decide) (hts _ (List.mem_of_getElem? (i := 2) rfl)) (fun _ h9 => h9) rfl (by decide +kernel) rfl rfl (Nat.le_of_ble_eq_true rfl) dX1_add_37 (fun H locs hP hD hS => ?_)
  have hP : va_P D vwCl [(a 5, .inr (1, [.int (nI (rc + 1)), .ref (a 6), .ref (a 7), .ref (a 8)])), (a 6, .inl (cI, 8, .inl (upd ro rc c))), (a 7, .inl (cI, 8, .inl (upd rb rc ws))), (a 8, .inl (cI, 8, .inl (upd rv rc v)))] H := hP
  have hD : va_D A [(a 5, .inr (1, [.int (nI (rc + 1)), .ref (a 6), .ref (a 7), .ref (a 8)])), (a 6, .inl (cI, 8, .inl (upd ro rc c))), (a 7, .inl (cI, 8, .inl (upd rb rc ws))), (a 8, .inl (cI, 8, .inl (upd rv rc v)))] := hD
  refine lv_aload_n hx hb dX1_add_40 rfl (lv_at hl 0 rfl) ?_
  refine va_get (D := D) (ci := 1) (v := .int (nI (rc + 1))) (C := RX1) (T := TX1) (N := 4) hx hb hts hin1 hown hK.1 hP 0 rfl rfl 0 (by decide) (hts _ (List.mem_of_getElem? (i := 2) rfl)) (fun _ h9 => h9) rfl dX1_add_41 ?_
  refine lv_iconst (v := 1) hx hb dX1_add_44 (by decide) ?_
  refine lv_isub hx hb dX1_add_45 ?_
  refine k_top (y := (nI rc)) (by rw [← nI_add]; exact nI_pred_add rc) ?_
  refine mi_ret (v := (nI rc)) hx hb hr hlk hP hD hS dX1_add_46 ?_
  exact ⟨rfl, rfl⟩
theorem iwX1_areSo_X1 : ∀ x ∈ wsX10, x ∈ wsX1_areSo := by decide +kernel
set_option maxRecDepth 100000 in
set_option maxHeartbeats 4000000 in
/-- X1_areSo -/
theorem c_X1_areSo (l : Launch) (D : va_G) (cI cJ cO : ClassId) (a : Nat → Nat) (h : Nat) (w : Nat) (pc : Int32) (br : Int32) (kd : Nat → Int32) (et : Nat → Int32) (nb : Nat → Int32) (rc : Nat) (ro : Nat → Int32) (rb : Nat → Int32) (rv : Nat → Int32) (hro : ∀ k, k < rc → vp_in (ro k) 16) (hrc : rc ≤ 8) : RG l yX1_areSo wsX1_areSo 2 44 D [(cI, .int), (cJ, .long), (cO, .object "ShornHill$Sheet")] [.ref (a 5), .ref (a 1)] [(a 5, .inr (1, [.int (nI rc), .ref (a 6), .ref (a 7), .ref (a 8)])), (a 6, .inl (cI, 8, .inl ro)), (a 7, .inl (cI, 8, .inl rb)), (a 8, .inl (cI, 8, .inl rv)), (a 1, .inr (0, [.int (nI h), .int (nI w), .int pc, .int br, .ref (a 2), .ref (a 3), .ref (a 4)])), (a 2, .inl (cI, 16, .inl kd)), (a 3, .inl (cI, 16, .inl et)), (a 4, .inl (cI, 64, .inl nb))] (vp_Si (fun (r : Int32) => r = (b2 (soP pc kd et ro rb rv rc)))) := by
  refine RG.of (cc := cX1_areSo) (maxL := 3) (ret := (some .boolean)) (by decide) rfl (Nat.le_of_ble_eq_true rfl) ?_
  intro P_ E_ S_ M_ B_ T_ K_ hx hb hml hr hts hown hlk hP hK ls hl
  have hl : lv_has ls 3 [(0, .ref (a 5)), (1, .ref (a 1))] := hl
  have hin1 : ∀ x ∈ u_ws RX1 TX1 4, x ∈ wsX1_areSo := iwX1_areSo_X1
  refine lv_iconst (v := 0) hx hb dX1_areSo_0 (by decide) ?_
  refine lv_istore_n (lv' := [(2, .int 0), (0, .ref (a 5)), (1, .ref (a 1))]) hx hb dX1_areSo_1 rfl hl (by decide) rfl (fun ls hl => ?_)
  have key_2 : ∀ (n_1 : Nat) (k : Nat), (k ≤ rc) → (soP pc kd et ro rb rv k) → rc - k < n_1 → ∀ ls : Array Slot, lv_has ls 3 [(0, .ref (a 5)), (1, .ref (a 1)), (2, .int (nI k))] → W P_ l E_ ({ frames := 2, cells := 0, slots := 0, locals := 44 } : Room) S_ M_ (([.ref (a 5), .ref (a 1)] : List Value).toArray) B_ T_ K_ S_.heap [] 0 0 (MQ B_ (vp_Si (fun (r : Int32) => r = (b2 (soP pc kd et ro rb rv rc)))) (([.ref (a 5), .ref (a 1)] : List Value).toArray) S_ 0 0 (fun _ => False)) (F0 M_ 2 ls []) := by
    intro n_1
    induction n_1 with
    | zero =>
      intro k hk hs hmu_n_1
      exact absurd hmu_n_1 (Nat.not_lt_zero _)
    | succ n_1 ih_3 =>
      intro k hk hs hmu_n_1 ls hl
      have hl : lv_has ls 3 [(0, .ref (a 5)), (1, .ref (a 1)), (2, .int (nI k))] := hl
      refine lv_iload_n hx hb dX1_areSo_2 rfl (lv_at hl 2 rfl) ?_
      refine lv_aload_n hx hb dX1_areSo_3 rfl (lv_at hl 0 rfl) ?_
      refine va_get (D := D) (ci := 1) (v := .int (nI rc)) (C := RX1) (T := TX1) (N := 4) hx hb hts hin1 hown hK.1 hP 0 rfl rfl 0 (by decide) (hts _ (List.mem_of_getElem? (i := 1) rfl)) (fun _ h9 => h9) rfl dX1_areSo_4 ?_
      refine lv_icmp_ge (tgt := 43) hx hb dX1_areSo_7 (by decide) (fun c_4 => ?_) (fun c_4 => ?_)
      · have c_4 : rc ≤ k := (nI_leI (a := rc) (b := k) (by omega) (by omega)).mp c_4
        refine lv_iconst (v := 1) hx hb dX1_areSo_43 (by decide) ?_
        refine rz_ret (v := 1) hx hb hr hlk dX1_areSo_44 (by decide) ?_
        exact b2_1 (by rw [show rc = k by omega]; exact hs)
      · have c_4 : k < rc := Nat.lt_of_not_le (fun z => c_4 ((nI_leI (a := rc) (b := k) (by omega) (by omega)).mpr z))
        refine lv_aload_n hx hb dX1_areSo_10 rfl (lv_at hl 1 rfl) ?_
        refine lv_aload_n hx hb dX1_areSo_11 rfl (lv_at hl 0 rfl) ?_
        refine va_get (D := D) (ci := 1) (v := .ref (a 6)) (C := RX1) (T := TX1) (N := 4) hx hb hts hin1 hown hK.1 hP 0 rfl rfl 1 (by decide) (hts _ (List.mem_of_getElem? (i := 2) rfl)) (fun _ h9 => h9) rfl dX1_areSo_12 ?_
        refine lv_iload_n hx hb dX1_areSo_15 rfl (lv_at hl 2 rfl) ?_
        refine k_iald hx hb hK hP 1 0 rfl rfl (j := k) (vp_in_nI (show k < 8 by omega) (by decide)) (nI_clamp (by omega)) dX1_areSo_16 ?_
        refine lv_aload_n hx hb dX1_areSo_17 rfl (lv_at hl 0 rfl) ?_
        refine va_get (D := D) (ci := 1) (v := .ref (a 7)) (C := RX1) (T := TX1) (N := 4) hx hb hts hin1 hown hK.1 hP 0 rfl rfl 2 (by decide) (hts _ (List.mem_of_getElem? (i := 3) rfl)) (fun _ h9 => h9) rfl dX1_areSo_18 ?_
        refine lv_iload_n hx hb dX1_areSo_21 rfl (lv_at hl 2 rfl) ?_
        refine k_iald hx hb hK hP 2 0 rfl rfl (j := k) (vp_in_nI (show k < 8 by omega) (by decide)) (nI_clamp (by omega)) dX1_areSo_22 ?_
        refine k_ri (run_RN (As := [.int (ro k), .int (rb k)]) (rest := []) ⟨hx, hb, hml, hown, hts⟩ (c_X0_inches l D cI cJ cO a h w pc br kd et nb (ro k) (rb k) ((ro k).toNatClampNeg) (hro k (by omega)) rfl) ⟨va_cnB 2 hts ggX1_areSo_X0_inches rfl rfl rfl (nw_X1_25 hK) (hts _ (List.mem_of_getElem? (i := 6) rfl)) (by decide +kernel) ⟨Nat.le_of_ble_eq_true rfl, Nat.le_of_ble_eq_true rfl⟩, (hts _ (List.mem_of_getElem? (i := 5) rfl)), (hts _ (List.mem_of_getElem? (i := 7) rfl))⟩ hP hK [4, 5, 6, 7] rfl rfl rfl rfl rfl hl.1 rfl (Nat.le_of_ble_eq_true rfl) dX1_areSo_23 ⟨Nat.le_refl _, Nat.le_refl _⟩) (fun r_5 q_6 => ?_)
        obtain rfl := q_6
        refine lv_aload_n hx hb dX1_areSo_26 rfl (lv_at hl 0 rfl) ?_
        refine va_get (D := D) (ci := 1) (v := .ref (a 8)) (C := RX1) (T := TX1) (N := 4) hx hb hts hin1 hown hK.1 hP 0 rfl rfl 3 (by decide) (hts _ (List.mem_of_getElem? (i := 4) rfl)) (fun _ h9 => h9) rfl dX1_areSo_27 ?_
        refine lv_iload_n hx hb dX1_areSo_30 rfl (lv_at hl 2 rfl) ?_
        refine k_iald hx hb hK hP 3 0 rfl rfl (j := k) (vp_in_nI (show k < 8 by omega) (by decide)) (nI_clamp (by omega)) dX1_areSo_31 ?_
        refine lv_icmp_eq (tgt := 37) hx hb dX1_areSo_32 (by decide) (fun c_7 => ?_) (fun c_7 => ?_)
        · refine lv_iinc (v := (nI (k + 1))) (lv' := [(2, .int (nI (k + 1))), (0, .ref (a 5)), (1, .ref (a 1))]) hx hb dX1_areSo_37 hl (k := 2) rfl (nI_add _ 1) (by decide) rfl (fun ls hl => ?_)
          refine lv_goto (tgt := 2) hx hb dX1_areSo_40 (by decide) ?_
          exact ih_3 (k + 1) (by omega) (fun z hz => (Nat.lt_or_ge z k).elim (hs z) (fun y => by rw [show z = k by omega]; assumption)) (by omega) ls (lv_sub hl [1, 2, 0] rfl)
        · refine lv_iconst (v := 0) hx hb dX1_areSo_35 (by decide) ?_
          refine rz_ret (v := 0) hx hb hr hlk dX1_areSo_36 (by decide) ?_
          exact b2_0 (fun z => absurd (z k (by omega)) (by assumption))
  exact key_2 _ 0 (by omega) (fun z hz => absurd hz (Nat.not_lt_zero z)) (Nat.lt_succ_self _) ls (lv_sub hl [1, 2, 0] rfl)
theorem iwX2_keep_X2 : ∀ x ∈ wsX20, x ∈ wsX2_keep := by decide +kernel
set_option maxRecDepth 100000 in
set_option maxHeartbeats 4000000 in
/-- X2_keep -/
theorem c_X2_keep (l : Launch) (D : va_G) (cI cJ cO : ClassId) (a : Nat → Nat) (td : Nat → Int32) (bs : Nat → Int32) (mo : Int32) (go : Int32) (s : Nat) (h1 : 1 ≤ s) (h2 : s ≤ 16) : MG l yX2_keep wsX2_keep 1 40 0 0 D [(cI, .int), (cJ, .long), (cO, .object "ShornHill$Sheet")] [.ref (a 9), .int (nI s)] [(a 9, .inr (2, [.ref (a 10), .ref (a 11), .int mo, .int go])), (a 10, .inl (cI, 15, .inl td)), (a 11, .inl (cI, 15, .inl bs))] (QV D (fun (w1 : va_W) => w1 = [(a 9, .inr (2, [.ref (a 10), .ref (a 11), .int (nI s), .int go])), (a 10, .inl (cI, 15, .inl td)), (a 11, .inl (cI, 15, .inl (fil td bs (s - 1))))])) := by
  refine MG.of (cc := cX2_keep) (maxL := 2) (ret := none) (by decide) rfl (Nat.le_of_ble_eq_true rfl) ?_
  intro P_ E_ S_ M_ B_ T_ K_ hx hb hml hr hts hown hlk hnm A hA hP hK hD hS ls hl
  have hl : lv_has ls 2 [(0, .ref (a 9)), (1, .int (nI s))] := hl
  have hin2 : ∀ x ∈ u_ws RX2 TX2 4, x ∈ wsX2_keep := iwX2_keep_X2
  refine lv_aload_n hx hb dX2_keep_0 rfl (lv_at hl 0 rfl) ?_
  refine lv_iload_n hx hb dX2_keep_1 rfl (lv_at hl 1 rfl) ?_
  refine va_put (D := D) (ci := 2) (v := .int (nI s)) (ty := .int) (C := RX2) (T := TX2) (N := 4) hx hb hts hin2 tyX2 tyX2_ok nmX2 hown hK.1 hP hD hS 0 rfl rfl 2 (by decide) (hts _ (List.mem_of_getElem? (i := 1) rfl)) (fun _ h9 => h9) rfl (by decide +kernel) rfl rfl (Nat.le_of_ble_eq_true rfl) dX2_keep_2 (fun H locs hP hD hS => ?_)
  have hP : va_P D vwCl [(a 9, .inr (2, [.ref (a 10), .ref (a 11), .int (nI s), .int go])), (a 10, .inl (cI, 15, .inl td)), (a 11, .inl (cI, 15, .inl bs))] H := hP
  have hD : va_D A [(a 9, .inr (2, [.ref (a 10), .ref (a 11), .int (nI s), .int go])), (a 10, .inl (cI, 15, .inl td)), (a 11, .inl (cI, 15, .inl bs))] := hD
  refine lv_aload_n hx hb dX2_keep_5 rfl (lv_at hl 0 rfl) ?_
  refine va_get (D := D) (ci := 2) (v := .ref (a 10)) (C := RX2) (T := TX2) (N := 4) hx hb hts hin2 hown hK.1 hP 0 rfl rfl 0 (by decide) (hts _ (List.mem_of_getElem? (i := 2) rfl)) (fun _ h9 => h9) rfl dX2_keep_6 ?_
  refine lv_iconst (v := 0) hx hb dX2_keep_9 (by decide) ?_
  refine lv_aload_n hx hb dX2_keep_10 rfl (lv_at hl 0 rfl) ?_
  refine va_get (D := D) (ci := 2) (v := .ref (a 11)) (C := RX2) (T := TX2) (N := 4) hx hb hts hin2 hown hK.1 hP 0 rfl rfl 1 (by decide) (hts _ (List.mem_of_getElem? (i := 3) rfl)) (fun _ h9 => h9) rfl dX2_keep_11 ?_
  refine lv_iconst (v := 0) hx hb dX2_keep_14 (by decide) ?_
  refine lv_iload_n hx hb dX2_keep_15 rfl (lv_at hl 1 rfl) ?_
  refine lv_iconst (v := 1) hx hb dX2_keep_16 (by decide) ?_
  refine lv_isub hx hb dX2_keep_17 ?_
  refine k_top (y := (nI (s - 1))) (pk_sub (b := 1) h1) ?_
  refine va_copyi hx hb (hml.trans hl.1.symm) hown (hts _ (List.mem_of_getElem? (i := 4) rfl)) (hts _ (List.mem_of_getElem? (i := 5) rfl)) (hts _ (List.mem_of_getElem? (i := 6) rfl)) (hts _ (List.mem_of_getElem? (i := 7) rfl)) hK.1 hP hD hS 1 2 0 0 rfl rfl rfl rfl rfl (by decide) (by decide) (nI_pos (by omega)) (by rw [nI_clamp (by omega)]; show 0 + _ ≤ 15; omega) (by rw [nI_clamp (by omega)]; show 0 + _ ≤ 15; omega) (fun _ _ => rfl) (Nat.le_of_ble_eq_true rfl) (Nat.le_of_ble_eq_true rfl) dX2_keep_18 (fun H locs hP hD hS => ?_)
  have hP : va_P D vwCl [(a 9, .inr (2, [.ref (a 10), .ref (a 11), .int (nI s), .int go])), (a 10, .inl (cI, 15, .inl td)), (a 11, .inl (cI, 15, .inl (va_cpy td bs (0 : Int32).toNatClampNeg (0 : Int32).toNatClampNeg (nI (s - 1)).toNatClampNeg)))] H := hP
  have hD : va_D A [(a 9, .inr (2, [.ref (a 10), .ref (a 11), .int (nI s), .int go])), (a 10, .inl (cI, 15, .inl td)), (a 11, .inl (cI, 15, .inl (va_cpy td bs (0 : Int32).toNatClampNeg (0 : Int32).toNatClampNeg (nI (s - 1)).toNatClampNeg)))] := hD
  rw [show (va_cpy td bs (0 : Int32).toNatClampNeg (0 : Int32).toNatClampNeg (nI (s - 1)).toNatClampNeg) = (fil td bs (s - 1)) from (by rw [nI_clamp (show s - 1 < 2 ^ 31 by omega)]; exact cpy_fil td bs (s - 1))] at hP hD
  refine mv_ret hx hb hr hlk hP hD hS dX2_keep_21 ?_
  rfl
theorem iwX3_renew_X3 : ∀ x ∈ wsX30, x ∈ wsX3_renew := by decide +kernel
set_option maxRecDepth 100000 in
set_option maxHeartbeats 4000000 in
/-- X3_renew -/
theorem c_X3_renew (l : Launch) (D : va_G) (cI cJ cO : ClassId) (p : Nat) (q : Nat) (hs : Int32) (ln : Int32) (le : Nat) (ro : Nat → Int32) (x : Int32) (n : Nat) (hn : n ≤ 60) : MG l yX3_renew wsX3_renew 0 0 0 0 D [(cI, .int), (cJ, .long), (cO, .object "ShornHill$Sheet")] [.ref p, .int x, .int (nI n)] [(p, .inr (3, [.int hs, .int ln, .int (nI le), .ref q])), (q, .inl (cI, 60, .inl ro))] (QV D (fun (w1 : va_W) => w1 = [(p, .inr (3, [.int 1, .int x, .int (nI n), .ref q])), (q, .inl (cI, 60, .inl (fil (fun _ => 0) ro n)))])) := by
  refine MG.of (cc := cX3_renew) (maxL := 4) (ret := none) (by decide) rfl (Nat.le_of_ble_eq_true rfl) ?_
  intro P_ E_ S_ M_ B_ T_ K_ hx hb hml hr hts hown hlk hnm A hA hP hK hD hS ls hl
  have hl : lv_has ls 4 [(0, .ref p), (1, .int x), (2, .int (nI n))] := hl
  have hin3 : ∀ x ∈ u_ws RX3 TX3 4, x ∈ wsX3_renew := iwX3_renew_X3
  refine lv_aload_n hx hb dX3_renew_0 rfl (lv_at hl 0 rfl) ?_
  refine lv_iconst (v := 1) hx hb dX3_renew_1 (by decide) ?_
  refine va_put (D := D) (ci := 3) (v := .int 1) (ty := .boolean) (C := RX3) (T := TX3) (N := 4) hx hb hts hin3 tyX3 tyX3_ok nmX3 hown hK.1 hP hD hS 0 rfl rfl 0 (by decide) (hts _ (List.mem_of_getElem? (i := 1) rfl)) (fun _ h9 => h9) rfl (by decide +kernel) rfl rfl (Nat.le_of_ble_eq_true rfl) dX3_renew_2 (fun H locs hP hD hS => ?_)
  have hP : va_P D vwCl [(p, .inr (3, [.int 1, .int ln, .int (nI le), .ref q])), (q, .inl (cI, 60, .inl ro))] H := hP
  have hD : va_D A [(p, .inr (3, [.int 1, .int ln, .int (nI le), .ref q])), (q, .inl (cI, 60, .inl ro))] := hD
  refine lv_aload_n hx hb dX3_renew_5 rfl (lv_at hl 0 rfl) ?_
  refine lv_iload_n hx hb dX3_renew_6 rfl (lv_at hl 1 rfl) ?_
  refine va_put (D := D) (ci := 3) (v := .int x) (ty := .int) (C := RX3) (T := TX3) (N := 4) hx hb hts hin3 tyX3 tyX3_ok nmX3 hown hK.1 hP hD hS 0 rfl rfl 1 (by decide) (hts _ (List.mem_of_getElem? (i := 2) rfl)) (fun _ h9 => h9) rfl (by decide +kernel) rfl rfl (Nat.le_of_ble_eq_true rfl) dX3_renew_7 (fun H locs hP hD hS => ?_)
  have hP : va_P D vwCl [(p, .inr (3, [.int 1, .int x, .int (nI le), .ref q])), (q, .inl (cI, 60, .inl ro))] H := hP
  have hD : va_D A [(p, .inr (3, [.int 1, .int x, .int (nI le), .ref q])), (q, .inl (cI, 60, .inl ro))] := hD
  refine lv_aload_n hx hb dX3_renew_10 rfl (lv_at hl 0 rfl) ?_
  refine lv_iload_n hx hb dX3_renew_11 rfl (lv_at hl 2 rfl) ?_
  refine va_put (D := D) (ci := 3) (v := .int (nI n)) (ty := .int) (C := RX3) (T := TX3) (N := 4) hx hb hts hin3 tyX3 tyX3_ok nmX3 hown hK.1 hP hD hS 0 rfl rfl 2 (by decide) (hts _ (List.mem_of_getElem? (i := 3) rfl)) (fun _ h9 => h9) rfl (by decide +kernel) rfl rfl (Nat.le_of_ble_eq_true rfl) dX3_renew_12 (fun H locs hP hD hS => ?_)
  have hP : va_P D vwCl [(p, .inr (3, [.int 1, .int x, .int (nI n), .ref q])), (q, .inl (cI, 60, .inl ro))] H := hP
  have hD : va_D A [(p, .inr (3, [.int 1, .int x, .int (nI n), .ref q])), (q, .inl (cI, 60, .inl ro))] := hD
  refine lv_iconst (v := 0) hx hb dX3_renew_15 (by decide) ?_
  refine lv_istore_n (lv' := [(3, .int 0), (0, .ref p), (1, .int x), (2, .int (nI n))]) hx hb dX3_renew_16 rfl hl (by decide) rfl (fun ls hl => ?_)
  have key_2 : ∀ (n_1 : Nat) (k : Nat) (g : Nat → Int32), (k ≤ n) → g = (fil (fun _ => 0) ro k) → n - k < n_1 → ∀ (H : Heap) (locs : List Loc), va_P D vwCl [(p, .inr (3, [.int 1, .int x, .int (nI n), .ref q])), (q, .inl (cI, 60, .inl g))] H → va_D A [(p, .inr (3, [.int 1, .int x, .int (nI n), .ref q])), (q, .inl (cI, 60, .inl g))] → va_S A S_.heap H locs → ∀ ls : Array Slot, lv_has ls 4 [(0, .ref p), (1, .int x), (2, .int (nI n)), (3, .int (nI k))] → W P_ l E_ ({ frames := 0, cells := 0, slots := 0, locals := 0 } : Room) S_ M_ (([.ref p, .int x, .int (nI n)] : List Value).toArray) B_ T_ K_ H locs 0 0 (MQ B_ ((QV D (fun (w1 : va_W) => w1 = [(p, .inr (3, [.int 1, .int x, .int (nI n), .ref q])), (q, .inl (cI, 60, .inl (fil (fun _ => 0) ro n)))])) A) (([.ref p, .int x, .int (nI n)] : List Value).toArray) S_ 0 0 A) (F0 M_ 17 ls []) := by
    intro n_1
    induction n_1 with
    | zero =>
      intro k g hk e_g hmu_n_1
      exact absurd hmu_n_1 (Nat.not_lt_zero _)
    | succ n_1 ih_3 =>
      intro k g hk e_g hmu_n_1 H locs hP hD hS ls hl
      subst e_g
      have hl : lv_has ls 4 [(0, .ref p), (1, .int x), (2, .int (nI n)), (3, .int (nI k))] := hl
      have hP : va_P D vwCl [(p, .inr (3, [.int 1, .int x, .int (nI n), .ref q])), (q, .inl (cI, 60, .inl (fil (fun _ => 0) ro k)))] H := hP
      have hD : va_D A [(p, .inr (3, [.int 1, .int x, .int (nI n), .ref q])), (q, .inl (cI, 60, .inl (fil (fun _ => 0) ro k)))] := hD
      refine lv_iload_n hx hb dX3_renew_17 rfl (lv_at hl 3 rfl) ?_
      refine lv_iload_n hx hb dX3_renew_18 rfl (lv_at hl 2 rfl) ?_
      refine lv_icmp_ge (tgt := 35) hx hb dX3_renew_19 (by decide) (fun c_4 => ?_) (fun c_4 => ?_)
      · have c_4 : n ≤ k := (nI_leI (a := n) (b := k) (by omega) (by omega)).mp c_4
        refine mv_ret hx hb hr hlk hP hD hS dX3_renew_35 ?_
        rw [show n = k by omega]
      · have c_4 : k < n := Nat.lt_of_not_le (fun z => c_4 ((nI_leI (a := n) (b := k) (by omega) (by omega)).mpr z))
        refine lv_aload_n hx hb dX3_renew_22 rfl (lv_at hl 0 rfl) ?_
        refine va_get (D := D) (ci := 3) (v := .ref q) (C := RX3) (T := TX3) (N := 4) hx hb hts hin3 hown hK.1 hP 0 rfl rfl 3 (by decide) (hts _ (List.mem_of_getElem? (i := 4) rfl)) (fun _ h9 => h9) rfl dX3_renew_23 ?_
        refine lv_iload_n hx hb dX3_renew_26 rfl (lv_at hl 3 rfl) ?_
        refine lv_iconst (v := 0) hx hb dX3_renew_27 (by decide) ?_
        refine k_iast hx hb hK hP hD hS 1 0 rfl rfl (j := k) (vp_in_nI (show k < 60 by omega) (by decide)) (nI_clamp (by omega)) dX3_renew_28 (fun H locs hP hD hS => ?_)
        have hP : va_P D vwCl [(p, .inr (3, [.int 1, .int x, .int (nI n), .ref q])), (q, .inl (cI, 60, .inl (upd (fil (fun _ => 0) ro k) k 0)))] H := hP
        have hD : va_D A [(p, .inr (3, [.int 1, .int x, .int (nI n), .ref q])), (q, .inl (cI, 60, .inl (upd (fil (fun _ => 0) ro k) k 0)))] := hD
        refine lv_iinc (v := (nI (k + 1))) (lv' := [(3, .int (nI (k + 1))), (0, .ref p), (1, .int x), (2, .int (nI n))]) hx hb dX3_renew_29 hl (k := 3) rfl (nI_add _ 1) (by decide) rfl (fun ls hl => ?_)
        refine lv_goto (tgt := 17) hx hb dX3_renew_32 (by decide) ?_
        exact ih_3 (k + 1) (upd (fil (fun _ => 0) ro k) k 0) (by omega) (fil_upd (fun _ => 0) ro k rfl) (by omega) _ _ hP hD hS ls (lv_sub hl [1, 2, 3, 0] rfl)
  exact key_2 _ 0 ro (by omega) (fil_0 _ _).symm (Nat.lt_succ_self _) _ _ hP hD hS ls (lv_sub hl [1, 2, 3, 0] rfl)
theorem iwX3_faultAs_X3 : ∀ x ∈ wsX30, x ∈ wsX3_faultAs := by decide +kernel
set_option maxRecDepth 100000 in
set_option maxHeartbeats 4000000 in
/-- X3_faultAs -/
theorem c_X3_faultAs (l : Launch) (D : va_G) (cI cJ cO : ClassId) (p : Nat) (q : Nat) (hs : Int32) (ln : Int32) (le : Nat) (ro : Nat → Int32) (x : Int32) : RG l yX3_faultAs wsX3_faultAs 0 0 D [(cI, .int), (cJ, .long), (cO, .object "ShornHill$Sheet")] [.ref p, .int x] [(p, .inr (3, [.int hs, .int ln, .int (nI le), .ref q])), (q, .inl (cI, 60, .inl ro))] (vp_Si (fun (r : Int32) => r = (fltF hs ln x))) := by
  refine RG.of (cc := cX3_faultAs) (maxL := 2) (ret := (some .int)) (by decide) rfl (Nat.le_of_ble_eq_true rfl) ?_
  intro P_ E_ S_ M_ B_ T_ K_ hx hb hml hr hts hown hlk hP hK ls hl
  have hl : lv_has ls 2 [(0, .ref p), (1, .int x)] := hl
  have hin3 : ∀ x ∈ u_ws RX3 TX3 4, x ∈ wsX3_faultAs := iwX3_faultAs_X3
  refine lv_aload_n hx hb dX3_faultAs_0 rfl (lv_at hl 0 rfl) ?_
  refine va_get (D := D) (ci := 3) (v := .int hs) (C := RX3) (T := TX3) (N := 4) hx hb hts hin3 hown hK.1 hP 0 rfl rfl 0 (by decide) (hts _ (List.mem_of_getElem? (i := 1) rfl)) (fun _ h9 => h9) rfl dX3_faultAs_1 ?_
  refine lv_if_ne (tgt := 9) hx hb dX3_faultAs_4 (by decide) (fun c_1 => ?_) (fun c_1 => ?_)
  · refine lv_aload_n hx hb dX3_faultAs_9 rfl (lv_at hl 0 rfl) ?_
    refine va_get (D := D) (ci := 3) (v := .int ln) (C := RX3) (T := TX3) (N := 4) hx hb hts hin3 hown hK.1 hP 0 rfl rfl 1 (by decide) (hts _ (List.mem_of_getElem? (i := 2) rfl)) (fun _ h9 => h9) rfl dX3_faultAs_10 ?_
    refine lv_iload_n hx hb dX3_faultAs_13 rfl (lv_at hl 1 rfl) ?_
    refine lv_icmp_ne (tgt := 21) hx hb dX3_faultAs_14 (by decide) (fun c_2 => ?_) (fun c_2 => ?_)
    · refine lv_iconst (v := 2) hx hb dX3_faultAs_21 (by decide) ?_
      refine ri_ret (v := 2) hx hb hr hlk dX3_faultAs_22 ?_
      rw [fltF, if_neg c_1, if_neg c_2]
    · refine lv_iconst (v := 0) hx hb dX3_faultAs_17 (by decide) ?_
      refine lv_goto (tgt := 22) hx hb dX3_faultAs_18 (by decide) ?_
      refine ri_ret (v := 0) hx hb hr hlk dX3_faultAs_22 ?_
      rw [fltF, if_neg c_1, if_pos c_2]
  · refine lv_iconst (v := 1) hx hb dX3_faultAs_7 (by decide) ?_
    refine ri_ret (v := 1) hx hb hr hlk dX3_faultAs_8 ?_
    rw [fltF, if_pos c_1]
theorem iwX3_holds_X3 : ∀ x ∈ wsX30, x ∈ wsX3_holds := by decide +kernel
set_option maxRecDepth 100000 in
set_option maxHeartbeats 4000000 in
/-- X3_holds -/
theorem c_X3_holds (l : Launch) (D : va_G) (cI cJ cO : ClassId) (p : Nat) (q : Nat) (hs : Int32) (ln : Int32) (le : Nat) (ro : Nat → Int32) (x : Int32) (hle : le ≤ 60) : RG l yX3_holds wsX3_holds 0 0 D [(cI, .int), (cJ, .long), (cO, .object "ShornHill$Sheet")] [.ref p, .int x] [(p, .inr (3, [.int hs, .int ln, .int (nI le), .ref q])), (q, .inl (cI, 60, .inl ro))] (vp_Si (fun (r : Int32) => r = (b2 (inN x le)))) := by
  refine RG.of (cc := cX3_holds) (maxL := 2) (ret := (some .boolean)) (by decide) rfl (Nat.le_of_ble_eq_true rfl) ?_
  intro P_ E_ S_ M_ B_ T_ K_ hx hb hml hr hts hown hlk hP hK ls hl
  have hl : lv_has ls 2 [(0, .ref p), (1, .int x)] := hl
  have hin3 : ∀ x ∈ u_ws RX3 TX3 4, x ∈ wsX3_holds := iwX3_holds_X3
  refine lv_iload_n hx hb dX3_holds_0 rfl (lv_at hl 1 rfl) ?_
  refine lv_if_lt (tgt := 16) hx hb dX3_holds_1 (by decide) (fun c_1 => ?_) (fun c_1 => ?_)
  · refine lv_iconst (v := 0) hx hb dX3_holds_16 (by decide) ?_
    refine rz_ret (v := 0) hx hb hr hlk dX3_holds_17 (by decide) ?_
    refine b2_0 ?_
    try simp only [inN, softP, inS, ripP, Int32.lt_iff_toInt_lt, Int32.le_iff_toInt_le, ← Int32.toInt_inj, ti_0, ti_1, ti_2, ti_3, ti_4, ti_8, ti_9, ti_10, ti_14, ti_15, ti_20, ti_60, ti_m1] at c_1 ⊢
    omega
  · refine lv_iload_n hx hb dX3_holds_4 rfl (lv_at hl 1 rfl) ?_
    refine lv_aload_n hx hb dX3_holds_5 rfl (lv_at hl 0 rfl) ?_
    refine va_get (D := D) (ci := 3) (v := .int (nI le)) (C := RX3) (T := TX3) (N := 4) hx hb hts hin3 hown hK.1 hP 0 rfl rfl 2 (by decide) (hts _ (List.mem_of_getElem? (i := 1) rfl)) (fun _ h9 => h9) rfl dX3_holds_6 ?_
    refine lv_icmp_ge (tgt := 16) hx hb dX3_holds_9 (by decide) (fun c_2 => ?_) (fun c_2 => ?_)
    · refine lv_iconst (v := 0) hx hb dX3_holds_16 (by decide) ?_
      refine rz_ret (v := 0) hx hb hr hlk dX3_holds_17 (by decide) ?_
      refine b2_0 ?_
      try simp only [inN, softP, inS, ripP, Int32.lt_iff_toInt_lt, Int32.le_iff_toInt_le, ← Int32.toInt_inj, ti_0, ti_1, ti_2, ti_3, ti_4, ti_8, ti_9, ti_10, ti_14, ti_15, ti_20, ti_60, ti_m1, nI_toInt (show le < 2 ^ 31 by omega)] at c_1 c_2 ⊢
      omega
    · refine lv_iconst (v := 1) hx hb dX3_holds_12 (by decide) ?_
      refine lv_goto (tgt := 17) hx hb dX3_holds_13 (by decide) ?_
      refine rz_ret (v := 1) hx hb hr hlk dX3_holds_17 (by decide) ?_
      refine b2_1 ?_
      try simp only [inN, softP, inS, ripP, Int32.lt_iff_toInt_lt, Int32.le_iff_toInt_le, ← Int32.toInt_inj, ti_0, ti_1, ti_2, ti_3, ti_4, ti_8, ti_9, ti_10, ti_14, ti_15, ti_20, ti_60, ti_m1, nI_toInt (show le < 2 ^ 31 by omega)] at c_1 c_2 ⊢
      omega
theorem iwX3_spans_X3 : ∀ x ∈ wsX30, x ∈ wsX3_spans := by decide +kernel
set_option maxRecDepth 100000 in
set_option maxHeartbeats 4000000 in
/-- X3_spans -/
theorem c_X3_spans (l : Launch) (D : va_G) (cI cJ cO : ClassId) (p : Nat) (q : Nat) (hs : Int32) (ln : Int32) (le : Nat) (ro : Nat → Int32) (i : Int32) (n : Int32) (hle : le ≤ 60) : RG l yX3_spans wsX3_spans 0 0 D [(cI, .int), (cJ, .long), (cO, .object "ShornHill$Sheet")] [.ref p, .int i, .int n] [(p, .inr (3, [.int hs, .int ln, .int (nI le), .ref q])), (q, .inl (cI, 60, .inl ro))] (vp_Si (fun (r : Int32) => r = (b2 (spP i n le)))) := by
  refine RG.of (cc := cX3_spans) (maxL := 3) (ret := (some .boolean)) (by decide) rfl (Nat.le_of_ble_eq_true rfl) ?_
  intro P_ E_ S_ M_ B_ T_ K_ hx hb hml hr hts hown hlk hP hK ls hl
  have hl : lv_has ls 3 [(0, .ref p), (1, .int i), (2, .int n)] := hl
  have hin3 : ∀ x ∈ u_ws RX3 TX3 4, x ∈ wsX3_spans := iwX3_spans_X3
  refine lv_iload_n hx hb dX3_spans_0 rfl (lv_at hl 1 rfl) ?_
  refine lv_if_lt (tgt := 30) hx hb dX3_spans_1 (by decide) (fun c_1 => ?_) (fun c_1 => ?_)
  · refine lv_iconst (v := 0) hx hb dX3_spans_30 (by decide) ?_
    refine rz_ret (v := 0) hx hb hr hlk dX3_spans_31 (by decide) ?_
    refine b2_0 ?_
    simp only [spP, inN, softP, btw, inS, ripP, Int32.lt_iff_toInt_lt, Int32.le_iff_toInt_le, ← Int32.toInt_inj, ti_0, ti_1, ti_2, ti_3, ti_4, ti_8, ti_9, ti_10, ti_14, ti_15, ti_20, ti_60, ti_m1, nI_toInt (show le < 2 ^ 31 by omega)] at c_1 ⊢
    omega
  · refine lv_iload_n hx hb dX3_spans_4 rfl (lv_at hl 2 rfl) ?_
    refine lv_if_lt (tgt := 30) hx hb dX3_spans_5 (by decide) (fun c_2 => ?_) (fun c_2 => ?_)
    · refine lv_iconst (v := 0) hx hb dX3_spans_30 (by decide) ?_
      refine rz_ret (v := 0) hx hb hr hlk dX3_spans_31 (by decide) ?_
      refine b2_0 ?_
      simp only [spP, inN, softP, btw, inS, ripP, Int32.lt_iff_toInt_lt, Int32.le_iff_toInt_le, ← Int32.toInt_inj, ti_0, ti_1, ti_2, ti_3, ti_4, ti_8, ti_9, ti_10, ti_14, ti_15, ti_20, ti_60, ti_m1, nI_toInt (show le < 2 ^ 31 by omega)] at c_1 c_2 ⊢
      omega
    · refine lv_iload_n hx hb dX3_spans_8 rfl (lv_at hl 1 rfl) ?_
      refine lv_aload_n hx hb dX3_spans_9 rfl (lv_at hl 0 rfl) ?_
      refine va_get (D := D) (ci := 3) (v := .int (nI le)) (C := RX3) (T := TX3) (N := 4) hx hb hts hin3 hown hK.1 hP 0 rfl rfl 2 (by decide) (hts _ (List.mem_of_getElem? (i := 1) rfl)) (fun _ h9 => h9) rfl dX3_spans_10 ?_
      refine lv_icmp_gt (tgt := 30) hx hb dX3_spans_13 (by decide) (fun c_3 => ?_) (fun c_3 => ?_)
      · refine lv_iconst (v := 0) hx hb dX3_spans_30 (by decide) ?_
        refine rz_ret (v := 0) hx hb hr hlk dX3_spans_31 (by decide) ?_
        refine b2_0 ?_
        simp only [spP, inN, softP, btw, inS, ripP, Int32.lt_iff_toInt_lt, Int32.le_iff_toInt_le, ← Int32.toInt_inj, ti_0, ti_1, ti_2, ti_3, ti_4, ti_8, ti_9, ti_10, ti_14, ti_15, ti_20, ti_60, ti_m1, nI_toInt (show le < 2 ^ 31 by omega)] at c_1 c_2 c_3 ⊢
        omega
      · have hsub : (nI le - i).toInt = (le : Int) - i.toInt := subT (by simp only [inN, softP, btw, inS, ripP, Int32.lt_iff_toInt_lt, Int32.le_iff_toInt_le, ← Int32.toInt_inj, ti_0, ti_1, ti_2, ti_3, ti_4, ti_8, ti_9, ti_10, ti_14, ti_15, ti_20, ti_60, ti_m1] at c_1; omega) (by simp only [inN, softP, btw, inS, ripP, Int32.lt_iff_toInt_lt, Int32.le_iff_toInt_le, ← Int32.toInt_inj, ti_0, ti_1, ti_2, ti_3, ti_4, ti_8, ti_9, ti_10, ti_14, ti_15, ti_20, ti_60, ti_m1, nI_toInt (show le < 2 ^ 31 by omega)] at c_3; omega) (by omega)
        refine lv_iload_n hx hb dX3_spans_16 rfl (lv_at hl 2 rfl) ?_
        refine lv_aload_n hx hb dX3_spans_17 rfl (lv_at hl 0 rfl) ?_
        refine va_get (D := D) (ci := 3) (v := .int (nI le)) (C := RX3) (T := TX3) (N := 4) hx hb hts hin3 hown hK.1 hP 0 rfl rfl 2 (by decide) (hts _ (List.mem_of_getElem? (i := 1) rfl)) (fun _ h9 => h9) rfl dX3_spans_18 ?_
        refine lv_iload_n hx hb dX3_spans_21 rfl (lv_at hl 1 rfl) ?_
        refine lv_isub hx hb dX3_spans_22 ?_
        refine lv_icmp_gt (tgt := 30) hx hb dX3_spans_23 (by decide) (fun c_4 => ?_) (fun c_4 => ?_)
        · refine lv_iconst (v := 0) hx hb dX3_spans_30 (by decide) ?_
          refine rz_ret (v := 0) hx hb hr hlk dX3_spans_31 (by decide) ?_
          refine b2_0 ?_
          simp only [spP, hsub, inN, softP, btw, inS, ripP, Int32.lt_iff_toInt_lt, Int32.le_iff_toInt_le, ← Int32.toInt_inj, ti_0, ti_1, ti_2, ti_3, ti_4, ti_8, ti_9, ti_10, ti_14, ti_15, ti_20, ti_60, ti_m1, nI_toInt (show le < 2 ^ 31 by omega)] at c_1 c_2 c_3 c_4 ⊢
          omega
        · refine lv_iconst (v := 1) hx hb dX3_spans_26 (by decide) ?_
          refine lv_goto (tgt := 31) hx hb dX3_spans_27 (by decide) ?_
          refine rz_ret (v := 1) hx hb hr hlk dX3_spans_31 (by decide) ?_
          refine b2_1 ?_
          simp only [spP, hsub, inN, softP, btw, inS, ripP, Int32.lt_iff_toInt_lt, Int32.le_iff_toInt_le, ← Int32.toInt_inj, ti_0, ti_1, ti_2, ti_3, ti_4, ti_8, ti_9, ti_10, ti_14, ti_15, ti_20, ti_60, ti_m1, nI_toInt (show le < 2 ^ 31 by omega)] at c_1 c_2 c_3 c_4 ⊢
          omega
theorem iwX3_cut_X3 : ∀ x ∈ wsX30, x ∈ wsX3_cut := by decide +kernel
set_option maxRecDepth 100000 in
set_option maxHeartbeats 4000000 in
/-- X3_cut -/
theorem c_X3_cut (l : Launch) (D : va_G) (cI cJ cO : ClassId) (p : Nat) (q : Nat) (hs : Int32) (ln : Int32) (le : Nat) (ro : Nat → Int32) (v : Int32) : RG l yX3_cut wsX3_cut 0 0 D [(cI, .int), (cJ, .long), (cO, .object "ShornHill$Sheet")] [.ref p, .int v] [(p, .inr (3, [.int hs, .int ln, .int (nI le), .ref q])), (q, .inl (cI, 60, .inl ro))] (vp_Si (fun (r : Int32) => r = (cutF ln v))) := by
  refine RG.of (cc := cX3_cut) (maxL := 2) (ret := (some .int)) (by decide) rfl (Nat.le_of_ble_eq_true rfl) ?_
  intro P_ E_ S_ M_ B_ T_ K_ hx hb hml hr hts hown hlk hP hK ls hl
  have hl : lv_has ls 2 [(0, .ref p), (1, .int v)] := hl
  have hin3 : ∀ x ∈ u_ws RX3 TX3 4, x ∈ wsX3_cut := iwX3_cut_X3
  refine lv_aload_n hx hb dX3_cut_0 rfl (lv_at hl 0 rfl) ?_
  refine va_get (D := D) (ci := 3) (v := .int ln) (C := RX3) (T := TX3) (N := 4) hx hb hts hin3 hown hK.1 hP 0 rfl rfl 1 (by decide) (hts _ (List.mem_of_getElem? (i := 1) rfl)) (fun _ h9 => h9) rfl dX3_cut_1 ?_
  by_cases c_1 : ln = 0
  · refine lv_lookup (off := 28) (tgt := 32) hx hb dX3_cut_4 (by decide) (by rw [c_1]; rfl) (by decide) ?_
    refine lv_iload_n hx hb dX3_cut_32 rfl (lv_at hl 1 rfl) ?_
    refine lv_i2b (v := v.toInt8.toInt32) hx hb dX3_cut_33 rfl ?_
    refine ri_ret (v := v.toInt8.toInt32) hx hb hr hlk dX3_cut_34 ?_
    rw [cutF, if_pos c_1]
  · by_cases c_2 : ln = 1
    · refine lv_lookup (off := 31) (tgt := 35) hx hb dX3_cut_4 (by decide) (by rw [c_2]; rfl) (by decide) ?_
      refine lv_iload_n hx hb dX3_cut_35 rfl (lv_at hl 1 rfl) ?_
      refine lv_i2s (v := v.toInt16.toInt32) hx hb dX3_cut_36 rfl ?_
      refine ri_ret (v := v.toInt16.toInt32) hx hb hr hlk dX3_cut_37 ?_
      rw [cutF, if_neg c_1, if_pos c_2]
    · refine lv_lookup (off := 34) (tgt := 38) hx hb dX3_cut_4 (by decide) (by rw [lv_osw c_1 (show (0 : Int32).toInt = 0 from rfl)]; rw [lv_osw c_2 (show (1 : Int32).toInt = 1 from rfl)]; rfl) (by decide) ?_
      refine lv_iload_n hx hb dX3_cut_38 rfl (lv_at hl 1 rfl) ?_
      refine ri_ret (v := v) hx hb hr hlk dX3_cut_39 ?_
      rw [cutF, if_neg c_1, if_neg c_2]
