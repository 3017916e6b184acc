set_option maxRecDepth 100000 in
set_option maxHeartbeats 4000000 in
/-- X4_areStrokes -/
theorem c_X4_areStrokes (l : Launch) (D : va_G) (cI cJ cO : ClassId) (r : Nat) (i : Nat) (n : Nat) (tx : Nat → Int32) (hin : i + n ≤ 60) : RG l yX4_areStrokes wsX4_areStrokes 0 0 D [(cI, .int), (cJ, .long), (cO, .object "ShornHill$Sheet")] [.ref r, .int (nI i), .int (nI n)] [(r, .inl (cI, 60, .inl tx))] (vp_Si (fun (r : Int32) => r = (b2 (stP tx i n)))) := by
  refine RG.of (cc := cX4_areStrokes) (maxL := 4) (ret := (some .boolean)) (by decide) rfl (Nat.le_of_ble_eq_true rfl) ?_
  intro P_ E_ S_ M_ B_ T_ K_ hx hb hml hr hts hown hlk hP hK ls hl
  have hl : lv_has ls 4 [(0, .ref r), (1, .int (nI i)), (2, .int (nI n))] := hl
  refine lv_iload_n hx hb dX4_areStrokes_0 rfl (lv_at hl 1 rfl) ?_
  refine lv_istore_n (lv' := [(3, .int (nI i)), (0, .ref r), (1, .int (nI i)), (2, .int (nI n))]) hx hb dX4_areStrokes_1 rfl hl (by decide) rfl (fun ls hl => ?_)
  have key_2 : ∀ (n_1 : Nat) (k : Nat), (k ≤ n) → (stP tx i k) → n - k < n_1 → ∀ ls : Array Slot, lv_has ls 4 [(0, .ref r), (1, .int (nI i)), (2, .int (nI n)), (3, .int (nI (i + k)))] → W P_ l E_ ({ frames := 0, cells := 0, slots := 0, locals := 0 } : Room) S_ M_ (([.ref r, .int (nI i), .int (nI n)] : List Value).toArray) B_ T_ K_ S_.heap [] 0 0 (MQ B_ (vp_Si (fun (r : Int32) => r = (b2 (stP tx i n)))) (([.ref r, .int (nI i), .int (nI n)] : List Value).toArray) S_ 0 0 (fun _ => False)) (F0 M_ 2 ls []) := by
    intro n_1
    induction n_1 with
    | zero =>
      intro k hk hs hmu_n_1
      exact absurd hmu_n_1 (Nat.not_lt_zero _)
    | succ n_1 ih_3 =>
      intro k hk hs hmu_n_1 ls hl
      have hl : lv_has ls 4 [(0, .ref r), (1, .int (nI i)), (2, .int (nI n)), (3, .int (nI (i + k)))] := hl
      refine lv_iload_n hx hb dX4_areStrokes_2 rfl (lv_at hl 3 rfl) ?_
      refine lv_iload_n hx hb dX4_areStrokes_3 rfl (lv_at hl 1 rfl) ?_
      refine lv_iload_n hx hb dX4_areStrokes_4 rfl (lv_at hl 2 rfl) ?_
      refine lv_iadd hx hb dX4_areStrokes_5 ?_
      refine k_top (y := (nI (i + n))) (nI_add _ _) ?_
      refine lv_icmp_ge (tgt := 30) hx hb dX4_areStrokes_6 (by decide) (fun c_4 => ?_) (fun c_4 => ?_)
      · have c_4 : i + n ≤ i + k := (nI_leI (a := i + n) (b := i + k) (by omega) (by omega)).mp c_4
        refine lv_iconst (v := 1) hx hb dX4_areStrokes_30 (by decide) ?_
        refine rz_ret (v := 1) hx hb hr hlk dX4_areStrokes_31 (by decide) ?_
        exact b2_1 (by rw [show n = k by omega]; exact hs)
      · have c_4 : i + k < i + n := Nat.lt_of_not_le (fun z => c_4 ((nI_leI (a := i + n) (b := i + k) (by omega) (by omega)).mpr z))
        refine lv_aload_n hx hb dX4_areStrokes_9 rfl (lv_at hl 0 rfl) ?_
        refine lv_iload_n hx hb dX4_areStrokes_10 rfl (lv_at hl 3 rfl) ?_
        refine k_iald hx hb hK hP 0 0 rfl rfl (j := i + k) (vp_in_nI (show i + k < 60 by omega) (by decide)) (nI_clamp (by omega)) dX4_areStrokes_11 ?_
        refine lv_if_lt (tgt := 22) hx hb dX4_areStrokes_12 (by decide) (fun c_5 => ?_) (fun c_5 => ?_)
        · refine lv_iconst (v := 0) hx hb dX4_areStrokes_22 (by decide) ?_
          refine rz_ret (v := 0) hx hb hr hlk dX4_areStrokes_23 (by decide) ?_
          refine b2_0 (fun z => ?_)
          have z1 := z k (by omega)
          simp only [inN, softP, btw, inS, ripP, Int32.lt_iff_toInt_lt, Int32.le_iff_toInt_le, ← Int32.toInt_inj, ti_0, ti_1, ti_2, ti_3, ti_4, ti_8, ti_9, ti_10, ti_14, ti_15, ti_20, ti_60, ti_m1] at z1 c_5
          omega
        · refine lv_aload_n hx hb dX4_areStrokes_15 rfl (lv_at hl 0 rfl) ?_
          refine lv_iload_n hx hb dX4_areStrokes_16 rfl (lv_at hl 3 rfl) ?_
          refine k_iald hx hb hK hP 0 0 rfl rfl (j := i + k) (vp_in_nI (show i + k < 60 by omega) (by decide)) (nI_clamp (by omega)) dX4_areStrokes_17 ?_
          refine lv_iconst (v := 4) hx hb dX4_areStrokes_18 (by decide) ?_
          refine lv_icmp_lt (tgt := 24) hx hb dX4_areStrokes_19 (by decide) (fun c_6 => ?_) (fun c_6 => ?_)
          · refine lv_iinc (v := (nI ((i + k) + 1))) (lv' := [(3, .int (nI ((i + k) + 1))), (0, .ref r), (1, .int (nI i)), (2, .int (nI n))]) hx hb dX4_areStrokes_24 hl (k := 3) rfl (nI_add _ 1) (by decide) rfl (fun ls hl => ?_)
            refine lv_goto (tgt := 2) hx hb dX4_areStrokes_27 (by decide) ?_
            exact ih_3 (k + 1) (by omega) (fun z hz => (Nat.lt_or_ge z k).elim (hs z) (fun y => by rw [show z = k by omega]; simp only [inN, softP, btw, inS, ripP, Int32.lt_iff_toInt_lt, Int32.le_iff_toInt_le, ← Int32.toInt_inj, ti_0, ti_1, ti_2, ti_3, ti_4, ti_8, ti_9, ti_10, ti_14, ti_15, ti_20, ti_60, ti_m1] at c_5 c_6 ⊢; omega)) (by omega) ls (lv_sub hl [1, 2, 3, 0] rfl)
          · refine lv_iconst (v := 0) hx hb dX4_areStrokes_22 (by decide) ?_
            refine rz_ret (v := 0) hx hb hr hlk dX4_areStrokes_23 (by decide) ?_
            refine b2_0 (fun z => ?_)
            have z1 := z k (by omega)
            simp only [inN, softP, btw, inS, ripP, Int32.lt_iff_toInt_lt, Int32.le_iff_toInt_le, ← Int32.toInt_inj, ti_0, ti_1, ti_2, ti_3, ti_4, ti_8, ti_9, ti_10, ti_14, ti_15, ti_20, ti_60, ti_m1] at z1 c_5 c_6
            omega
  exact key_2 _ 0 (by omega) (fun z hz => absurd hz (Nat.not_lt_zero z)) (Nat.lt_succ_self _) ls (lv_sub hl [1, 2, 3, 0] rfl)
theorem iwX4_followed_X4 : ∀ x ∈ wsX40, x ∈ wsX4_followed := by decide +kernel
set_option maxRecDepth 100000 in
set_option maxHeartbeats 4000000 in
/-- X4_followed -/
theorem c_X4_followed (l : Launch) (D : va_G) (cI cJ cO : ClassId) (a : Nat → Nat) (ft : Int32) (tr : Int32) (h : Nat) (w : Nat) (pc : Int32) (br : Int32) (kd : Nat → Int32) (et : Nat → Int32) (nb : Nat → Int32) (r : Nat) (i : Nat) (n : Nat) (tx : Nat → Int32) (ws : Int32) (c : Int32) (v : Int32) (hn : h * w ≤ 16) (hin : i + n ≤ 60) (hst : stP tx i n) (hnb : nbOk h w nb (h * w)) (hc : inN c (h * w)) : RG l yX4_followed wsX4_followed 4 89 D [(cI, .int), (cJ, .long), (cO, .object "ShornHill$Sheet")] [.ref (a 0), .int ws, .int c, .ref r, .int (nI i), .int (nI n), .int v] [(a 0, .inr (4, [.ref (a 1), .ref (a 5), .ref (a 9), .ref (a 12), .int ft, .int tr])), (a 1, .inr (0, [.int (nI h), .int (nI w), .int pc, .int br, .ref (a 2), .ref (a 3), .ref (a 4)])), (a 2, .inl (cI, 16, .inl kd)), (a 3, .inl (cI, 16, .inl et)), (a 4, .inl (cI, 64, .inl nb)), (r, .inl (cI, 60, .inl tx))] (vp_Si (fun (r : Int32) => r = (folR (pthR h w tx i n 0 c (wo (ripS pc br kd et ws (h * w)) c)).1 (pthR h w tx i n 0 c (wo (ripS pc br kd et ws (h * w)) c)).2.1 (pthR h w tx i n 0 c (wo (ripS pc br kd et ws (h * w)) c)).2.2 (ripS pc br kd et ws (h * w)) pc kd et ws (h * w) v))) := by
  refine RG.of (cc := cX4_followed) (maxL := 13) (ret := (some .int)) (by decide) rfl (Nat.le_of_ble_eq_true rfl) ?_
  intro P_ E_ S_ M_ B_ T_ K_ hx hb hml hr hts hown hlk hP hK ls hl
  have hl : lv_has ls 13 [(0, .ref (a 0)), (1, .int ws), (2, .int c), (3, .ref r), (4, .int (nI i)), (5, .int (nI n)), (6, .int v)] := hl
  have hin4 : ∀ x ∈ u_ws RX4 TX4 6, x ∈ wsX4_followed := iwX4_followed_X4
  refine lv_aload_n hx hb dX4_followed_0 rfl (lv_at hl 0 rfl) ?_
  refine va_get (D := D) (ci := 4) (v := .ref (a 1)) (C := RX4) (T := TX4) (N := 6) hx hb hts hin4 hown hK.1 hP 0 rfl rfl 0 (by decide) (hts _ (List.mem_of_getElem? (i := 1) rfl)) (fun _ h9 => h9) rfl dX4_followed_1 ?_
  refine lv_iload_n hx hb dX4_followed_4 rfl (lv_at hl 1 rfl) ?_
  refine k_ri (run_RN (As := [.int ws]) (rest := []) ⟨hx, hb, hml, hown, hts⟩ (c_X0_ripeCells l D cI cJ cO a h w pc br kd et nb ws hn) ⟨va_cnB 1 hts ggX4_followed_X0_ripeCells rfl rfl rfl (nw_X4_123 hK) (hts _ (List.mem_of_getElem? (i := 3) rfl)) (by decide +kernel) ⟨Nat.le_of_ble_eq_true rfl, Nat.le_of_ble_eq_true rfl⟩, (hts _ (List.mem_of_getElem? (i := 2) rfl)), (hts _ (List.mem_of_getElem? (i := 4) rfl))⟩ hP hK [1, 2, 3, 4] rfl rfl rfl rfl rfl hl.1 rfl (Nat.le_of_ble_eq_true rfl) dX4_followed_5 ⟨Nat.le_refl _, Nat.le_refl _⟩) (fun r_1 q_2 => ?_)
  obtain rfl := q_2
  refine lv_istore (lv' := [(7, .int (ripS pc br kd et ws (h * w))), (0, .ref (a 0)), (1, .int ws), (2, .int c), (3, .ref r), (4, .int (nI i)), (5, .int (nI n)), (6, .int v)]) hx hb dX4_followed_8 hl (by decide) rfl (fun ls hl => ?_)
  refine lv_iload hx hb dX4_followed_10 (lv_at hl 0 rfl) ?_
  refine lv_iload_n hx hb dX4_followed_12 rfl (lv_at hl 3 rfl) ?_
  refine k_ri (run_RS (As := [.int (ripS pc br kd et ws (h * w)), .int c]) (rest := []) ⟨hx, hb, hml, hown, hts⟩ (c_X4_without l D cI cJ cO (ripS pc br kd et ws (h * w)) c) (va_cwS 2 hts gX4_followed_X4_without rfl rfl rfl (by decide +kernel) ⟨Nat.le_of_ble_eq_true rfl, Nat.le_of_ble_eq_true rfl⟩) hP hK [] rfl rfl hl.1 rfl (Nat.le_of_ble_eq_true rfl) dX4_followed_13 ⟨Nat.le_refl _, Nat.le_refl _⟩) (fun r_3 q_4 => ?_)
  obtain rfl := q_4
  refine lv_istore (lv' := [(8, .int (wo (ripS pc br kd et ws (h * w)) c)), (7, .int (ripS pc br kd et ws (h * w))), (0, .ref (a 0)), (1, .int ws), (2, .int c), (3, .ref r), (4, .int (nI i)), (5, .int (nI n)), (6, .int v)]) hx hb dX4_followed_16 hl (by decide) rfl (fun ls hl => ?_)
  refine lv_iload_n hx hb dX4_followed_18 rfl (lv_at hl 4 rfl) ?_
  refine lv_istore (lv' := [(9, .int c), (8, .int (wo (ripS pc br kd et ws (h * w)) c)), (7, .int (ripS pc br kd et ws (h * w))), (0, .ref (a 0)), (1, .int ws), (2, .int c), (3, .ref r), (4, .int (nI i)), (5, .int (nI n)), (6, .int v)]) hx hb dX4_followed_19 hl (by decide) rfl (fun ls hl => ?_)
  refine lv_bipush (v := (-9)) hx hb dX4_followed_21 (by decide) ?_
  refine lv_istore (lv' := [(10, .int (-9)), (9, .int c), (8, .int (wo (ripS pc br kd et ws (h * w)) c)), (7, .int (ripS pc br kd et ws (h * w))), (0, .ref (a 0)), (1, .int ws), (2, .int c), (3, .ref r), (4, .int (nI i)), (5, .int (nI n)), (6, .int v)]) hx hb dX4_followed_23 hl (by decide) rfl (fun ls hl => ?_)
  refine lv_iconst (v := 0) hx hb dX4_followed_25 (by decide) ?_
  refine lv_istore (lv' := [(11, .int 0), (10, .int (-9)), (9, .int c), (8, .int (wo (ripS pc br kd et ws (h * w)) c)), (7, .int (ripS pc br kd et ws (h * w))), (0, .ref (a 0)), (1, .int ws), (2, .int c), (3, .ref r), (4, .int (nI i)), (5, .int (nI n)), (6, .int v)]) hx hb dX4_followed_26 hl (by decide) rfl (fun ls hl => ?_)
  have key_6 : ∀ (n_5 : Nat) (k : Nat) (p : Int32) (lf : Int32) (wr : Int32), (k ≤ n) → (inN p (h * w)) → ((wr = -9 ∧ pthR h w tx i (n - k) k p lf = pthR h w tx i n 0 c (wo (ripS pc br kd et ws (h * w)) c)) ∨ (¬ wr = -9 ∧ (p, lf, wr) = pthR h w tx i n 0 c (wo (ripS pc br kd et ws (h * w)) c))) → n - k < n_5 → ∀ ls : Array Slot, lv_has ls 13 [(0, .ref (a 0)), (1, .int ws), (2, .int c), (3, .ref r), (4, .int (nI i)), (5, .int (nI n)), (6, .int v), (7, .int (ripS pc br kd et ws (h * w))), (8, .int lf), (9, .int p), (10, .int wr), (11, .int (nI k))] → W P_ l E_ ({ frames := 4, cells := 0, slots := 0, locals := 89 } : Room) S_ M_ (([.ref (a 0), .int ws, .int c, .ref r, .int (nI i), .int (nI n), .int v] : List Value).toArray) B_ T_ K_ S_.heap [] 0 0 (MQ B_ (vp_Si (fun (r : Int32) => r = (folR (pthR h w tx i n 0 c (wo (ripS pc br kd et ws (h * w)) c)).1 (pthR h w tx i n 0 c (wo (ripS pc br kd et ws (h * w)) c)).2.1 (pthR h w tx i n 0 c (wo (ripS pc br kd et ws (h * w)) c)).2.2 (ripS pc br kd et ws (h * w)) pc kd et ws (h * w) v))) (([.ref (a 0), .int ws, .int c, .ref r, .int (nI i), .int (nI n), .int v] : List Value).toArray) S_ 0 0 (fun _ => False)) (F0 M_ 28 ls []) := by
    intro n_5
    induction n_5 with
    | zero =>
      intro k p lf wr hk hp hF hmu_n_5
      exact absurd hmu_n_5 (Nat.not_lt_zero _)
    | succ n_5 ih_7 =>
      intro k p lf wr hk hp hF hmu_n_5 ls hl
      have hl : lv_has ls 13 [(0, .ref (a 0)), (1, .int ws), (2, .int c), (3, .ref r), (4, .int (nI i)), (5, .int (nI n)), (6, .int v), (7, .int (ripS pc br kd et ws (h * w))), (8, .int lf), (9, .int p), (10, .int wr), (11, .int (nI k))] := hl
      refine lv_iload hx hb dX4_followed_28 (lv_at hl 11 rfl) ?_
      refine lv_iload hx hb dX4_followed_30 (lv_at hl 5 rfl) ?_
      refine lv_icmp_ge (tgt := 96) hx hb dX4_followed_32 (by decide) (fun c_8 => ?_) (fun c_8 => ?_)
      · have c_8 : n ≤ k := (nI_leI (a := n) (b := k) (by omega) (by omega)).mp c_8
        have hE := pth_end hF (by first | exact Or.inl (by assumption) | exact Or.inr (by assumption))
        refine lv_iload hx hb dX4_followed_96 (lv_at hl 6 rfl) ?_
        refine lv_iconst (v := 1) hx hb dX4_followed_98 (by decide) ?_
        refine lv_icmp_ne (tgt := 105) hx hb dX4_followed_99 (by decide) (fun c_9 => ?_) (fun c_9 => ?_)
        · refine lv_iload hx hb dX4_followed_105 (lv_at hl 10 rfl) ?_
          refine lv_bipush (v := (-9)) hx hb dX4_followed_107 (by decide) ?_
          refine lv_icmp_eq (tgt := 118) hx hb dX4_followed_109 (by decide) (fun c_10 => ?_) (fun c_10 => ?_)
          · refine lv_iload hx hb dX4_followed_118 (lv_at hl 6 rfl) ?_
            refine lv_if_ne (tgt := 126) hx hb dX4_followed_120 (by decide) (fun c_11 => ?_) (fun c_11 => ?_)
            · refine lv_iload hx hb dX4_followed_126 (lv_at hl 7 rfl) ?_
              refine lv_iload hx hb dX4_followed_128 (lv_at hl 8 rfl) ?_
              refine lv_iconst (v := (-1)) hx hb dX4_followed_130 (by decide) ?_
              refine lv_ixor hx hb dX4_followed_131 ?_
              refine lv_iand hx hb dX4_followed_132 ?_
              refine lv_istore (lv' := [(11, .int ((ripS pc br kd et ws (h * w)) &&& (lf ^^^ (-1)))), (0, .ref (a 0)), (1, .int ws), (2, .int c), (3, .ref r), (4, .int (nI i)), (5, .int (nI n)), (6, .int v), (7, .int (ripS pc br kd et ws (h * w))), (8, .int lf), (9, .int p), (10, .int wr)]) hx hb dX4_followed_133 hl (by decide) rfl (fun ls hl => ?_)
              refine lv_iload hx hb dX4_followed_135 (lv_at hl 7 rfl) ?_
              refine lv_iconst (v := 2) hx hb dX4_followed_137 (by decide) ?_
              refine lv_icmp_ne (tgt := 146) hx hb dX4_followed_138 (by decide) (fun c_12 => ?_) (fun c_12 => ?_)
              · refine lv_aload_n hx hb dX4_followed_146 rfl (lv_at hl 1 rfl) ?_
                refine va_get (D := D) (ci := 4) (v := .ref (a 1)) (C := RX4) (T := TX4) (N := 6) hx hb hts hin4 hown hK.1 hP 0 rfl rfl 0 (by decide) (hts _ (List.mem_of_getElem? (i := 1) rfl)) (fun _ h9 => h9) rfl dX4_followed_147 ?_
                refine lv_iload hx hb dX4_followed_150 (lv_at hl 0 rfl) ?_
                refine lv_iload_n hx hb dX4_followed_152 rfl (lv_at hl 2 rfl) ?_
                refine k_ri (run_RN (As := [.int ((ripS pc br kd et ws (h * w)) &&& (lf ^^^ (-1))), .int ws]) (rest := []) ⟨hx, hb, hml, hown, hts⟩ (c_X0_inchesOfAll l D cI cJ cO a h w pc br kd et nb ((ripS pc br kd et ws (h * w)) &&& (lf ^^^ (-1))) ws hn) ⟨va_cnB 2 hts ggX4_followed_X0_inchesOfAll rfl rfl rfl (nw_X4_243 hK) (hts _ (List.mem_of_getElem? (i := 3) rfl)) (by decide +kernel) ⟨Nat.le_of_ble_eq_true rfl, Nat.le_of_ble_eq_true rfl⟩, (hts _ (List.mem_of_getElem? (i := 49) rfl)), (hts _ (List.mem_of_getElem? (i := 50) rfl))⟩ hP hK [1, 2, 3, 4] rfl rfl rfl rfl rfl hl.1 rfl (Nat.le_of_ble_eq_true rfl) dX4_followed_153 ⟨Nat.le_refl _, Nat.le_refl _⟩) (fun r_13 q_14 => ?_)
                obtain rfl := q_14
                refine ri_ret (v := (csum ((ripS pc br kd et ws (h * w)) &&& (lf ^^^ (-1))) pc kd et ws (h * w))) hx hb hr hlk dX4_followed_156 ?_
                rw [← hE]
                show _ = folR p lf wr _ _ _ _ _ _ _
                rw [folR, if_neg c_9, if_pos c_10, if_neg c_11, if_neg c_12]
              · refine lv_iload hx hb dX4_followed_141 (lv_at hl 0 rfl) ?_
                refine lv_goto (tgt := 156) hx hb dX4_followed_143 (by decide) ?_
                refine ri_ret (v := ((ripS pc br kd et ws (h * w)) &&& (lf ^^^ (-1)))) hx hb hr hlk dX4_followed_156 ?_
                rw [← hE]
                show _ = folR p lf wr _ _ _ _ _ _ _
                rw [folR, if_neg c_9, if_pos c_10, if_neg c_11, if_pos c_12]
            · refine lv_iload hx hb dX4_followed_123 (lv_at hl 9 rfl) ?_
              refine ri_ret (v := p) hx hb hr hlk dX4_followed_125 ?_
              rw [← hE]
              show _ = folR p lf wr _ _ _ _ _ _ _
              rw [folR, if_neg c_9, if_pos c_10, if_pos c_11]
          · refine lv_bipush (v := (-100)) hx hb dX4_followed_112 (by decide) ?_
            refine lv_iload hx hb dX4_followed_114 (lv_at hl 10 rfl) ?_
            refine lv_isub hx hb dX4_followed_116 ?_
            refine ri_ret (v := ((-100) - wr)) hx hb hr hlk dX4_followed_117 ?_
            rw [← hE]
            show _ = folR p lf wr _ _ _ _ _ _ _
            rw [folR, if_neg c_9, if_neg c_10]
        · refine lv_iload hx hb dX4_followed_102 (lv_at hl 10 rfl) ?_
          refine ri_ret (v := wr) hx hb hr hlk dX4_followed_104 ?_
          rw [← hE]
          show _ = folR p lf wr _ _ _ _ _ _ _
          rw [folR, if_pos c_9]
      · have c_8 : k < n := Nat.lt_of_not_le (fun z => c_8 ((nI_leI (a := n) (b := k) (by omega) (by omega)).mpr z))
        refine lv_iload hx hb dX4_followed_35 (lv_at hl 10 rfl) ?_
        refine lv_bipush (v := (-9)) hx hb dX4_followed_37 (by decide) ?_
        refine lv_icmp_ne (tgt := 96) hx hb dX4_followed_39 (by decide) (fun c_15 => ?_) (fun c_15 => ?_)
        · have hE := pth_end hF (by first | exact Or.inl (by assumption) | exact Or.inr (by assumption))
          refine lv_iload hx hb dX4_followed_96 (lv_at hl 6 rfl) ?_
          refine lv_iconst (v := 1) hx hb dX4_followed_98 (by decide) ?_
          refine lv_icmp_ne (tgt := 105) hx hb dX4_followed_99 (by decide) (fun c_16 => ?_) (fun c_16 => ?_)
          · refine lv_iload hx hb dX4_followed_105 (lv_at hl 10 rfl) ?_
            refine lv_bipush (v := (-9)) hx hb dX4_followed_107 (by decide) ?_
            refine lv_icmp_eq (tgt := 118) hx hb dX4_followed_109 (by decide) (fun c_17 => ?_) (fun c_17 => ?_)
            · exact absurd c_17 c_15
            · refine lv_bipush (v := (-100)) hx hb dX4_followed_112 (by decide) ?_
              refine lv_iload hx hb dX4_followed_114 (lv_at hl 10 rfl) ?_
              refine lv_isub hx hb dX4_followed_116 ?_
              refine ri_ret (v := ((-100) - wr)) hx hb hr hlk dX4_followed_117 ?_
              rw [← hE]
              show _ = folR p lf wr _ _ _ _ _ _ _
              rw [folR, if_neg c_16, if_neg c_17]
          · refine lv_iload hx hb dX4_followed_102 (lv_at hl 10 rfl) ?_
            refine ri_ret (v := wr) hx hb hr hlk dX4_followed_104 ?_
            rw [← hE]
            show _ = folR p lf wr _ _ _ _ _ _ _
            rw [folR, if_pos c_16]
        · refine lv_aload_n hx hb dX4_followed_42 rfl (lv_at hl 0 rfl) ?_
          refine va_get (D := D) (ci := 4) (v := .ref (a 1)) (C := RX4) (T := TX4) (N := 6) hx hb hts hin4 hown hK.1 hP 0 rfl rfl 0 (by decide) (hts _ (List.mem_of_getElem? (i := 1) rfl)) (fun _ h9 => h9) rfl dX4_followed_43 ?_
          refine lv_iload hx hb dX4_followed_46 (lv_at hl 9 rfl) ?_
          refine lv_aload_n hx hb dX4_followed_48 rfl (lv_at hl 3 rfl) ?_
          refine lv_iload hx hb dX4_followed_49 (lv_at hl 4 rfl) ?_
          refine lv_iload hx hb dX4_followed_51 (lv_at hl 11 rfl) ?_
          refine lv_iadd hx hb dX4_followed_53 ?_
          refine k_top (y := (nI (i + k))) (nI_add _ _) ?_
          refine k_iald hx hb hK hP 5 0 rfl rfl (j := i + k) (vp_in_nI (show i + k < 60 by omega) (by decide)) (nI_clamp (by omega)) dX4_followed_54 ?_
          refine k_ri (run_RN (As := [.int p, .int (tx (i + k))]) (rest := []) ⟨hx, hb, hml, hown, hts⟩ (c_X0_beside l D cI cJ cO a h w pc br kd et nb p (tx (i + k)) p.toNatClampNeg ((tx (i + k)).toNatClampNeg) (hp.vp hn) rfl ((hst k (by omega)).vp (Nat.le_refl _)) rfl) ⟨va_cnB 2 hts ggX4_followed_X0_beside rfl rfl rfl (nw_X4_240 hK) (hts _ (List.mem_of_getElem? (i := 3) rfl)) (by decide +kernel) ⟨Nat.le_of_ble_eq_true rfl, Nat.le_of_ble_eq_true rfl⟩, (hts _ (List.mem_of_getElem? (i := 42) rfl)), (hts _ (List.mem_of_getElem? (i := 43) rfl))⟩ hP hK [1, 2, 3, 4] rfl rfl rfl rfl rfl hl.1 rfl (Nat.le_of_ble_eq_true rfl) dX4_followed_55 ⟨Nat.le_refl _, Nat.le_refl _⟩) (fun r_18 q_19 => ?_)
          obtain rfl := q_19
          refine k_top (y := (nbF h w p.toNatClampNeg (tx (i + k)).toNatClampNeg)) (hnb _ hp.lt _ (hst k (by omega)).lt) ?_
          refine lv_istore (lv' := [(12, .int (nbF h w p.toNatClampNeg (tx (i + k)).toNatClampNeg)), (0, .ref (a 0)), (1, .int ws), (2, .int c), (3, .ref r), (4, .int (nI i)), (5, .int (nI n)), (6, .int v), (7, .int (ripS pc br kd et ws (h * w))), (8, .int lf), (9, .int p), (10, .int wr), (11, .int (nI k))]) hx hb dX4_followed_58 hl (by decide) rfl (fun ls hl => ?_)
          refine lv_iload hx hb dX4_followed_60 (lv_at hl 9 rfl) ?_
          refine lv_iload hx hb dX4_followed_62 (lv_at hl 0 rfl) ?_
          refine k_ri (run_RS (As := [.int lf, .int (nbF h w p.toNatClampNeg (tx (i + k)).toNatClampNeg)]) (rest := []) ⟨hx, hb, hml, hown, hts⟩ (c_X4_isIn l D cI cJ cO lf (nbF h w p.toNatClampNeg (tx (i + k)).toNatClampNeg)) (va_cwS 2 hts gX4_followed_X4_isIn rfl rfl rfl (by decide +kernel) ⟨Nat.le_of_ble_eq_true rfl, Nat.le_of_ble_eq_true rfl⟩) hP hK [] rfl rfl hl.1 rfl (Nat.le_of_ble_eq_true rfl) dX4_followed_64 ⟨Nat.le_refl _, Nat.le_refl _⟩) (fun r_20 q_21 => ?_)
          obtain rfl := q_21
          refine lv_if_eq (tgt := 86) hx hb dX4_followed_67 (by decide) (fun c_22 => ?_) (fun c_22 => ?_)
          · have c_22 := b2_f c_22
            refine lv_iload hx hb dX4_followed_86 (lv_at hl 12 rfl) ?_
            refine lv_istore (lv' := [(10, .int (nI k)), (12, .int (nbF h w p.toNatClampNeg (tx (i + k)).toNatClampNeg)), (0, .ref (a 0)), (1, .int ws), (2, .int c), (3, .ref r), (4, .int (nI i)), (5, .int (nI n)), (6, .int v), (7, .int (ripS pc br kd et ws (h * w))), (8, .int lf), (9, .int p), (11, .int (nI k))]) hx hb dX4_followed_88 hl (by decide) rfl (fun ls hl => ?_)
            refine lv_iinc (v := (nI (k + 1))) (lv' := [(11, .int (nI (k + 1))), (10, .int (nI k)), (12, .int (nbF h w p.toNatClampNeg (tx (i + k)).toNatClampNeg)), (0, .ref (a 0)), (1, .int ws), (2, .int c), (3, .ref r), (4, .int (nI i)), (5, .int (nI n)), (6, .int v), (7, .int (ripS pc br kd et ws (h * w))), (8, .int lf), (9, .int p)]) hx hb dX4_followed_90 hl (k := 12) rfl (nI_add _ 1) (by decide) rfl (fun ls hl => ?_)
            refine lv_goto (tgt := 28) hx hb dX4_followed_93 (by decide) ?_
            exact ih_7 (k + 1) p lf (nI k) (by omega) hp (pth_f (by omega) (by omega) (by assumption) hF (by assumption)) (by omega) ls (lv_sub hl [3, 4, 5, 6, 7, 8, 9, 10, 11, 12, 1, 0] rfl)
          · have c_22 := b2_t c_22
            refine lv_iload hx hb dX4_followed_70 (lv_at hl 0 rfl) ?_
            refine lv_istore (lv' := [(9, .int (nbF h w p.toNatClampNeg (tx (i + k)).toNatClampNeg)), (12, .int (nbF h w p.toNatClampNeg (tx (i + k)).toNatClampNeg)), (0, .ref (a 0)), (1, .int ws), (2, .int c), (3, .ref r), (4, .int (nI i)), (5, .int (nI n)), (6, .int v), (7, .int (ripS pc br kd et ws (h * w))), (8, .int lf), (10, .int wr), (11, .int (nI k))]) hx hb dX4_followed_72 hl (by decide) rfl (fun ls hl => ?_)
            refine lv_iload hx hb dX4_followed_74 (lv_at hl 10 rfl) ?_
            refine lv_iload hx hb dX4_followed_76 (lv_at hl 1 rfl) ?_
            refine k_ri (run_RS (As := [.int lf, .int (nbF h w p.toNatClampNeg (tx (i + k)).toNatClampNeg)]) (rest := []) ⟨hx, hb, hml, hown, hts⟩ (c_X4_without l D cI cJ cO lf (nbF h w p.toNatClampNeg (tx (i + k)).toNatClampNeg)) (va_cwS 2 hts gX4_followed_X4_without rfl rfl rfl (by decide +kernel) ⟨Nat.le_of_ble_eq_true rfl, Nat.le_of_ble_eq_true rfl⟩) hP hK [] rfl rfl hl.1 rfl (Nat.le_of_ble_eq_true rfl) dX4_followed_78 ⟨Nat.le_refl _, Nat.le_refl _⟩) (fun r_23 q_24 => ?_)
            obtain rfl := q_24
            refine lv_istore (lv' := [(8, .int (wo lf (nbF h w p.toNatClampNeg (tx (i + k)).toNatClampNeg))), (9, .int (nbF h w p.toNatClampNeg (tx (i + k)).toNatClampNeg)), (12, .int (nbF h w p.toNatClampNeg (tx (i + k)).toNatClampNeg)), (0, .ref (a 0)), (1, .int ws), (2, .int c), (3, .ref r), (4, .int (nI i)), (5, .int (nI n)), (6, .int v), (7, .int (ripS pc br kd et ws (h * w))), (10, .int wr), (11, .int (nI k))]) hx hb dX4_followed_81 hl (by decide) rfl (fun ls hl => ?_)
            refine lv_goto (tgt := 90) hx hb dX4_followed_83 (by decide) ?_
            refine lv_iinc (v := (nI (k + 1))) (lv' := [(11, .int (nI (k + 1))), (8, .int (wo lf (nbF h w p.toNatClampNeg (tx (i + k)).toNatClampNeg))), (9, .int (nbF h w p.toNatClampNeg (tx (i + k)).toNatClampNeg)), (12, .int (nbF h w p.toNatClampNeg (tx (i + k)).toNatClampNeg)), (0, .ref (a 0)), (1, .int ws), (2, .int c), (3, .ref r), (4, .int (nI i)), (5, .int (nI n)), (6, .int v), (7, .int (ripS pc br kd et ws (h * w))), (10, .int wr)]) hx hb dX4_followed_90 hl (k := 12) rfl (nI_add _ 1) (by decide) rfl (fun ls hl => ?_)
            refine lv_goto (tgt := 28) hx hb dX4_followed_93 (by decide) ?_
            exact ih_7 (k + 1) (nbF h w p.toNatClampNeg (tx (i + k)).toNatClampNeg) (wo lf (nbF h w p.toNatClampNeg (tx (i + k)).toNatClampNeg)) wr (by omega) (nbF_in hp.lt hn (by assumption)) (pth_t (by omega) (by assumption) hF (by assumption)) (by omega) ls (lv_sub hl [4, 5, 6, 7, 8, 9, 10, 11, 1, 2, 12, 0] rfl)
  exact key_6 _ 0 c (wo (ripS pc br kd et ws (h * w)) c) (-9) (by omega) hc (Or.inl ⟨rfl, rfl⟩) (Nat.lt_succ_self _) ls (lv_sub hl [5, 6, 7, 8, 9, 10, 11, 4, 3, 2, 1, 0] rfl)
