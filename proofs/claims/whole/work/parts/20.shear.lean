theorem iwX4_shear_X2 : ∀ x ∈ wsX20, x ∈ wsX4_shear := by decide +kernel
set_option maxRecDepth 100000 in
set_option maxHeartbeats 4000000 in
theorem c_X4_shear_r (l : Launch) (D : va_G) (cI cJ cO : ClassId) (a : Nat → Nat) (h : Nat) (w : Nat) (pc : Int32) (br : Int32) (kd : Nat → Int32) (et : Nat → Int32) (nb : Nat → Int32) (g : Nat) (hn : h * w ≤ 16) (hnb : nbOk h w nb (h * w)) (hg : g ≤ 16) : ∀ (d : Nat) (s : Nat) (m : Nat) (bs : Nat → Int32) (td : Nat → Int32) (lf : Int32) (c : Int32) (j : Nat), (1 ≤ s) → (s + d = 16) → (m ≤ 16) → (j < h * w) → (vp_in c 16) → (c.toNatClampNeg = j) → MG l yX4_shear wsX4_shear (2 + d) (61 + 26 * d) 0 0 D [(cI, .int), (cJ, .long), (cO, .object "ShornHill$Sheet")] [.ref (a 9), .ref (a 1), .int c, .int lf, .int (nI s)] [(a 9, .inr (2, [.ref (a 10), .ref (a 11), .int (nI m), .int (nI g)])), (a 10, .inl (cI, 15, .inl td)), (a 11, .inl (cI, 15, .inl bs)), (a 1, .inr (0, [.int (nI h), .int (nI w), .int pc, .int br, .ref (a 2), .ref (a 3), .ref (a 4)])), (a 2, .inl (cI, 16, .inl kd)), (a 3, .inl (cI, 16, .inl et)), (a 4, .inl (cI, 64, .inl nb))] (QV D (fun (w1 : va_W) => w1 = [(a 9, .inr (2, [.ref (a 10), .ref (a 11), .int (nI ((dfF h w g d s j lf (m, bs, td)).1)), .int (nI g)])), (a 10, .inl (cI, 15, .inl ((dfF h w g d s j lf (m, bs, td)).2.2))), (a 11, .inl (cI, 15, .inl ((dfF h w g d s j lf (m, bs, td)).2.1))), (a 1, .inr (0, [.int (nI h), .int (nI w), .int pc, .int br, .ref (a 2), .ref (a 3), .ref (a 4)])), (a 2, .inl (cI, 16, .inl kd)), (a 3, .inl (cI, 16, .inl et)), (a 4, .inl (cI, 64, .inl nb))])) := by
  intro d
  induction d with
  | zero =>
    intro s m bs td lf c j h1 hsd hm hjn hv_c hj_c
    refine MG.of (cc := cX4_shear) (maxL := 7) (ret := none) (by decide) rfl (Nat.le_of_ble_eq_true rfl) ?_
    intro P_ E_ S_ M_ B_ T_ K_ hx hb hml hr hts hown hlk hnm A hA hP hK hD hS ls hl
    have hl : lv_has ls 7 [(0, .ref (a 9)), (1, .ref (a 1)), (2, .int c), (3, .int lf), (4, .int (nI s))] := hl
    have hin2 : ∀ x ∈ u_ws RX2 TX2 4, x ∈ wsX4_shear := iwX4_shear_X2
    refine lv_iload hx hb dX4_shear_0 (lv_at hl 4 rfl) ?_
    refine lv_aload_n hx hb dX4_shear_2 rfl (lv_at hl 0 rfl) ?_
    refine va_getN (D := D) (ci := 2) (v := .int (nI m)) (C := RX2) (T := TX2) (N := 4) hx hb hts hin2 hown hK.1 hP 0 rfl rfl 2 (by decide) (va_Nw.use rfl (nw_X4_246 hK)) (fun _ h9 => h9) rfl dX4_shear_3 ?_
    refine lv_icmp_le (tgt := 15) hx hb dX4_shear_6 (by decide) (fun c_1 => ?_) (fun c_1 => ?_)
    · have c_1 : s ≤ m := (nI_leI (a := s) (b := m) (by omega) (by omega)).mp c_1
      refine lv_iload hx hb dX4_shear_15 (lv_at hl 4 rfl) ?_
      refine lv_bipush (v := 15) hx hb dX4_shear_17 (by decide) ?_
      refine lv_icmp_le (tgt := 23) hx hb dX4_shear_19 (by decide) (fun c_2 => ?_) (fun c_2 => ?_)
      · exact absurd ((nI_leI (a := s) (b := 15) (by omega) (by omega)).mp c_2) (by omega)
      · have c_2 : 15 < s := Nat.lt_of_not_le (fun z => c_2 ((nI_leI (a := s) (b := 15) (by omega) (by omega)).mpr z))
        refine mv_ret hx hb hr hlk hP hD hS dX4_shear_22 ?_
        rw [show dfF h w g 0 s j lf (m, bs, td) = (m, bs, td) from if_neg (show ¬ m < s by omega)]
    · have c_1 : m < s := Nat.lt_of_not_le (fun z => c_1 ((nI_leI (a := s) (b := m) (by omega) (by omega)).mpr z))
      refine lv_aload_n hx hb dX4_shear_9 rfl (lv_at hl 0 rfl) ?_
      refine lv_iload hx hb dX4_shear_10 (lv_at hl 4 rfl) ?_
      refine k_mv (wr := [(a 1, .inr (0, [.int (nI h), .int (nI w), .int pc, .int br, .ref (a 2), .ref (a 3), .ref (a 4)])), (a 2, .inl (cI, 16, .inl kd)), (a 3, .inl (cI, 16, .inl et)), (a 4, .inl (cI, 64, .inl nb))]) [0, 1, 2] [3, 4, 5, 6] (run_MN (As := [.int (nI s)]) (rest := []) ⟨hx, hb, hml, hown, hts⟩ (c_X2_keep l D cI cJ cO a td bs (nI m) (nI g) s h1 (by omega)) ⟨va_cnB 1 hts ggX4_shear_X2_keep rfl rfl rfl (nw_X4_256 hK) (hts _ (List.mem_of_getElem? (i := 2) rfl)) (by decide +kernel) ⟨by show 1 + 1 ≤ (2 + 0); omega, by show 8 + (2 + 11) + 40 ≤ (61 + 26 * 0); omega⟩, (hts _ (List.mem_of_getElem? (i := 1) rfl)), (hts _ (List.mem_of_getElem? (i := 3) rfl))⟩ hP hK hD [0, 1, 2] (by decide) rfl rfl rfl rfl rfl hl.1 rfl (Nat.le_of_ble_eq_true rfl) dX4_shear_12 ⟨Nat.le_refl _, Nat.le_refl _⟩) hP hD hS hA rfl rfl (by decide) (by decide) (fun w_5 H locs q_4 hP hD hS => ?_)
      obtain rfl := q_4
      have hP : va_P D vwCl [(a 9, .inr (2, [.ref (a 10), .ref (a 11), .int (nI s), .int (nI g)])), (a 10, .inl (cI, 15, .inl td)), (a 11, .inl (cI, 15, .inl (fil td bs (s - 1)))), (a 1, .inr (0, [.int (nI h), .int (nI w), .int pc, .int br, .ref (a 2), .ref (a 3), .ref (a 4)])), (a 2, .inl (cI, 16, .inl kd)), (a 3, .inl (cI, 16, .inl et)), (a 4, .inl (cI, 64, .inl nb))] H := hP.sub [4, 5, 6, 0, 1, 2, 3] rfl
      have hD : va_D A [(a 9, .inr (2, [.ref (a 10), .ref (a 11), .int (nI s), .int (nI g)])), (a 10, .inl (cI, 15, .inl td)), (a 11, .inl (cI, 15, .inl (fil td bs (s - 1)))), (a 1, .inr (0, [.int (nI h), .int (nI w), .int pc, .int br, .ref (a 2), .ref (a 3), .ref (a 4)])), (a 2, .inl (cI, 16, .inl kd)), (a 3, .inl (cI, 16, .inl et)), (a 4, .inl (cI, 64, .inl nb))] := hD.sub [4, 5, 6, 0, 1, 2, 3] (by decide) rfl
      refine lv_iload hx hb dX4_shear_15 (lv_at hl 4 rfl) ?_
      refine lv_bipush (v := 15) hx hb dX4_shear_17 (by decide) ?_
      refine lv_icmp_le (tgt := 23) hx hb dX4_shear_19 (by decide) (fun c_6 => ?_) (fun c_6 => ?_)
      · exact absurd ((nI_leI (a := s) (b := 15) (by omega) (by omega)).mp c_6) (by omega)
      · have c_6 : 15 < s := Nat.lt_of_not_le (fun z => c_6 ((nI_leI (a := s) (b := 15) (by omega) (by omega)).mpr z))
        refine mv_ret hx hb hr hlk hP hD hS dX4_shear_22 ?_
        rw [show dfF h w g 0 s j lf (m, bs, td) = (s, fil td bs (s - 1), td) from if_pos (show m < s by omega)]
  | succ d ih =>
    intro s m bs td lf c j h1 hsd hm hjn hv_c hj_c
    refine MG.of (cc := cX4_shear) (maxL := 7) (ret := none) (by decide) rfl (Nat.le_of_ble_eq_true rfl) ?_
    intro P_ E_ S_ M_ B_ T_ K_ hx hb hml hr hts hown hlk hnm A hA hP hK hD hS ls hl
    have hl : lv_has ls 7 [(0, .ref (a 9)), (1, .ref (a 1)), (2, .int c), (3, .int lf), (4, .int (nI s))] := hl
    have hin2 : ∀ x ∈ u_ws RX2 TX2 4, x ∈ wsX4_shear := iwX4_shear_X2
    refine lv_iload hx hb dX4_shear_0 (lv_at hl 4 rfl) ?_
    refine lv_aload_n hx hb dX4_shear_2 rfl (lv_at hl 0 rfl) ?_
    refine va_getN (D := D) (ci := 2) (v := .int (nI m)) (C := RX2) (T := TX2) (N := 4) hx hb hts hin2 hown hK.1 hP 0 rfl rfl 2 (by decide) (va_Nw.use rfl (nw_X4_246 hK)) (fun _ h9 => h9) rfl dX4_shear_3 ?_
    refine lv_icmp_le (tgt := 15) hx hb dX4_shear_6 (by decide) (fun c_1 => ?_) (fun c_1 => ?_)
    · have c_1 : s ≤ m := (nI_leI (a := s) (b := m) (by omega) (by omega)).mp c_1
      refine lv_iload hx hb dX4_shear_15 (lv_at hl 4 rfl) ?_
      refine lv_bipush (v := 15) hx hb dX4_shear_17 (by decide) ?_
      refine lv_icmp_le (tgt := 23) hx hb dX4_shear_19 (by decide) (fun c_2 => ?_) (fun c_2 => ?_)
      · have c_2 : s ≤ 15 := (nI_leI (a := s) (b := 15) (by omega) (by omega)).mp c_2
        refine lv_iconst (v := 0) hx hb dX4_shear_23 (by decide) ?_
        refine lv_istore (lv' := [(5, .int 0), (0, .ref (a 9)), (1, .ref (a 1)), (2, .int c), (3, .int lf), (4, .int (nI s))]) hx hb dX4_shear_24 hl (by decide) rfl (fun ls hl => ?_)
        have key_4 : ∀ (n_3 : Nat) (t : Nat) (q : Sg), (t ≤ 4) → (lpF (dfF h w g d (s + 1)) h w g s j lf t (kpF s (m, bs, td)) = q) → (q.1 ≤ 16) → 4 - t < n_3 → ∀ (H : Heap) (locs : List Loc), va_P D vwCl [(a 9, .inr (2, [.ref (a 10), .ref (a 11), .int (nI q.1), .int (nI g)])), (a 10, .inl (cI, 15, .inl q.2.2)), (a 11, .inl (cI, 15, .inl q.2.1)), (a 1, .inr (0, [.int (nI h), .int (nI w), .int pc, .int br, .ref (a 2), .ref (a 3), .ref (a 4)])), (a 2, .inl (cI, 16, .inl kd)), (a 3, .inl (cI, 16, .inl et)), (a 4, .inl (cI, 64, .inl nb))] H → va_D A [(a 9, .inr (2, [.ref (a 10), .ref (a 11), .int (nI q.1), .int (nI g)])), (a 10, .inl (cI, 15, .inl q.2.2)), (a 11, .inl (cI, 15, .inl q.2.1)), (a 1, .inr (0, [.int (nI h), .int (nI w), .int pc, .int br, .ref (a 2), .ref (a 3), .ref (a 4)])), (a 2, .inl (cI, 16, .inl kd)), (a 3, .inl (cI, 16, .inl et)), (a 4, .inl (cI, 64, .inl nb))] → va_S A S_.heap H locs → ∀ ls : Array Slot, lv_has ls 7 [(0, .ref (a 9)), (1, .ref (a 1)), (2, .int c), (3, .int lf), (4, .int (nI s)), (5, .int (nI t))] → W P_ l E_ ({ frames := (2 + (d + 1)), cells := 0, slots := 0, locals := (61 + 26 * (d + 1)) } : Room) S_ M_ (([.ref (a 9), .ref (a 1), .int c, .int lf, .int (nI s)] : List Value).toArray) B_ T_ K_ H locs 0 0 (MQ B_ ((QV D (fun (w1 : va_W) => w1 = [(a 9, .inr (2, [.ref (a 10), .ref (a 11), .int (nI ((dfF h w g (d + 1) s j lf (m, bs, td)).1)), .int (nI g)])), (a 10, .inl (cI, 15, .inl ((dfF h w g (d + 1) s j lf (m, bs, td)).2.2))), (a 11, .inl (cI, 15, .inl ((dfF h w g (d + 1) s j lf (m, bs, td)).2.1))), (a 1, .inr (0, [.int (nI h), .int (nI w), .int pc, .int br, .ref (a 2), .ref (a 3), .ref (a 4)])), (a 2, .inl (cI, 16, .inl kd)), (a 3, .inl (cI, 16, .inl et)), (a 4, .inl (cI, 64, .inl nb))])) A) (([.ref (a 9), .ref (a 1), .int c, .int lf, .int (nI s)] : List Value).toArray) S_ 0 0 A) (F0 M_ 26 ls []) := by
          intro n_3
          induction n_3 with
          | zero =>
            intro t q hk hL hq hmu_n_3
            exact absurd hmu_n_3 (Nat.not_lt_zero _)
          | succ n_3 ih_5 =>
            intro t q hk hL hq hmu_n_3 H locs hP hD hS ls hl
            have hl : lv_has ls 7 [(0, .ref (a 9)), (1, .ref (a 1)), (2, .int c), (3, .int lf), (4, .int (nI s)), (5, .int (nI t))] := hl
            have hP : va_P D vwCl [(a 9, .inr (2, [.ref (a 10), .ref (a 11), .int (nI q.1), .int (nI g)])), (a 10, .inl (cI, 15, .inl q.2.2)), (a 11, .inl (cI, 15, .inl q.2.1)), (a 1, .inr (0, [.int (nI h), .int (nI w), .int pc, .int br, .ref (a 2), .ref (a 3), .ref (a 4)])), (a 2, .inl (cI, 16, .inl kd)), (a 3, .inl (cI, 16, .inl et)), (a 4, .inl (cI, 64, .inl nb))] H := hP
            have hD : va_D A [(a 9, .inr (2, [.ref (a 10), .ref (a 11), .int (nI q.1), .int (nI g)])), (a 10, .inl (cI, 15, .inl q.2.2)), (a 11, .inl (cI, 15, .inl q.2.1)), (a 1, .inr (0, [.int (nI h), .int (nI w), .int pc, .int br, .ref (a 2), .ref (a 3), .ref (a 4)])), (a 2, .inl (cI, 16, .inl kd)), (a 3, .inl (cI, 16, .inl et)), (a 4, .inl (cI, 64, .inl nb))] := hD
            refine lv_iload hx hb dX4_shear_26 (lv_at hl 5 rfl) ?_
            refine lv_iconst (v := 4) hx hb dX4_shear_28 (by decide) ?_
            refine lv_icmp_ge (tgt := 95) hx hb dX4_shear_29 (by decide) (fun c_6 => ?_) (fun c_6 => ?_)
            · have c_6 : 4 ≤ t := (nI_leI (a := 4) (b := t) (by omega) (by omega)).mp c_6
              refine mv_ret hx hb hr hlk hP hD hS dX4_shear_95 ?_
              have hE : dfF h w g (d + 1) s j lf (m, bs, td) = q := by rw [← hL, show t = 4 by omega]; rfl
              rw [hE]
            · have c_6 : t < 4 := Nat.lt_of_not_le (fun z => c_6 ((nI_leI (a := 4) (b := t) (by omega) (by omega)).mpr z))
              refine lv_aload_n hx hb dX4_shear_32 rfl (lv_at hl 0 rfl) ?_
              refine va_getN (D := D) (ci := 2) (v := .int (nI q.1)) (C := RX2) (T := TX2) (N := 4) hx hb hts hin2 hown hK.1 hP 0 rfl rfl 2 (by decide) (va_Nw.use rfl (nw_X4_246 hK)) (fun _ h9 => h9) rfl dX4_shear_33 ?_
              refine lv_aload_n hx hb dX4_shear_36 rfl (lv_at hl 0 rfl) ?_
              refine va_getN (D := D) (ci := 2) (v := .int (nI g)) (C := RX2) (T := TX2) (N := 4) hx hb hts hin2 hown hK.1 hP 0 rfl rfl 3 (by decide) (va_Nw.use rfl (nw_X4_249 hK)) (fun _ h9 => h9) rfl dX4_shear_37 ?_
              refine lv_icmp_ge (tgt := 95) hx hb dX4_shear_40 (by decide) (fun c_7 => ?_) (fun c_7 => ?_)
              · have c_7 : g ≤ q.1 := (nI_leI (a := g) (b := q.1) (by omega) (by omega)).mp c_7
                refine mv_ret hx hb hr hlk hP hD hS dX4_shear_95 ?_
                have hE : dfF h w g (d + 1) s j lf (m, bs, td) = q := lp_stop hL (by omega) 4 hk
                rw [hE]
              · have c_7 : q.1 < g := Nat.lt_of_not_le (fun z => c_7 ((nI_leI (a := g) (b := q.1) (by omega) (by omega)).mpr z))
                refine lv_aload_n hx hb dX4_shear_43 rfl (lv_at hl 1 rfl) ?_
                refine lv_iload_n hx hb dX4_shear_44 rfl (lv_at hl 2 rfl) ?_
                refine lv_iload hx hb dX4_shear_45 (lv_at hl 5 rfl) ?_
                refine k_ri (run_RN (As := [.int c, .int (nI t)]) (rest := []) ⟨hx, hb, hml, hown, hts⟩ (c_X0_beside l D cI cJ cO a h w pc br kd et nb c (nI t) j t hv_c hj_c (vp_in_nI (show t < 4 by omega) (by decide)) (nI_clamp (by omega))) ⟨va_cnB 2 hts ggX4_shear_X0_beside rfl rfl rfl (nw_X4_240 hK) (hts _ (List.mem_of_getElem? (i := 13) rfl)) (by decide +kernel) ⟨by show 0 + 1 ≤ (2 + (d + 1)); omega, by show 8 + (3 + 11) + 0 ≤ (61 + 26 * (d + 1)); omega⟩, (hts _ (List.mem_of_getElem? (i := 12) rfl)), (hts _ (List.mem_of_getElem? (i := 14) rfl))⟩ hP hK [3, 4, 5, 6] rfl rfl rfl rfl rfl hl.1 rfl (Nat.le_of_ble_eq_true rfl) dX4_shear_47 ⟨Nat.le_refl _, Nat.le_refl _⟩) (fun r_8 q_9 => ?_)
                obtain rfl := q_9
                refine k_top (y := (nbF h w j t)) (hnb j hjn t (by omega)) ?_
                refine lv_istore (lv' := [(6, .int (nbF h w j t)), (0, .ref (a 9)), (1, .ref (a 1)), (2, .int c), (3, .int lf), (4, .int (nI s)), (5, .int (nI t))]) hx hb dX4_shear_50 hl (by decide) rfl (fun ls hl => ?_)
                refine lv_iload_n hx hb dX4_shear_52 rfl (lv_at hl 4 rfl) ?_
                refine lv_iload hx hb dX4_shear_53 (lv_at hl 0 rfl) ?_
                refine k_ri (run_RS (As := [.int lf, .int (nbF h w j t)]) (rest := []) ⟨hx, hb, hml, hown, hts⟩ (c_X4_isIn l D cI cJ cO lf (nbF h w j t)) (va_cwS 2 hts gX4_shear_X4_isIn rfl rfl rfl (by decide +kernel) ⟨by show 1 + 1 ≤ (2 + (d + 1)); omega, by show 8 + (2 + 11) + 20 ≤ (61 + 26 * (d + 1)); omega⟩) hP hK [] rfl rfl hl.1 rfl (Nat.le_of_ble_eq_true rfl) dX4_shear_55 ⟨Nat.le_refl _, Nat.le_refl _⟩) (fun r_10 q_11 => ?_)
                obtain rfl := q_11
                refine lv_if_eq (tgt := 89) hx hb dX4_shear_58 (by decide) (fun c_12 => ?_) (fun c_12 => ?_)
                · have c_12 := b2_f c_12
                  refine lv_iinc (v := (nI (t + 1))) (lv' := [(5, .int (nI (t + 1))), (6, .int (nbF h w j t)), (0, .ref (a 9)), (1, .ref (a 1)), (2, .int c), (3, .int lf), (4, .int (nI s))]) hx hb dX4_shear_89 hl (k := 6) rfl (nI_add _ 1) (by decide) rfl (fun ls hl => ?_)
                  refine lv_goto (tgt := 26) hx hb dX4_shear_92 (by decide) ?_
                  exact ih_5 (t + 1) q (by omega) (by rw [lpF, hL, stF, if_neg (fun z => absurd z.2 (by assumption))]) hq (by omega) _ _ hP hD hS ls (lv_sub hl [2, 3, 4, 5, 6, 0] rfl)
                · have c_12 := b2_t c_12
                  refine lv_aload_n hx hb dX4_shear_61 rfl (lv_at hl 1 rfl) ?_
                  refine va_getN (D := D) (ci := 2) (v := .ref (a 10)) (C := RX2) (T := TX2) (N := 4) hx hb hts hin2 hown hK.1 hP 0 rfl rfl 0 (by decide) (va_Nw.use rfl (nw_X4_259 hK)) (fun _ h9 => h9) rfl dX4_shear_62 ?_
                  refine lv_iload hx hb dX4_shear_65 (lv_at hl 5 rfl) ?_
                  refine lv_iconst (v := 1) hx hb dX4_shear_67 (by decide) ?_
                  refine lv_isub hx hb dX4_shear_68 ?_
                  refine k_top (y := (nI (s - 1))) (pk_sub (b := 1) (by omega)) ?_
                  refine lv_iload hx hb dX4_shear_69 (lv_at hl 6 rfl) ?_
                  refine k_iast hx hb hK hP hD hS 1 0 rfl rfl (j := s - 1) (vp_in_nI (show s - 1 < 15 by omega) (by decide)) (nI_clamp (by omega)) dX4_shear_71 (fun H locs hP hD hS => ?_)
                  have hP : va_P D vwCl [(a 9, .inr (2, [.ref (a 10), .ref (a 11), .int (nI q.1), .int (nI g)])), (a 10, .inl (cI, 15, .inl (upd q.2.2 (s - 1) (nI t)))), (a 11, .inl (cI, 15, .inl q.2.1)), (a 1, .inr (0, [.int (nI h), .int (nI w), .int pc, .int br, .ref (a 2), .ref (a 3), .ref (a 4)])), (a 2, .inl (cI, 16, .inl kd)), (a 3, .inl (cI, 16, .inl et)), (a 4, .inl (cI, 64, .inl nb))] H := hP
                  have hD : va_D A [(a 9, .inr (2, [.ref (a 10), .ref (a 11), .int (nI q.1), .int (nI g)])), (a 10, .inl (cI, 15, .inl (upd q.2.2 (s - 1) (nI t)))), (a 11, .inl (cI, 15, .inl q.2.1)), (a 1, .inr (0, [.int (nI h), .int (nI w), .int pc, .int br, .ref (a 2), .ref (a 3), .ref (a 4)])), (a 2, .inl (cI, 16, .inl kd)), (a 3, .inl (cI, 16, .inl et)), (a 4, .inl (cI, 64, .inl nb))] := hD
                  refine lv_aload_n hx hb dX4_shear_72 rfl (lv_at hl 1 rfl) ?_
                  refine lv_aload_n hx hb dX4_shear_73 rfl (lv_at hl 2 rfl) ?_
                  refine lv_iload hx hb dX4_shear_74 (lv_at hl 0 rfl) ?_
                  refine lv_iload_n hx hb dX4_shear_76 rfl (lv_at hl 4 rfl) ?_
                  refine lv_iload hx hb dX4_shear_77 (lv_at hl 0 rfl) ?_
                  refine k_ri (run_RS (As := [.int lf, .int (nbF h w j t)]) (rest := [.int (nbF h w j t), .ref (a 1), .ref (a 9)]) ⟨hx, hb, hml, hown, hts⟩ (c_X4_without l D cI cJ cO lf (nbF h w j t)) (va_cwS 2 hts gX4_shear_X4_without rfl rfl rfl (by decide +kernel) ⟨by show 1 + 1 ≤ (2 + (d + 1)); omega, by show 8 + (2 + 11) + 20 ≤ (61 + 26 * (d + 1)); omega⟩) hP hK [] rfl rfl hl.1 rfl (Nat.le_of_ble_eq_true rfl) dX4_shear_79 ⟨Nat.le_refl _, Nat.le_refl _⟩) (fun r_13 q_14 => ?_)
                  obtain rfl := q_14
                  refine lv_iload hx hb dX4_shear_82 (lv_at hl 5 rfl) ?_
                  refine lv_iconst (v := 1) hx hb dX4_shear_84 (by decide) ?_
                  refine lv_iadd hx hb dX4_shear_85 ?_
                  refine k_top (y := (nI (s + 1))) (nI_add _ 1) ?_
                  refine k_mv (wr := []) [0, 1, 2, 3, 4, 5, 6] [] (run_MS (As := [.ref (a 9), .ref (a 1), .int (nbF h w j t), .int (wo lf (nbF h w j t)), .int (nI (s + 1))]) (rest := []) ⟨hx, hb, hml, hown, hts⟩ (ih (s + 1) q.1 q.2.1 (upd q.2.2 (s - 1) (nI t)) (wo lf (nbF h w j t)) (nbF h w j t) ((nbF h w j t).toNatClampNeg) (by omega) (by omega) hq ((nbF_in hjn hn (by assumption)).lt) ((nbF_in hjn hn (by assumption)).vp hn) rfl) (va_cwS 5 hts gX4_shear_X4_shear rfl rfl rfl (by decide +kernel) ⟨by show (2 + d) + 1 ≤ (2 + (d + 1)); omega, by show 8 + (7 + 11) + (61 + 26 * d) ≤ (61 + 26 * (d + 1)); omega⟩) hP hK hD [0, 1, 2, 3, 4, 5, 6] (by decide) rfl rfl hl.1 rfl (Nat.le_of_ble_eq_true rfl) dX4_shear_86 ⟨Nat.le_refl _, Nat.le_refl _⟩) hP hD hS hA rfl rfl (by decide) (by decide) (fun w_17 H locs q_16 hP hD hS => ?_)
                  obtain rfl := q_16
                  have hP : va_P D vwCl [(a 9, .inr (2, [.ref (a 10), .ref (a 11), .int (nI ((dfF h w g d (s + 1) ((nbF h w j t).toNatClampNeg) (wo lf (nbF h w j t)) (q.1, q.2.1, (upd q.2.2 (s - 1) (nI t)))).1)), .int (nI g)])), (a 10, .inl (cI, 15, .inl ((dfF h w g d (s + 1) ((nbF h w j t).toNatClampNeg) (wo lf (nbF h w j t)) (q.1, q.2.1, (upd q.2.2 (s - 1) (nI t)))).2.2))), (a 11, .inl (cI, 15, .inl ((dfF h w g d (s + 1) ((nbF h w j t).toNatClampNeg) (wo lf (nbF h w j t)) (q.1, q.2.1, (upd q.2.2 (s - 1) (nI t)))).2.1))), (a 1, .inr (0, [.int (nI h), .int (nI w), .int pc, .int br, .ref (a 2), .ref (a 3), .ref (a 4)])), (a 2, .inl (cI, 16, .inl kd)), (a 3, .inl (cI, 16, .inl et)), (a 4, .inl (cI, 64, .inl nb))] H := hP.sub [0, 1, 2, 3, 4, 5, 6] rfl
                  have hD : va_D A [(a 9, .inr (2, [.ref (a 10), .ref (a 11), .int (nI ((dfF h w g d (s + 1) ((nbF h w j t).toNatClampNeg) (wo lf (nbF h w j t)) (q.1, q.2.1, (upd q.2.2 (s - 1) (nI t)))).1)), .int (nI g)])), (a 10, .inl (cI, 15, .inl ((dfF h w g d (s + 1) ((nbF h w j t).toNatClampNeg) (wo lf (nbF h w j t)) (q.1, q.2.1, (upd q.2.2 (s - 1) (nI t)))).2.2))), (a 11, .inl (cI, 15, .inl ((dfF h w g d (s + 1) ((nbF h w j t).toNatClampNeg) (wo lf (nbF h w j t)) (q.1, q.2.1, (upd q.2.2 (s - 1) (nI t)))).2.1))), (a 1, .inr (0, [.int (nI h), .int (nI w), .int pc, .int br, .ref (a 2), .ref (a 3), .ref (a 4)])), (a 2, .inl (cI, 16, .inl kd)), (a 3, .inl (cI, 16, .inl et)), (a 4, .inl (cI, 64, .inl nb))] := hD.sub [0, 1, 2, 3, 4, 5, 6] (by decide) rfl
                  refine lv_iinc (v := (nI (t + 1))) (lv' := [(5, .int (nI (t + 1))), (6, .int (nbF h w j t)), (0, .ref (a 9)), (1, .ref (a 1)), (2, .int c), (3, .int lf), (4, .int (nI s))]) hx hb dX4_shear_89 hl (k := 6) rfl (nI_add _ 1) (by decide) rfl (fun ls hl => ?_)
                  refine lv_goto (tgt := 26) hx hb dX4_shear_92 (by decide) ?_
                  exact ih_5 (t + 1) (dfF h w g d (s + 1) (nbF h w j t).toNatClampNeg (wo lf (nbF h w j t)) (q.1, q.2.1, upd q.2.2 (s - 1) (nI t))) (by omega) (by rw [lpF, hL, stF, if_pos ⟨by omega, by assumption⟩]) (dfF_le _ _ _ _ _ (by omega) hq) (by omega) _ _ hP hD hS ls (lv_sub hl [2, 3, 4, 5, 6, 0] rfl)
        exact key_4 _ 0 (m, bs, td) (by omega) (if_neg (show ¬ m < s by omega)) hm (Nat.lt_succ_self _) _ _ hP hD hS ls (lv_sub hl [1, 2, 3, 4, 5, 0] rfl)
      · have c_2 : 15 < s := Nat.lt_of_not_le (fun z => c_2 ((nI_leI (a := s) (b := 15) (by omega) (by omega)).mpr z))
        refine mv_ret hx hb hr hlk hP hD hS dX4_shear_22 ?_
        exact absurd hsd (by omega)
    · have c_1 : m < s := Nat.lt_of_not_le (fun z => c_1 ((nI_leI (a := s) (b := m) (by omega) (by omega)).mpr z))
      refine lv_aload_n hx hb dX4_shear_9 rfl (lv_at hl 0 rfl) ?_
      refine lv_iload hx hb dX4_shear_10 (lv_at hl 4 rfl) ?_
      refine k_mv (wr := [(a 1, .inr (0, [.int (nI h), .int (nI w), .int pc, .int br, .ref (a 2), .ref (a 3), .ref (a 4)])), (a 2, .inl (cI, 16, .inl kd)), (a 3, .inl (cI, 16, .inl et)), (a 4, .inl (cI, 64, .inl nb))]) [0, 1, 2] [3, 4, 5, 6] (run_MN (As := [.int (nI s)]) (rest := []) ⟨hx, hb, hml, hown, hts⟩ (c_X2_keep l D cI cJ cO a td bs (nI m) (nI g) s h1 (by omega)) ⟨va_cnB 1 hts ggX4_shear_X2_keep rfl rfl rfl (nw_X4_256 hK) (hts _ (List.mem_of_getElem? (i := 2) rfl)) (by decide +kernel) ⟨by show 1 + 1 ≤ (2 + (d + 1)); omega, by show 8 + (2 + 11) + 40 ≤ (61 + 26 * (d + 1)); omega⟩, (hts _ (List.mem_of_getElem? (i := 1) rfl)), (hts _ (List.mem_of_getElem? (i := 3) rfl))⟩ hP hK hD [0, 1, 2] (by decide) rfl rfl rfl rfl rfl hl.1 rfl (Nat.le_of_ble_eq_true rfl) dX4_shear_12 ⟨Nat.le_refl _, Nat.le_refl _⟩) hP hD hS hA rfl rfl (by decide) (by decide) (fun w_20 H locs q_19 hP hD hS => ?_)
      obtain rfl := q_19
      have hP : va_P D vwCl [(a 9, .inr (2, [.ref (a 10), .ref (a 11), .int (nI s), .int (nI g)])), (a 10, .inl (cI, 15, .inl td)), (a 11, .inl (cI, 15, .inl (fil td bs (s - 1)))), (a 1, .inr (0, [.int (nI h), .int (nI w), .int pc, .int br, .ref (a 2), .ref (a 3), .ref (a 4)])), (a 2, .inl (cI, 16, .inl kd)), (a 3, .inl (cI, 16, .inl et)), (a 4, .inl (cI, 64, .inl nb))] H := hP.sub [4, 5, 6, 0, 1, 2, 3] rfl
      have hD : va_D A [(a 9, .inr (2, [.ref (a 10), .ref (a 11), .int (nI s), .int (nI g)])), (a 10, .inl (cI, 15, .inl td)), (a 11, .inl (cI, 15, .inl (fil td bs (s - 1)))), (a 1, .inr (0, [.int (nI h), .int (nI w), .int pc, .int br, .ref (a 2), .ref (a 3), .ref (a 4)])), (a 2, .inl (cI, 16, .inl kd)), (a 3, .inl (cI, 16, .inl et)), (a 4, .inl (cI, 64, .inl nb))] := hD.sub [4, 5, 6, 0, 1, 2, 3] (by decide) rfl
      refine lv_iload hx hb dX4_shear_15 (lv_at hl 4 rfl) ?_
      refine lv_bipush (v := 15) hx hb dX4_shear_17 (by decide) ?_
      refine lv_icmp_le (tgt := 23) hx hb dX4_shear_19 (by decide) (fun c_21 => ?_) (fun c_21 => ?_)
      · have c_21 : s ≤ 15 := (nI_leI (a := s) (b := 15) (by omega) (by omega)).mp c_21
        refine lv_iconst (v := 0) hx hb dX4_shear_23 (by decide) ?_
        refine lv_istore (lv' := [(5, .int 0), (0, .ref (a 9)), (1, .ref (a 1)), (2, .int c), (3, .int lf), (4, .int (nI s))]) hx hb dX4_shear_24 hl (by decide) rfl (fun ls hl => ?_)
        have key_23 : ∀ (n_22 : Nat) (t : Nat) (q : Sg), (t ≤ 4) → (lpF (dfF h w g d (s + 1)) h w g s j lf t (kpF s (m, bs, td)) = q) → (q.1 ≤ 16) → 4 - t < n_22 → ∀ (H : Heap) (locs : List Loc), va_P D vwCl [(a 9, .inr (2, [.ref (a 10), .ref (a 11), .int (nI q.1), .int (nI g)])), (a 10, .inl (cI, 15, .inl q.2.2)), (a 11, .inl (cI, 15, .inl q.2.1)), (a 1, .inr (0, [.int (nI h), .int (nI w), .int pc, .int br, .ref (a 2), .ref (a 3), .ref (a 4)])), (a 2, .inl (cI, 16, .inl kd)), (a 3, .inl (cI, 16, .inl et)), (a 4, .inl (cI, 64, .inl nb))] H → va_D A [(a 9, .inr (2, [.ref (a 10), .ref (a 11), .int (nI q.1), .int (nI g)])), (a 10, .inl (cI, 15, .inl q.2.2)), (a 11, .inl (cI, 15, .inl q.2.1)), (a 1, .inr (0, [.int (nI h), .int (nI w), .int pc, .int br, .ref (a 2), .ref (a 3), .ref (a 4)])), (a 2, .inl (cI, 16, .inl kd)), (a 3, .inl (cI, 16, .inl et)), (a 4, .inl (cI, 64, .inl nb))] → va_S A S_.heap H locs → ∀ ls : Array Slot, lv_has ls 7 [(0, .ref (a 9)), (1, .ref (a 1)), (2, .int c), (3, .int lf), (4, .int (nI s)), (5, .int (nI t))] → W P_ l E_ ({ frames := (2 + (d + 1)), cells := 0, slots := 0, locals := (61 + 26 * (d + 1)) } : Room) S_ M_ (([.ref (a 9), .ref (a 1), .int c, .int lf, .int (nI s)] : List Value).toArray) B_ T_ K_ H locs 0 0 (MQ B_ ((QV D (fun (w1 : va_W) => w1 = [(a 9, .inr (2, [.ref (a 10), .ref (a 11), .int (nI ((dfF h w g (d + 1) s j lf (m, bs, td)).1)), .int (nI g)])), (a 10, .inl (cI, 15, .inl ((dfF h w g (d + 1) s j lf (m, bs, td)).2.2))), (a 11, .inl (cI, 15, .inl ((dfF h w g (d + 1) s j lf (m, bs, td)).2.1))), (a 1, .inr (0, [.int (nI h), .int (nI w), .int pc, .int br, .ref (a 2), .ref (a 3), .ref (a 4)])), (a 2, .inl (cI, 16, .inl kd)), (a 3, .inl (cI, 16, .inl et)), (a 4, .inl (cI, 64, .inl nb))])) A) (([.ref (a 9), .ref (a 1), .int c, .int lf, .int (nI s)] : List Value).toArray) S_ 0 0 A) (F0 M_ 26 ls []) := by
          intro n_22
          induction n_22 with
          | zero =>
            intro t q hk hL hq hmu_n_22
            exact absurd hmu_n_22 (Nat.not_lt_zero _)
          | succ n_22 ih_24 =>
            intro t q hk hL hq hmu_n_22 H locs hP hD hS ls hl
            have hl : lv_has ls 7 [(0, .ref (a 9)), (1, .ref (a 1)), (2, .int c), (3, .int lf), (4, .int (nI s)), (5, .int (nI t))] := hl
            have hP : va_P D vwCl [(a 9, .inr (2, [.ref (a 10), .ref (a 11), .int (nI q.1), .int (nI g)])), (a 10, .inl (cI, 15, .inl q.2.2)), (a 11, .inl (cI, 15, .inl q.2.1)), (a 1, .inr (0, [.int (nI h), .int (nI w), .int pc, .int br, .ref (a 2), .ref (a 3), .ref (a 4)])), (a 2, .inl (cI, 16, .inl kd)), (a 3, .inl (cI, 16, .inl et)), (a 4, .inl (cI, 64, .inl nb))] H := hP
            have hD : va_D A [(a 9, .inr (2, [.ref (a 10), .ref (a 11), .int (nI q.1), .int (nI g)])), (a 10, .inl (cI, 15, .inl q.2.2)), (a 11, .inl (cI, 15, .inl q.2.1)), (a 1, .inr (0, [.int (nI h), .int (nI w), .int pc, .int br, .ref (a 2), .ref (a 3), .ref (a 4)])), (a 2, .inl (cI, 16, .inl kd)), (a 3, .inl (cI, 16, .inl et)), (a 4, .inl (cI, 64, .inl nb))] := hD
            refine lv_iload hx hb dX4_shear_26 (lv_at hl 5 rfl) ?_
            refine lv_iconst (v := 4) hx hb dX4_shear_28 (by decide) ?_
            refine lv_icmp_ge (tgt := 95) hx hb dX4_shear_29 (by decide) (fun c_25 => ?_) (fun c_25 => ?_)
            · have c_25 : 4 ≤ t := (nI_leI (a := 4) (b := t) (by omega) (by omega)).mp c_25
              refine mv_ret hx hb hr hlk hP hD hS dX4_shear_95 ?_
              have hE : dfF h w g (d + 1) s j lf (m, bs, td) = q := by rw [← hL, show t = 4 by omega]; rfl
              rw [hE]
            · have c_25 : t < 4 := Nat.lt_of_not_le (fun z => c_25 ((nI_leI (a := 4) (b := t) (by omega) (by omega)).mpr z))
              refine lv_aload_n hx hb dX4_shear_32 rfl (lv_at hl 0 rfl) ?_
              refine va_getN (D := D) (ci := 2) (v := .int (nI q.1)) (C := RX2) (T := TX2) (N := 4) hx hb hts hin2 hown hK.1 hP 0 rfl rfl 2 (by decide) (va_Nw.use rfl (nw_X4_246 hK)) (fun _ h9 => h9) rfl dX4_shear_33 ?_
              refine lv_aload_n hx hb dX4_shear_36 rfl (lv_at hl 0 rfl) ?_
              refine va_getN (D := D) (ci := 2) (v := .int (nI g)) (C := RX2) (T := TX2) (N := 4) hx hb hts hin2 hown hK.1 hP 0 rfl rfl 3 (by decide) (va_Nw.use rfl (nw_X4_249 hK)) (fun _ h9 => h9) rfl dX4_shear_37 ?_
              refine lv_icmp_ge (tgt := 95) hx hb dX4_shear_40 (by decide) (fun c_26 => ?_) (fun c_26 => ?_)
              · have c_26 : g ≤ q.1 := (nI_leI (a := g) (b := q.1) (by omega) (by omega)).mp c_26
                refine mv_ret hx hb hr hlk hP hD hS dX4_shear_95 ?_
                have hE : dfF h w g (d + 1) s j lf (m, bs, td) = q := lp_stop hL (by omega) 4 hk
                rw [hE]
              · have c_26 : q.1 < g := Nat.lt_of_not_le (fun z => c_26 ((nI_leI (a := g) (b := q.1) (by omega) (by omega)).mpr z))
                refine lv_aload_n hx hb dX4_shear_43 rfl (lv_at hl 1 rfl) ?_
                refine lv_iload_n hx hb dX4_shear_44 rfl (lv_at hl 2 rfl) ?_
                refine lv_iload hx hb dX4_shear_45 (lv_at hl 5 rfl) ?_
                refine k_ri (run_RN (As := [.int c, .int (nI t)]) (rest := []) ⟨hx, hb, hml, hown, hts⟩ (c_X0_beside l D cI cJ cO a h w pc br kd et nb c (nI t) j t hv_c hj_c (vp_in_nI (show t < 4 by omega) (by decide)) (nI_clamp (by omega))) ⟨va_cnB 2 hts ggX4_shear_X0_beside rfl rfl rfl (nw_X4_240 hK) (hts _ (List.mem_of_getElem? (i := 13) rfl)) (by decide +kernel) ⟨by show 0 + 1 ≤ (2 + (d + 1)); omega, by show 8 + (3 + 11) + 0 ≤ (61 + 26 * (d + 1)); omega⟩, (hts _ (List.mem_of_getElem? (i := 12) rfl)), (hts _ (List.mem_of_getElem? (i := 14) rfl))⟩ hP hK [3, 4, 5, 6] rfl rfl rfl rfl rfl hl.1 rfl (Nat.le_of_ble_eq_true rfl) dX4_shear_47 ⟨Nat.le_refl _, Nat.le_refl _⟩) (fun r_27 q_28 => ?_)
                obtain rfl := q_28
                refine k_top (y := (nbF h w j t)) (hnb j hjn t (by omega)) ?_
                refine lv_istore (lv' := [(6, .int (nbF h w j t)), (0, .ref (a 9)), (1, .ref (a 1)), (2, .int c), (3, .int lf), (4, .int (nI s)), (5, .int (nI t))]) hx hb dX4_shear_50 hl (by decide) rfl (fun ls hl => ?_)
                refine lv_iload_n hx hb dX4_shear_52 rfl (lv_at hl 4 rfl) ?_
                refine lv_iload hx hb dX4_shear_53 (lv_at hl 0 rfl) ?_
                refine k_ri (run_RS (As := [.int lf, .int (nbF h w j t)]) (rest := []) ⟨hx, hb, hml, hown, hts⟩ (c_X4_isIn l D cI cJ cO lf (nbF h w j t)) (va_cwS 2 hts gX4_shear_X4_isIn rfl rfl rfl (by decide +kernel) ⟨by show 1 + 1 ≤ (2 + (d + 1)); omega, by show 8 + (2 + 11) + 20 ≤ (61 + 26 * (d + 1)); omega⟩) hP hK [] rfl rfl hl.1 rfl (Nat.le_of_ble_eq_true rfl) dX4_shear_55 ⟨Nat.le_refl _, Nat.le_refl _⟩) (fun r_29 q_30 => ?_)
                obtain rfl := q_30
                refine lv_if_eq (tgt := 89) hx hb dX4_shear_58 (by decide) (fun c_31 => ?_) (fun c_31 => ?_)
                · have c_31 := b2_f c_31
                  refine lv_iinc (v := (nI (t + 1))) (lv' := [(5, .int (nI (t + 1))), (6, .int (nbF h w j t)), (0, .ref (a 9)), (1, .ref (a 1)), (2, .int c), (3, .int lf), (4, .int (nI s))]) hx hb dX4_shear_89 hl (k := 6) rfl (nI_add _ 1) (by decide) rfl (fun ls hl => ?_)
                  refine lv_goto (tgt := 26) hx hb dX4_shear_92 (by decide) ?_
                  exact ih_24 (t + 1) q (by omega) (by rw [lpF, hL, stF, if_neg (fun z => absurd z.2 (by assumption))]) hq (by omega) _ _ hP hD hS ls (lv_sub hl [2, 3, 4, 5, 6, 0] rfl)
                · have c_31 := b2_t c_31
                  refine lv_aload_n hx hb dX4_shear_61 rfl (lv_at hl 1 rfl) ?_
                  refine va_getN (D := D) (ci := 2) (v := .ref (a 10)) (C := RX2) (T := TX2) (N := 4) hx hb hts hin2 hown hK.1 hP 0 rfl rfl 0 (by decide) (va_Nw.use rfl (nw_X4_259 hK)) (fun _ h9 => h9) rfl dX4_shear_62 ?_
                  refine lv_iload hx hb dX4_shear_65 (lv_at hl 5 rfl) ?_
                  refine lv_iconst (v := 1) hx hb dX4_shear_67 (by decide) ?_
                  refine lv_isub hx hb dX4_shear_68 ?_
                  refine k_top (y := (nI (s - 1))) (pk_sub (b := 1) (by omega)) ?_
                  refine lv_iload hx hb dX4_shear_69 (lv_at hl 6 rfl) ?_
                  refine k_iast hx hb hK hP hD hS 1 0 rfl rfl (j := s - 1) (vp_in_nI (show s - 1 < 15 by omega) (by decide)) (nI_clamp (by omega)) dX4_shear_71 (fun H locs hP hD hS => ?_)
                  have hP : va_P D vwCl [(a 9, .inr (2, [.ref (a 10), .ref (a 11), .int (nI q.1), .int (nI g)])), (a 10, .inl (cI, 15, .inl (upd q.2.2 (s - 1) (nI t)))), (a 11, .inl (cI, 15, .inl q.2.1)), (a 1, .inr (0, [.int (nI h), .int (nI w), .int pc, .int br, .ref (a 2), .ref (a 3), .ref (a 4)])), (a 2, .inl (cI, 16, .inl kd)), (a 3, .inl (cI, 16, .inl et)), (a 4, .inl (cI, 64, .inl nb))] H := hP
                  have hD : va_D A [(a 9, .inr (2, [.ref (a 10), .ref (a 11), .int (nI q.1), .int (nI g)])), (a 10, .inl (cI, 15, .inl (upd q.2.2 (s - 1) (nI t)))), (a 11, .inl (cI, 15, .inl q.2.1)), (a 1, .inr (0, [.int (nI h), .int (nI w), .int pc, .int br, .ref (a 2), .ref (a 3), .ref (a 4)])), (a 2, .inl (cI, 16, .inl kd)), (a 3, .inl (cI, 16, .inl et)), (a 4, .inl (cI, 64, .inl nb))] := hD
                  refine lv_aload_n hx hb dX4_shear_72 rfl (lv_at hl 1 rfl) ?_
                  refine lv_aload_n hx hb dX4_shear_73 rfl (lv_at hl 2 rfl) ?_
                  refine lv_iload hx hb dX4_shear_74 (lv_at hl 0 rfl) ?_
                  refine lv_iload_n hx hb dX4_shear_76 rfl (lv_at hl 4 rfl) ?_
                  refine lv_iload hx hb dX4_shear_77 (lv_at hl 0 rfl) ?_
                  refine k_ri (run_RS (As := [.int lf, .int (nbF h w j t)]) (rest := [.int (nbF h w j t), .ref (a 1), .ref (a 9)]) ⟨hx, hb, hml, hown, hts⟩ (c_X4_without l D cI cJ cO lf (nbF h w j t)) (va_cwS 2 hts gX4_shear_X4_without rfl rfl rfl (by decide +kernel) ⟨by show 1 + 1 ≤ (2 + (d + 1)); omega, by show 8 + (2 + 11) + 20 ≤ (61 + 26 * (d + 1)); omega⟩) hP hK [] rfl rfl hl.1 rfl (Nat.le_of_ble_eq_true rfl) dX4_shear_79 ⟨Nat.le_refl _, Nat.le_refl _⟩) (fun r_32 q_33 => ?_)
                  obtain rfl := q_33
                  refine lv_iload hx hb dX4_shear_82 (lv_at hl 5 rfl) ?_
                  refine lv_iconst (v := 1) hx hb dX4_shear_84 (by decide) ?_
                  refine lv_iadd hx hb dX4_shear_85 ?_
                  refine k_top (y := (nI (s + 1))) (nI_add _ 1) ?_
                  refine k_mv (wr := []) [0, 1, 2, 3, 4, 5, 6] [] (run_MS (As := [.ref (a 9), .ref (a 1), .int (nbF h w j t), .int (wo lf (nbF h w j t)), .int (nI (s + 1))]) (rest := []) ⟨hx, hb, hml, hown, hts⟩ (ih (s + 1) q.1 q.2.1 (upd q.2.2 (s - 1) (nI t)) (wo lf (nbF h w j t)) (nbF h w j t) ((nbF h w j t).toNatClampNeg) (by omega) (by omega) hq ((nbF_in hjn hn (by assumption)).lt) ((nbF_in hjn hn (by assumption)).vp hn) rfl) (va_cwS 5 hts gX4_shear_X4_shear rfl rfl rfl (by decide +kernel) ⟨by show (2 + d) + 1 ≤ (2 + (d + 1)); omega, by show 8 + (7 + 11) + (61 + 26 * d) ≤ (61 + 26 * (d + 1)); omega⟩) hP hK hD [0, 1, 2, 3, 4, 5, 6] (by decide) rfl rfl hl.1 rfl (Nat.le_of_ble_eq_true rfl) dX4_shear_86 ⟨Nat.le_refl _, Nat.le_refl _⟩) hP hD hS hA rfl rfl (by decide) (by decide) (fun w_36 H locs q_35 hP hD hS => ?_)
                  obtain rfl := q_35
                  have hP : va_P D vwCl [(a 9, .inr (2, [.ref (a 10), .ref (a 11), .int (nI ((dfF h w g d (s + 1) ((nbF h w j t).toNatClampNeg) (wo lf (nbF h w j t)) (q.1, q.2.1, (upd q.2.2 (s - 1) (nI t)))).1)), .int (nI g)])), (a 10, .inl (cI, 15, .inl ((dfF h w g d (s + 1) ((nbF h w j t).toNatClampNeg) (wo lf (nbF h w j t)) (q.1, q.2.1, (upd q.2.2 (s - 1) (nI t)))).2.2))), (a 11, .inl (cI, 15, .inl ((dfF h w g d (s + 1) ((nbF h w j t).toNatClampNeg) (wo lf (nbF h w j t)) (q.1, q.2.1, (upd q.2.2 (s - 1) (nI t)))).2.1))), (a 1, .inr (0, [.int (nI h), .int (nI w), .int pc, .int br, .ref (a 2), .ref (a 3), .ref (a 4)])), (a 2, .inl (cI, 16, .inl kd)), (a 3, .inl (cI, 16, .inl et)), (a 4, .inl (cI, 64, .inl nb))] H := hP.sub [0, 1, 2, 3, 4, 5, 6] rfl
                  have hD : va_D A [(a 9, .inr (2, [.ref (a 10), .ref (a 11), .int (nI ((dfF h w g d (s + 1) ((nbF h w j t).toNatClampNeg) (wo lf (nbF h w j t)) (q.1, q.2.1, (upd q.2.2 (s - 1) (nI t)))).1)), .int (nI g)])), (a 10, .inl (cI, 15, .inl ((dfF h w g d (s + 1) ((nbF h w j t).toNatClampNeg) (wo lf (nbF h w j t)) (q.1, q.2.1, (upd q.2.2 (s - 1) (nI t)))).2.2))), (a 11, .inl (cI, 15, .inl ((dfF h w g d (s + 1) ((nbF h w j t).toNatClampNeg) (wo lf (nbF h w j t)) (q.1, q.2.1, (upd q.2.2 (s - 1) (nI t)))).2.1))), (a 1, .inr (0, [.int (nI h), .int (nI w), .int pc, .int br, .ref (a 2), .ref (a 3), .ref (a 4)])), (a 2, .inl (cI, 16, .inl kd)), (a 3, .inl (cI, 16, .inl et)), (a 4, .inl (cI, 64, .inl nb))] := hD.sub [0, 1, 2, 3, 4, 5, 6] (by decide) rfl
                  refine lv_iinc (v := (nI (t + 1))) (lv' := [(5, .int (nI (t + 1))), (6, .int (nbF h w j t)), (0, .ref (a 9)), (1, .ref (a 1)), (2, .int c), (3, .int lf), (4, .int (nI s))]) hx hb dX4_shear_89 hl (k := 6) rfl (nI_add _ 1) (by decide) rfl (fun ls hl => ?_)
                  refine lv_goto (tgt := 26) hx hb dX4_shear_92 (by decide) ?_
                  exact ih_24 (t + 1) (dfF h w g d (s + 1) (nbF h w j t).toNatClampNeg (wo lf (nbF h w j t)) (q.1, q.2.1, upd q.2.2 (s - 1) (nI t))) (by omega) (by rw [lpF, hL, stF, if_pos ⟨by omega, by assumption⟩]) (dfF_le _ _ _ _ _ (by omega) hq) (by omega) _ _ hP hD hS ls (lv_sub hl [2, 3, 4, 5, 6, 0] rfl)
        exact key_23 _ 0 (s, fil td bs (s - 1), td) (by omega) (if_pos (show m < s by omega)) (show s ≤ 16 by omega) (Nat.lt_succ_self _) _ _ hP hD hS ls (lv_sub hl [1, 2, 3, 4, 5, 0] rfl)
      · have c_21 : 15 < s := Nat.lt_of_not_le (fun z => c_21 ((nI_leI (a := s) (b := 15) (by omega) (by omega)).mpr z))
        refine mv_ret hx hb hr hlk hP hD hS dX4_shear_22 ?_
        exact absurd hsd (by omega)
theorem c_X4_shear (l : Launch) (D : va_G) (cI cJ cO : ClassId) (a : Nat → Nat) (h : Nat) (w : Nat) (pc : Int32) (br : Int32) (kd : Nat → Int32) (et : Nat → Int32) (nb : Nat → Int32) (g : Nat) (s : Nat) (m : Nat) (bs : Nat → Int32) (td : Nat → Int32) (lf : Int32) (c : Int32) (j : Nat) (hn : h * w ≤ 16) (hnb : nbOk h w nb (h * w)) (hg : g ≤ 16) (h1 : 1 ≤ s) (hsd : s + 15 = 16) (hm : m ≤ 16) (hjn : j < h * w) (hv_c : vp_in c 16) (hj_c : c.toNatClampNeg = j) : MG l yX4_shear wsX4_shear 17 451 0 0 D [(cI, .int), (cJ, .long), (cO, .object "ShornHill$Sheet")] [.ref (a 9), .ref (a 1), .int c, .int lf, .int (nI s)] [(a 9, .inr (2, [.ref (a 10), .ref (a 11), .int (nI m), .int (nI g)])), (a 10, .inl (cI, 15, .inl td)), (a 11, .inl (cI, 15, .inl bs)), (a 1, .inr (0, [.int (nI h), .int (nI w), .int pc, .int br, .ref (a 2), .ref (a 3), .ref (a 4)])), (a 2, .inl (cI, 16, .inl kd)), (a 3, .inl (cI, 16, .inl et)), (a 4, .inl (cI, 64, .inl nb))] (QV D (fun (w1 : va_W) => w1 = [(a 9, .inr (2, [.ref (a 10), .ref (a 11), .int (nI ((dfF h w g 15 s j lf (m, bs, td)).1)), .int (nI g)])), (a 10, .inl (cI, 15, .inl ((dfF h w g 15 s j lf (m, bs, td)).2.2))), (a 11, .inl (cI, 15, .inl ((dfF h w g 15 s j lf (m, bs, td)).2.1))), (a 1, .inr (0, [.int (nI h), .int (nI w), .int pc, .int br, .ref (a 2), .ref (a 3), .ref (a 4)])), (a 2, .inl (cI, 16, .inl kd)), (a 3, .inl (cI, 16, .inl et)), (a 4, .inl (cI, 64, .inl nb))])) := c_X4_shear_r l D cI cJ cO a h w pc br kd et nb g hn hnb hg 15 s m bs td lf c j h1 hsd hm hjn hv_c hj_c
