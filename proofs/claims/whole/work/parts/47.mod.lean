set_option maxRecDepth 100000 in
set_option maxHeartbeats 4000000 in
/-- X5_bits -/
theorem c_X5_bits (l : Launch) (D : va_G) (cI cJ cO : ClassId) (u : Int32) (hu : sN u < 65536) : RG l yX5_bits wsX5_bits 0 0 D [(cI, .int), (cJ, .long), (cO, .object "ShornHill$Sheet")] [.int u] [] (vp_Si (fun (r : Int32) => r = (nI (popN 16 (sN u))))) := by
  refine RG.of (cc := cX5_bits) (maxL := 3) (ret := (some .int)) (by decide) rfl (Nat.le_of_ble_eq_true rfl) ?_
  intro P_ E_ S_ M_ B_ T_ K_ hx hb hml hr hts hown hlk hP hK ls hl
  have hl : lv_has ls 3 [(0, .int u)] := hl
  refine lv_iconst (v := 0) hx hb dX5_bits_0 (by decide) ?_
  refine lv_istore_n (lv' := [(1, .int 0), (0, .int u)]) hx hb dX5_bits_1 rfl hl (by decide) rfl (fun ls hl => ?_)
  refine lv_iload_n hx hb dX5_bits_2 rfl (lv_at hl 1 rfl) ?_
  refine k_top (y := (nI (sN u))) (sN_eq u) ?_
  refine lv_istore_n (lv' := [(2, .int (nI (sN u))), (1, .int 0), (0, .int u)]) hx hb dX5_bits_3 rfl hl (by decide) rfl (fun ls hl => ?_)
  have key_2 : ∀ (n_1 : Nat) (k : Nat) (N : Nat) (L : Nat), (k ≤ 16) → (L < 2 ^ (16 - k)) → (L < 65536) → (N + popN (16 - k) L = popN 16 (sN u)) → (N ≤ k) → 16 - k < n_1 → ∀ ls : Array Slot, lv_has ls 3 [(1, .int (nI N)), (2, .int (nI L))] → W P_ l E_ ({ frames := 0, cells := 0, slots := 0, locals := 0 } : Room) S_ M_ (([.int u] : List Value).toArray) B_ T_ K_ S_.heap [] 0 0 (MQ B_ (vp_Si (fun (r : Int32) => r = (nI (popN 16 (sN u))))) (([.int u] : List Value).toArray) S_ 0 0 (fun _ => False)) (F0 M_ 4 ls []) := by
    intro n_1
    induction n_1 with
    | zero =>
      intro k N L hk hp hL hN hNk hmu_n_1
      exact absurd hmu_n_1 (Nat.not_lt_zero _)
    | succ n_1 ih_3 =>
      intro k N L hk hp hL hN hNk hmu_n_1 ls hl
      have hl : lv_has ls 3 [(1, .int (nI N)), (2, .int (nI L))] := hl
      refine lv_iload_n hx hb dX5_bits_4 rfl (lv_at hl 1 rfl) ?_
      refine lv_if_le (tgt := 21) hx hb dX5_bits_5 (by decide) (fun c_4 => ?_) (fun c_4 => ?_)
      · have c_4 : L ≤ 0 := (nI_leI (a := L) (b := 0) (by omega) (by omega)).mp c_4
        refine lv_iload_n hx hb dX5_bits_21 rfl (lv_at hl 0 rfl) ?_
        refine ri_ret (v := (nI N)) hx hb hr hlk dX5_bits_22 ?_
        obtain rfl : L = 0 := by omega
        rw [← hN, popN_0, Nat.add_zero]
      · have c_4 : 0 < L := Nat.lt_of_not_le (fun z => c_4 ((nI_leI (a := L) (b := 0) (by omega) (by omega)).mpr z))
        refine lv_iload_n hx hb dX5_bits_8 rfl (lv_at hl 0 rfl) ?_
        refine lv_iload_n hx hb dX5_bits_9 rfl (lv_at hl 1 rfl) ?_
        refine lv_iconst (v := 1) hx hb dX5_bits_10 (by decide) ?_
        refine lv_iand hx hb dX5_bits_11 ?_
        refine k_top (y := (nI (L % 2))) (show _ = nI (L % 2) from pk_andN (by omega) 1 rfl) ?_
        refine lv_iadd hx hb dX5_bits_12 ?_
        refine k_top (y := (nI (N + (L % 2)))) (nI_add _ _) ?_
        refine lv_istore_n (lv' := [(1, .int (nI (N + (L % 2)))), (2, .int (nI L))]) hx hb dX5_bits_13 rfl hl (by decide) rfl (fun ls hl => ?_)
        refine lv_iload_n hx hb dX5_bits_14 rfl (lv_at hl 1 rfl) ?_
        refine lv_iconst (v := 1) hx hb dX5_bits_15 (by decide) ?_
        refine lv_ishr hx hb dX5_bits_16 ?_
        refine k_top (y := (nI (L / 2))) (show _ = nI (L / 2) from pk_shrN (by omega) _ 1 rfl) ?_
        refine lv_istore_n (lv' := [(2, .int (nI (L / 2))), (1, .int (nI (N + (L % 2))))]) hx hb dX5_bits_17 rfl hl (by decide) rfl (fun ls hl => ?_)
        refine lv_goto (tgt := 4) hx hb dX5_bits_18 (by decide) ?_
        exact ih_3 (k + 1) (N + L % 2) (L / 2) (bt_lt hp (by assumption)) (bt_h (bt_lt hp (by assumption)) hp) (by omega) (bt_s (bt_lt hp (by assumption)) hN) (by omega) (by have := bt_lt hp (by assumption); omega) ls (lv_sub hl [1, 0] rfl)
  exact key_2 _ 0 0 (sN u) (by omega) hu (by omega) (Nat.zero_add _) (by omega) (Nat.lt_succ_self _) ls (lv_sub hl [1, 0] rfl)
theorem iwX5_beside_X5 : ∀ x ∈ wsX50, x ∈ wsX5_beside := by decide +kernel
set_option maxRecDepth 100000 in
set_option maxHeartbeats 4000000 in
/-- X5_beside -/
theorem c_X5_beside (l : Launch) (D : va_G) (cI cJ cO : ClassId) (b : Nat → Nat) (fa : Int32) (h : Nat) (w : Nat) (pc : Int32) (br : Int32) (ra : Int32) (q1 : Int32) (q2 : Int32) (q3 : Int32) (q4 : Int32) (fw : Int32) (ea : Int32) (sn : Int32) (mo : Int32) (rc : Nat) (tr : Int32) (j : Nat) (t : Nat) (hn : h * w ≤ 16) (hjn : j < h * w) (ht4 : t < 4) : RG l yX5_beside wsX5_beside 1 25 D [(cI, .int), (cJ, .long), (cO, .object "ShornHill$Sheet")] [.ref (b 0), .int (nI j), .int (nI t)] [(b 0, .inr (5, [.int fa, .int (nI h), .int (nI w), .int pc, .int br, .ref (b 1), .ref (b 2), .int ra, .int q1, .int q2, .int q3, .int q4, .ref (b 3), .int fw, .int ea, .int sn, .ref (b 4), .ref (b 5), .ref (b 6), .int mo, .int (nI rc), .ref (b 7), .ref (b 8), .ref (b 9), .ref (b 10), .ref (b 11), .ref (b 12), .ref (b 13), .ref (b 14), .int tr]))] (vp_Si (fun (r : Int32) => r = (nbF h w j t))) := by
  refine RG.of (cc := cX5_beside) (maxL := 5) (ret := (some .int)) (by decide) rfl (Nat.le_of_ble_eq_true rfl) ?_
  intro P_ E_ S_ M_ B_ T_ K_ hx hb hml hr hts hown hlk hP hK ls hl
  have hl : lv_has ls 5 [(0, .ref (b 0)), (1, .int (nI j)), (2, .int (nI t))] := hl
  have hin5 : ∀ x ∈ u_ws RX5 TX5 30, x ∈ wsX5_beside := iwX5_beside_X5
  have hw0 : 0 < w := Nat.pos_of_ne_zero (fun z => by rw [z] at hjn; exact absurd hjn (Nat.not_lt_zero _))
  have hrw : j / w < h := (Nat.div_lt_iff_lt_mul hw0).mpr hjn
  have hmw : j % w < w := Nat.mod_lt j hw0
  have hw16 : w ≤ 16 := Nat.le_trans (Nat.le_mul_of_pos_left w (Nat.lt_of_le_of_lt (Nat.zero_le _) hrw)) hn
  have hh16 : h ≤ 16 := Nat.le_trans (Nat.le_mul_of_pos_right h hw0) hn
  have hj16 : j < 16 := Nat.lt_of_lt_of_le hjn hn
  rcases bs_cases (j / w) (j % w) ht4 with ⟨rfl, hz⟩ | ⟨rfl, hz⟩ | rfl | rfl | ⟨rfl, hz⟩ | ⟨rfl, hz⟩
  · have hl : lv_has ls 5 [(0, .ref (b 0)), (1, .int (nI j)), (2, .int 0)] := hl
    have hR : inN (nI (j / w - 1)) h := nI_inN (by omega) (by omega)
    have hP9 : inN (nI (j % w + 0)) w := nI_inN (by omega) (by omega)
    refine lv_iload_n hx hb dX5_beside_0 rfl (lv_at hl 1 rfl) ?_
    refine lv_aload_n hx hb dX5_beside_1 rfl (lv_at hl 0 rfl) ?_
    refine va_get (D := D) (ci := 5) (v := .int (nI w)) (C := RX5) (T := TX5) (N := 30) hx hb hts hin5 hown hK.1 hP 0 rfl rfl 2 (by decide) (hts _ (List.mem_of_getElem? (i := 1) rfl)) (fun _ h9 => h9) rfl dX5_beside_2 ?_
    refine lv_idiv hx hb dX5_beside_5 (nI_nez hw0 (by omega)) ?_
    refine k_top (y := (nI (j / w))) (pk_div (by omega) hw0 (by omega)) ?_
    refine lv_iload_n hx hb dX5_beside_6 rfl (lv_at hl 2 rfl) ?_
    refine lv_if_ne (tgt := 14) hx hb dX5_beside_7 (by decide) (fun c_1 => ?_) (fun c_1 => ?_)
    · exact absurd c_1 (by decide)
    · refine lv_iconst (v := (-1)) hx hb dX5_beside_10 (by decide) ?_
      refine lv_goto (tgt := 24) hx hb dX5_beside_11 (by decide) ?_
      refine lv_iadd hx hb dX5_beside_24 ?_
      refine k_top (y := (nI (j / w - 1))) (nI_m1 hz) ?_
      refine lv_istore_n (lv' := [(3, .int (nI (j / w - 1))), (0, .ref (b 0)), (1, .int (nI j)), (2, .int 0)]) hx hb dX5_beside_25 rfl hl (by decide) rfl (fun ls hl => ?_)
      refine lv_iload_n hx hb dX5_beside_26 rfl (lv_at hl 2 rfl) ?_
      refine lv_aload_n hx hb dX5_beside_27 rfl (lv_at hl 1 rfl) ?_
      refine va_get (D := D) (ci := 5) (v := .int (nI w)) (C := RX5) (T := TX5) (N := 30) hx hb hts hin5 hown hK.1 hP 0 rfl rfl 2 (by decide) (hts _ (List.mem_of_getElem? (i := 1) rfl)) (fun _ h9 => h9) rfl dX5_beside_28 ?_
      refine lv_irem hx hb dX5_beside_31 (nI_nez hw0 (by omega)) ?_
      refine k_top (y := (nI (j % w))) (pk_rem (by omega) hw0 (by omega)) ?_
      refine lv_iload_n hx hb dX5_beside_32 rfl (lv_at hl 3 rfl) ?_
      refine lv_iconst (v := 3) hx hb dX5_beside_33 (by decide) ?_
      refine lv_icmp_ne (tgt := 41) hx hb dX5_beside_34 (by decide) (fun c_2 => ?_) (fun c_2 => ?_)
      · refine lv_iload_n hx hb dX5_beside_41 rfl (lv_at hl 3 rfl) ?_
        refine lv_iconst (v := 1) hx hb dX5_beside_42 (by decide) ?_
        refine lv_icmp_ne (tgt := 50) hx hb dX5_beside_43 (by decide) (fun c_3 => ?_) (fun c_3 => ?_)
        · refine lv_iconst (v := 0) hx hb dX5_beside_50 (by decide) ?_
          refine lv_iadd hx hb dX5_beside_51 ?_
          refine k_top (y := (nI ((j % w) + 0))) (nI_add _ 0) ?_
          refine lv_istore (lv' := [(4, .int (nI ((j % w) + 0))), (3, .int (nI (j / w - 1))), (0, .ref (b 0)), (1, .int (nI j)), (2, .int 0)]) hx hb dX5_beside_52 hl (by decide) rfl (fun ls hl => ?_)
          refine lv_iload_n hx hb dX5_beside_54 rfl (lv_at hl 1 rfl) ?_
          refine lv_i2l (v := (nI (j / w - 1)).toInt64) hx hb dX5_beside_55 rfl ?_
          refine lv_lconst (v := 0) hx hb dX5_beside_56 (by decide) ?_
          refine lv_aload_n hx hb dX5_beside_57 rfl (lv_at hl 2 rfl) ?_
          refine va_get (D := D) (ci := 5) (v := .int (nI h)) (C := RX5) (T := TX5) (N := 30) hx hb hts hin5 hown hK.1 hP 0 rfl rfl 1 (by decide) (hts _ (List.mem_of_getElem? (i := 2) rfl)) (fun _ h9 => h9) rfl dX5_beside_58 ?_
          refine lv_i2l (v := (nI h).toInt64) hx hb dX5_beside_61 rfl ?_
          refine lv_lconst (v := 1) hx hb dX5_beside_62 (by decide) ?_
          refine lv_lsub hx hb dX5_beside_63 ?_
          refine k_ri (run_RS (As := [.long ((nI (j / w - 1)).toInt64), .long 0, .long (((nI h).toInt64) - 1)]) (rest := []) ⟨hx, hb, hml, hown, hts⟩ (c_X5_in l D cI cJ cO ((nI (j / w - 1)).toInt64) 0 (((nI h).toInt64) - 1)) (va_cwS 3 hts gX5_beside_X5_in rfl rfl rfl (by decide +kernel) ⟨Nat.le_of_ble_eq_true rfl, Nat.le_of_ble_eq_true rfl⟩) hP hK [] rfl rfl hl.1 rfl (Nat.le_of_ble_eq_true rfl) dX5_beside_64 ⟨Nat.le_refl _, Nat.le_refl _⟩) (fun r_4 q_5 => ?_)
          obtain rfl := q_5
          refine k_top (y := (b2 (inN (nI (j / w - 1)) h))) (b2_cong (in_m1 (by omega))) ?_
          refine lv_if_eq (tgt := 99) hx hb dX5_beside_67 (by decide) (fun c_6 => ?_) (fun c_6 => ?_)
          · exact absurd hR (b2_f c_6)
          · have c_6 := b2_t c_6
            refine lv_iload hx hb dX5_beside_70 (lv_at hl 0 rfl) ?_
            refine lv_i2l (v := (nI ((j % w) + 0)).toInt64) hx hb dX5_beside_72 rfl ?_
            refine lv_lconst (v := 0) hx hb dX5_beside_73 (by decide) ?_
            refine lv_aload_n hx hb dX5_beside_74 rfl (lv_at hl 2 rfl) ?_
            refine va_get (D := D) (ci := 5) (v := .int (nI w)) (C := RX5) (T := TX5) (N := 30) hx hb hts hin5 hown hK.1 hP 0 rfl rfl 2 (by decide) (hts _ (List.mem_of_getElem? (i := 1) rfl)) (fun _ h9 => h9) rfl dX5_beside_75 ?_
            refine lv_i2l (v := (nI w).toInt64) hx hb dX5_beside_78 rfl ?_
            refine lv_lconst (v := 1) hx hb dX5_beside_79 (by decide) ?_
            refine lv_lsub hx hb dX5_beside_80 ?_
            refine k_ri (run_RS (As := [.long ((nI ((j % w) + 0)).toInt64), .long 0, .long (((nI w).toInt64) - 1)]) (rest := []) ⟨hx, hb, hml, hown, hts⟩ (c_X5_in l D cI cJ cO ((nI ((j % w) + 0)).toInt64) 0 (((nI w).toInt64) - 1)) (va_cwS 3 hts gX5_beside_X5_in rfl rfl rfl (by decide +kernel) ⟨Nat.le_of_ble_eq_true rfl, Nat.le_of_ble_eq_true rfl⟩) hP hK [] rfl rfl hl.1 rfl (Nat.le_of_ble_eq_true rfl) dX5_beside_81 ⟨Nat.le_refl _, Nat.le_refl _⟩) (fun r_7 q_8 => ?_)
            obtain rfl := q_8
            refine k_top (y := (b2 (inN (nI (j % w + 0)) w))) (b2_cong (in_m1 (by omega))) ?_
            refine lv_if_eq (tgt := 99) hx hb dX5_beside_84 (by decide) (fun c_9 => ?_) (fun c_9 => ?_)
            · exact absurd hP9 (b2_f c_9)
            · have c_9 := b2_t c_9
              refine lv_iload_n hx hb dX5_beside_87 rfl (lv_at hl 1 rfl) ?_
              refine lv_aload_n hx hb dX5_beside_88 rfl (lv_at hl 2 rfl) ?_
              refine va_get (D := D) (ci := 5) (v := .int (nI w)) (C := RX5) (T := TX5) (N := 30) hx hb hts hin5 hown hK.1 hP 0 rfl rfl 2 (by decide) (hts _ (List.mem_of_getElem? (i := 1) rfl)) (fun _ h9 => h9) rfl dX5_beside_89 ?_
              refine lv_imul hx hb dX5_beside_92 ?_
              refine k_top (y := (nI ((j / w - 1) * w))) (pk_mul _ _) ?_
              refine lv_iload hx hb dX5_beside_93 (lv_at hl 0 rfl) ?_
              refine lv_iadd hx hb dX5_beside_95 ?_
              refine k_top (y := (nI (((j / w - 1) * w) + ((j % w) + 0)))) (nI_add _ _) ?_
              refine lv_goto (tgt := 101) hx hb dX5_beside_96 (by decide) ?_
              refine ri_ret (v := (nI (((j / w - 1) * w) + ((j % w) + 0)))) hx hb hr hlk dX5_beside_101 ?_
              rw [nbF, if_pos rfl, if_pos hz, nb_a0 hz]
        · exact absurd c_3 (by decide)
      · exact absurd c_2 (by decide)
  · have hl : lv_has ls 5 [(0, .ref (b 0)), (1, .int (nI j)), (2, .int 0)] := hl
    have hR : ¬ inN (-1) h := fun z => absurd z.1 (by decide)
    have hP9 : inN (nI (j % w + 0)) w := nI_inN (by omega) (by omega)
    refine lv_iload_n hx hb dX5_beside_0 rfl (lv_at hl 1 rfl) ?_
    refine lv_aload_n hx hb dX5_beside_1 rfl (lv_at hl 0 rfl) ?_
    refine va_get (D := D) (ci := 5) (v := .int (nI w)) (C := RX5) (T := TX5) (N := 30) hx hb hts hin5 hown hK.1 hP 0 rfl rfl 2 (by decide) (hts _ (List.mem_of_getElem? (i := 1) rfl)) (fun _ h9 => h9) rfl dX5_beside_2 ?_
    refine lv_idiv hx hb dX5_beside_5 (nI_nez hw0 (by omega)) ?_
    refine k_top (y := (nI (j / w))) (pk_div (by omega) hw0 (by omega)) ?_
    refine lv_iload_n hx hb dX5_beside_6 rfl (lv_at hl 2 rfl) ?_
    refine lv_if_ne (tgt := 14) hx hb dX5_beside_7 (by decide) (fun c_10 => ?_) (fun c_10 => ?_)
    · exact absurd c_10 (by decide)
    · refine lv_iconst (v := (-1)) hx hb dX5_beside_10 (by decide) ?_
      refine lv_goto (tgt := 24) hx hb dX5_beside_11 (by decide) ?_
      refine lv_iadd hx hb dX5_beside_24 ?_
      refine k_top (y := (-1)) (by rw [hz]; rfl) ?_
      refine lv_istore_n (lv' := [(3, .int (-1)), (0, .ref (b 0)), (1, .int (nI j)), (2, .int 0)]) hx hb dX5_beside_25 rfl hl (by decide) rfl (fun ls hl => ?_)
      refine lv_iload_n hx hb dX5_beside_26 rfl (lv_at hl 2 rfl) ?_
      refine lv_aload_n hx hb dX5_beside_27 rfl (lv_at hl 1 rfl) ?_
      refine va_get (D := D) (ci := 5) (v := .int (nI w)) (C := RX5) (T := TX5) (N := 30) hx hb hts hin5 hown hK.1 hP 0 rfl rfl 2 (by decide) (hts _ (List.mem_of_getElem? (i := 1) rfl)) (fun _ h9 => h9) rfl dX5_beside_28 ?_
      refine lv_irem hx hb dX5_beside_31 (nI_nez hw0 (by omega)) ?_
      refine k_top (y := (nI (j % w))) (pk_rem (by omega) hw0 (by omega)) ?_
      refine lv_iload_n hx hb dX5_beside_32 rfl (lv_at hl 3 rfl) ?_
      refine lv_iconst (v := 3) hx hb dX5_beside_33 (by decide) ?_
      refine lv_icmp_ne (tgt := 41) hx hb dX5_beside_34 (by decide) (fun c_11 => ?_) (fun c_11 => ?_)
      · refine lv_iload_n hx hb dX5_beside_41 rfl (lv_at hl 3 rfl) ?_
        refine lv_iconst (v := 1) hx hb dX5_beside_42 (by decide) ?_
        refine lv_icmp_ne (tgt := 50) hx hb dX5_beside_43 (by decide) (fun c_12 => ?_) (fun c_12 => ?_)
        · refine lv_iconst (v := 0) hx hb dX5_beside_50 (by decide) ?_
          refine lv_iadd hx hb dX5_beside_51 ?_
          refine k_top (y := (nI ((j % w) + 0))) (nI_add _ 0) ?_
          refine lv_istore (lv' := [(4, .int (nI ((j % w) + 0))), (3, .int (-1)), (0, .ref (b 0)), (1, .int (nI j)), (2, .int 0)]) hx hb dX5_beside_52 hl (by decide) rfl (fun ls hl => ?_)
          refine lv_iload_n hx hb dX5_beside_54 rfl (lv_at hl 1 rfl) ?_
          refine lv_i2l (v := ((-1) : Int32).toInt64) hx hb dX5_beside_55 rfl ?_
          refine lv_lconst (v := 0) hx hb dX5_beside_56 (by decide) ?_
          refine lv_aload_n hx hb dX5_beside_57 rfl (lv_at hl 2 rfl) ?_
          refine va_get (D := D) (ci := 5) (v := .int (nI h)) (C := RX5) (T := TX5) (N := 30) hx hb hts hin5 hown hK.1 hP 0 rfl rfl 1 (by decide) (hts _ (List.mem_of_getElem? (i := 2) rfl)) (fun _ h9 => h9) rfl dX5_beside_58 ?_
          refine lv_i2l (v := (nI h).toInt64) hx hb dX5_beside_61 rfl ?_
          refine lv_lconst (v := 1) hx hb dX5_beside_62 (by decide) ?_
          refine lv_lsub hx hb dX5_beside_63 ?_
          refine k_ri (run_RS (As := [.long (((-1) : Int32).toInt64), .long 0, .long (((nI h).toInt64) - 1)]) (rest := []) ⟨hx, hb, hml, hown, hts⟩ (c_X5_in l D cI cJ cO (((-1) : Int32).toInt64) 0 (((nI h).toInt64) - 1)) (va_cwS 3 hts gX5_beside_X5_in rfl rfl rfl (by decide +kernel) ⟨Nat.le_of_ble_eq_true rfl, Nat.le_of_ble_eq_true rfl⟩) hP hK [] rfl rfl hl.1 rfl (Nat.le_of_ble_eq_true rfl) dX5_beside_64 ⟨Nat.le_refl _, Nat.le_refl _⟩) (fun r_13 q_14 => ?_)
          obtain rfl := q_14
          refine k_top (y := (b2 (inN (-1) h))) (b2_cong (in_m1 (by omega))) ?_
          refine lv_if_eq (tgt := 99) hx hb dX5_beside_67 (by decide) (fun c_15 => ?_) (fun c_15 => ?_)
          · have c_15 := b2_f c_15
            refine lv_bipush (v := (-9)) hx hb dX5_beside_99 (by decide) ?_
            refine ri_ret (v := (-9)) hx hb hr hlk dX5_beside_101 ?_
            rw [nbF, if_pos rfl, if_neg (by omega)]
          · exact absurd (b2_t c_15) hR
        · exact absurd c_12 (by decide)
      · exact absurd c_11 (by decide)
  · have hl : lv_has ls 5 [(0, .ref (b 0)), (1, .int (nI j)), (2, .int 1)] := hl
    have hR : inN (nI (j / w + 0)) h := nI_inN (by omega) (by omega)
    refine lv_iload_n hx hb dX5_beside_0 rfl (lv_at hl 1 rfl) ?_
    refine lv_aload_n hx hb dX5_beside_1 rfl (lv_at hl 0 rfl) ?_
    refine va_get (D := D) (ci := 5) (v := .int (nI w)) (C := RX5) (T := TX5) (N := 30) hx hb hts hin5 hown hK.1 hP 0 rfl rfl 2 (by decide) (hts _ (List.mem_of_getElem? (i := 1) rfl)) (fun _ h9 => h9) rfl dX5_beside_2 ?_
    refine lv_idiv hx hb dX5_beside_5 (nI_nez hw0 (by omega)) ?_
    refine k_top (y := (nI (j / w))) (pk_div (by omega) hw0 (by omega)) ?_
    refine lv_iload_n hx hb dX5_beside_6 rfl (lv_at hl 2 rfl) ?_
    refine lv_if_ne (tgt := 14) hx hb dX5_beside_7 (by decide) (fun c_16 => ?_) (fun c_16 => ?_)
    · refine lv_iload_n hx hb dX5_beside_14 rfl (lv_at hl 2 rfl) ?_
      refine lv_iconst (v := 2) hx hb dX5_beside_15 (by decide) ?_
      refine lv_icmp_ne (tgt := 23) hx hb dX5_beside_16 (by decide) (fun c_17 => ?_) (fun c_17 => ?_)
      · refine lv_iconst (v := 0) hx hb dX5_beside_23 (by decide) ?_
        refine lv_iadd hx hb dX5_beside_24 ?_
        refine k_top (y := (nI ((j / w) + 0))) (nI_add _ 0) ?_
        refine lv_istore_n (lv' := [(3, .int (nI ((j / w) + 0))), (0, .ref (b 0)), (1, .int (nI j)), (2, .int 1)]) hx hb dX5_beside_25 rfl hl (by decide) rfl (fun ls hl => ?_)
        refine lv_iload_n hx hb dX5_beside_26 rfl (lv_at hl 2 rfl) ?_
        refine lv_aload_n hx hb dX5_beside_27 rfl (lv_at hl 1 rfl) ?_
        refine va_get (D := D) (ci := 5) (v := .int (nI w)) (C := RX5) (T := TX5) (N := 30) hx hb hts hin5 hown hK.1 hP 0 rfl rfl 2 (by decide) (hts _ (List.mem_of_getElem? (i := 1) rfl)) (fun _ h9 => h9) rfl dX5_beside_28 ?_
        refine lv_irem hx hb dX5_beside_31 (nI_nez hw0 (by omega)) ?_
        refine k_top (y := (nI (j % w))) (pk_rem (by omega) hw0 (by omega)) ?_
        refine lv_iload_n hx hb dX5_beside_32 rfl (lv_at hl 3 rfl) ?_
        refine lv_iconst (v := 3) hx hb dX5_beside_33 (by decide) ?_
        refine lv_icmp_ne (tgt := 41) hx hb dX5_beside_34 (by decide) (fun c_18 => ?_) (fun c_18 => ?_)
        · refine lv_iload_n hx hb dX5_beside_41 rfl (lv_at hl 3 rfl) ?_
          refine lv_iconst (v := 1) hx hb dX5_beside_42 (by decide) ?_
          refine lv_icmp_ne (tgt := 50) hx hb dX5_beside_43 (by decide) (fun c_19 => ?_) (fun c_19 => ?_)
          · exact absurd c_19 (by decide)
          · refine lv_iconst (v := 1) hx hb dX5_beside_46 (by decide) ?_
            refine lv_goto (tgt := 51) hx hb dX5_beside_47 (by decide) ?_
            refine lv_iadd hx hb dX5_beside_51 ?_
            refine k_top (y := (nI ((j % w) + 1))) (nI_add _ 1) ?_
            refine lv_istore (lv' := [(4, .int (nI ((j % w) + 1))), (3, .int (nI ((j / w) + 0))), (0, .ref (b 0)), (1, .int (nI j)), (2, .int 1)]) hx hb dX5_beside_52 hl (by decide) rfl (fun ls hl => ?_)
            refine lv_iload_n hx hb dX5_beside_54 rfl (lv_at hl 1 rfl) ?_
            refine lv_i2l (v := (nI ((j / w) + 0)).toInt64) hx hb dX5_beside_55 rfl ?_
            refine lv_lconst (v := 0) hx hb dX5_beside_56 (by decide) ?_
            refine lv_aload_n hx hb dX5_beside_57 rfl (lv_at hl 2 rfl) ?_
            refine va_get (D := D) (ci := 5) (v := .int (nI h)) (C := RX5) (T := TX5) (N := 30) hx hb hts hin5 hown hK.1 hP 0 rfl rfl 1 (by decide) (hts _ (List.mem_of_getElem? (i := 2) rfl)) (fun _ h9 => h9) rfl dX5_beside_58 ?_
            refine lv_i2l (v := (nI h).toInt64) hx hb dX5_beside_61 rfl ?_
            refine lv_lconst (v := 1) hx hb dX5_beside_62 (by decide) ?_
            refine lv_lsub hx hb dX5_beside_63 ?_
            refine k_ri (run_RS (As := [.long ((nI ((j / w) + 0)).toInt64), .long 0, .long (((nI h).toInt64) - 1)]) (rest := []) ⟨hx, hb, hml, hown, hts⟩ (c_X5_in l D cI cJ cO ((nI ((j / w) + 0)).toInt64) 0 (((nI h).toInt64) - 1)) (va_cwS 3 hts gX5_beside_X5_in rfl rfl rfl (by decide +kernel) ⟨Nat.le_of_ble_eq_true rfl, Nat.le_of_ble_eq_true rfl⟩) hP hK [] rfl rfl hl.1 rfl (Nat.le_of_ble_eq_true rfl) dX5_beside_64 ⟨Nat.le_refl _, Nat.le_refl _⟩) (fun r_20 q_21 => ?_)
            obtain rfl := q_21
            refine k_top (y := (b2 (inN (nI (j / w + 0)) h))) (b2_cong (in_m1 (by omega))) ?_
            refine lv_if_eq (tgt := 99) hx hb dX5_beside_67 (by decide) (fun c_22 => ?_) (fun c_22 => ?_)
            · exact absurd hR (b2_f c_22)
            · have c_22 := b2_t c_22
              refine lv_iload hx hb dX5_beside_70 (lv_at hl 0 rfl) ?_
              refine lv_i2l (v := (nI ((j % w) + 1)).toInt64) hx hb dX5_beside_72 rfl ?_
              refine lv_lconst (v := 0) hx hb dX5_beside_73 (by decide) ?_
              refine lv_aload_n hx hb dX5_beside_74 rfl (lv_at hl 2 rfl) ?_
              refine va_get (D := D) (ci := 5) (v := .int (nI w)) (C := RX5) (T := TX5) (N := 30) hx hb hts hin5 hown hK.1 hP 0 rfl rfl 2 (by decide) (hts _ (List.mem_of_getElem? (i := 1) rfl)) (fun _ h9 => h9) rfl dX5_beside_75 ?_
              refine lv_i2l (v := (nI w).toInt64) hx hb dX5_beside_78 rfl ?_
              refine lv_lconst (v := 1) hx hb dX5_beside_79 (by decide) ?_
              refine lv_lsub hx hb dX5_beside_80 ?_
              refine k_ri (run_RS (As := [.long ((nI ((j % w) + 1)).toInt64), .long 0, .long (((nI w).toInt64) - 1)]) (rest := []) ⟨hx, hb, hml, hown, hts⟩ (c_X5_in l D cI cJ cO ((nI ((j % w) + 1)).toInt64) 0 (((nI w).toInt64) - 1)) (va_cwS 3 hts gX5_beside_X5_in rfl rfl rfl (by decide +kernel) ⟨Nat.le_of_ble_eq_true rfl, Nat.le_of_ble_eq_true rfl⟩) hP hK [] rfl rfl hl.1 rfl (Nat.le_of_ble_eq_true rfl) dX5_beside_81 ⟨Nat.le_refl _, Nat.le_refl _⟩) (fun r_23 q_24 => ?_)
              obtain rfl := q_24
              refine k_top (y := (b2 (inN (nI (j % w + 1)) w))) (b2_cong (in_m1 (by omega))) ?_
              refine lv_if_eq (tgt := 99) hx hb dX5_beside_84 (by decide) (fun c_25 => ?_) (fun c_25 => ?_)
              · have c_25 := b2_f c_25
                refine lv_bipush (v := (-9)) hx hb dX5_beside_99 (by decide) ?_
                refine ri_ret (v := (-9)) hx hb hr hlk dX5_beside_101 ?_
                have hlt : ¬ j % w + 1 < w := fun z => c_25 (nI_inN z (by omega))
                rw [nbF, if_neg (by decide), if_pos rfl, if_neg (fun z => hlt (Nat.add_lt_of_lt_sub z))]
              · have c_25 := b2_t c_25
                refine lv_iload_n hx hb dX5_beside_87 rfl (lv_at hl 1 rfl) ?_
                refine lv_aload_n hx hb dX5_beside_88 rfl (lv_at hl 2 rfl) ?_
                refine va_get (D := D) (ci := 5) (v := .int (nI w)) (C := RX5) (T := TX5) (N := 30) hx hb hts hin5 hown hK.1 hP 0 rfl rfl 2 (by decide) (hts _ (List.mem_of_getElem? (i := 1) rfl)) (fun _ h9 => h9) rfl dX5_beside_89 ?_
                refine lv_imul hx hb dX5_beside_92 ?_
                refine k_top (y := (nI (((j / w) + 0) * w))) (pk_mul _ _) ?_
                refine lv_iload hx hb dX5_beside_93 (lv_at hl 0 rfl) ?_
                refine lv_iadd hx hb dX5_beside_95 ?_
                refine k_top (y := (nI ((((j / w) + 0) * w) + ((j % w) + 1)))) (nI_add _ _) ?_
                refine lv_goto (tgt := 101) hx hb dX5_beside_96 (by decide) ?_
                refine ri_ret (v := (nI ((((j / w) + 0) * w) + ((j % w) + 1)))) hx hb hr hlk dX5_beside_101 ?_
                have hlt := inN_nI (by omega) c_25
                rw [nbF, if_neg (by decide), if_pos rfl, if_pos (by omega), nb_a1 j w]
        · exact absurd c_18 (by decide)
      · exact absurd c_17 (by decide)
    · exact absurd c_16 (by decide)
  · have hl : lv_has ls 5 [(0, .ref (b 0)), (1, .int (nI j)), (2, .int 2)] := hl
    have hP9 : inN (nI (j % w + 0)) w := nI_inN (by omega) (by omega)
    refine lv_iload_n hx hb dX5_beside_0 rfl (lv_at hl 1 rfl) ?_
    refine lv_aload_n hx hb dX5_beside_1 rfl (lv_at hl 0 rfl) ?_
    refine va_get (D := D) (ci := 5) (v := .int (nI w)) (C := RX5) (T := TX5) (N := 30) hx hb hts hin5 hown hK.1 hP 0 rfl rfl 2 (by decide) (hts _ (List.mem_of_getElem? (i := 1) rfl)) (fun _ h9 => h9) rfl dX5_beside_2 ?_
    refine lv_idiv hx hb dX5_beside_5 (nI_nez hw0 (by omega)) ?_
    refine k_top (y := (nI (j / w))) (pk_div (by omega) hw0 (by omega)) ?_
    refine lv_iload_n hx hb dX5_beside_6 rfl (lv_at hl 2 rfl) ?_
    refine lv_if_ne (tgt := 14) hx hb dX5_beside_7 (by decide) (fun c_26 => ?_) (fun c_26 => ?_)
    · refine lv_iload_n hx hb dX5_beside_14 rfl (lv_at hl 2 rfl) ?_
      refine lv_iconst (v := 2) hx hb dX5_beside_15 (by decide) ?_
      refine lv_icmp_ne (tgt := 23) hx hb dX5_beside_16 (by decide) (fun c_27 => ?_) (fun c_27 => ?_)
      · exact absurd c_27 (by decide)
      · refine lv_iconst (v := 1) hx hb dX5_beside_19 (by decide) ?_
        refine lv_goto (tgt := 24) hx hb dX5_beside_20 (by decide) ?_
        refine lv_iadd hx hb dX5_beside_24 ?_
        refine k_top (y := (nI ((j / w) + 1))) (nI_add _ 1) ?_
        refine lv_istore_n (lv' := [(3, .int (nI ((j / w) + 1))), (0, .ref (b 0)), (1, .int (nI j)), (2, .int 2)]) hx hb dX5_beside_25 rfl hl (by decide) rfl (fun ls hl => ?_)
        refine lv_iload_n hx hb dX5_beside_26 rfl (lv_at hl 2 rfl) ?_
        refine lv_aload_n hx hb dX5_beside_27 rfl (lv_at hl 1 rfl) ?_
        refine va_get (D := D) (ci := 5) (v := .int (nI w)) (C := RX5) (T := TX5) (N := 30) hx hb hts hin5 hown hK.1 hP 0 rfl rfl 2 (by decide) (hts _ (List.mem_of_getElem? (i := 1) rfl)) (fun _ h9 => h9) rfl dX5_beside_28 ?_
        refine lv_irem hx hb dX5_beside_31 (nI_nez hw0 (by omega)) ?_
        refine k_top (y := (nI (j % w))) (pk_rem (by omega) hw0 (by omega)) ?_
        refine lv_iload_n hx hb dX5_beside_32 rfl (lv_at hl 3 rfl) ?_
        refine lv_iconst (v := 3) hx hb dX5_beside_33 (by decide) ?_
        refine lv_icmp_ne (tgt := 41) hx hb dX5_beside_34 (by decide) (fun c_28 => ?_) (fun c_28 => ?_)
        · refine lv_iload_n hx hb dX5_beside_41 rfl (lv_at hl 3 rfl) ?_
          refine lv_iconst (v := 1) hx hb dX5_beside_42 (by decide) ?_
          refine lv_icmp_ne (tgt := 50) hx hb dX5_beside_43 (by decide) (fun c_29 => ?_) (fun c_29 => ?_)
          · refine lv_iconst (v := 0) hx hb dX5_beside_50 (by decide) ?_
            refine lv_iadd hx hb dX5_beside_51 ?_
            refine k_top (y := (nI ((j % w) + 0))) (nI_add _ 0) ?_
            refine lv_istore (lv' := [(4, .int (nI ((j % w) + 0))), (3, .int (nI ((j / w) + 1))), (0, .ref (b 0)), (1, .int (nI j)), (2, .int 2)]) hx hb dX5_beside_52 hl (by decide) rfl (fun ls hl => ?_)
            refine lv_iload_n hx hb dX5_beside_54 rfl (lv_at hl 1 rfl) ?_
            refine lv_i2l (v := (nI ((j / w) + 1)).toInt64) hx hb dX5_beside_55 rfl ?_
            refine lv_lconst (v := 0) hx hb dX5_beside_56 (by decide) ?_
            refine lv_aload_n hx hb dX5_beside_57 rfl (lv_at hl 2 rfl) ?_
            refine va_get (D := D) (ci := 5) (v := .int (nI h)) (C := RX5) (T := TX5) (N := 30) hx hb hts hin5 hown hK.1 hP 0 rfl rfl 1 (by decide) (hts _ (List.mem_of_getElem? (i := 2) rfl)) (fun _ h9 => h9) rfl dX5_beside_58 ?_
            refine lv_i2l (v := (nI h).toInt64) hx hb dX5_beside_61 rfl ?_
            refine lv_lconst (v := 1) hx hb dX5_beside_62 (by decide) ?_
            refine lv_lsub hx hb dX5_beside_63 ?_
            refine k_ri (run_RS (As := [.long ((nI ((j / w) + 1)).toInt64), .long 0, .long (((nI h).toInt64) - 1)]) (rest := []) ⟨hx, hb, hml, hown, hts⟩ (c_X5_in l D cI cJ cO ((nI ((j / w) + 1)).toInt64) 0 (((nI h).toInt64) - 1)) (va_cwS 3 hts gX5_beside_X5_in rfl rfl rfl (by decide +kernel) ⟨Nat.le_of_ble_eq_true rfl, Nat.le_of_ble_eq_true rfl⟩) hP hK [] rfl rfl hl.1 rfl (Nat.le_of_ble_eq_true rfl) dX5_beside_64 ⟨Nat.le_refl _, Nat.le_refl _⟩) (fun r_30 q_31 => ?_)
            obtain rfl := q_31
            refine k_top (y := (b2 (inN (nI (j / w + 1)) h))) (b2_cong (in_m1 (by omega))) ?_
            refine lv_if_eq (tgt := 99) hx hb dX5_beside_67 (by decide) (fun c_32 => ?_) (fun c_32 => ?_)
            · have c_32 := b2_f c_32
              refine lv_bipush (v := (-9)) hx hb dX5_beside_99 (by decide) ?_
              refine ri_ret (v := (-9)) hx hb hr hlk dX5_beside_101 ?_
              have hlt : ¬ j / w + 1 < h := fun z => c_32 (nI_inN z (by omega))
              rw [nbF, if_neg (by decide), if_neg (by decide), if_pos rfl, if_neg (fun z => hlt (Nat.add_lt_of_lt_sub z))]
            · have c_32 := b2_t c_32
              refine lv_iload hx hb dX5_beside_70 (lv_at hl 0 rfl) ?_
              refine lv_i2l (v := (nI ((j % w) + 0)).toInt64) hx hb dX5_beside_72 rfl ?_
              refine lv_lconst (v := 0) hx hb dX5_beside_73 (by decide) ?_
              refine lv_aload_n hx hb dX5_beside_74 rfl (lv_at hl 2 rfl) ?_
              refine va_get (D := D) (ci := 5) (v := .int (nI w)) (C := RX5) (T := TX5) (N := 30) hx hb hts hin5 hown hK.1 hP 0 rfl rfl 2 (by decide) (hts _ (List.mem_of_getElem? (i := 1) rfl)) (fun _ h9 => h9) rfl dX5_beside_75 ?_
              refine lv_i2l (v := (nI w).toInt64) hx hb dX5_beside_78 rfl ?_
              refine lv_lconst (v := 1) hx hb dX5_beside_79 (by decide) ?_
              refine lv_lsub hx hb dX5_beside_80 ?_
              refine k_ri (run_RS (As := [.long ((nI ((j % w) + 0)).toInt64), .long 0, .long (((nI w).toInt64) - 1)]) (rest := []) ⟨hx, hb, hml, hown, hts⟩ (c_X5_in l D cI cJ cO ((nI ((j % w) + 0)).toInt64) 0 (((nI w).toInt64) - 1)) (va_cwS 3 hts gX5_beside_X5_in rfl rfl rfl (by decide +kernel) ⟨Nat.le_of_ble_eq_true rfl, Nat.le_of_ble_eq_true rfl⟩) hP hK [] rfl rfl hl.1 rfl (Nat.le_of_ble_eq_true rfl) dX5_beside_81 ⟨Nat.le_refl _, Nat.le_refl _⟩) (fun r_33 q_34 => ?_)
              obtain rfl := q_34
              refine k_top (y := (b2 (inN (nI (j % w + 0)) w))) (b2_cong (in_m1 (by omega))) ?_
              refine lv_if_eq (tgt := 99) hx hb dX5_beside_84 (by decide) (fun c_35 => ?_) (fun c_35 => ?_)
              · exact absurd hP9 (b2_f c_35)
              · have c_35 := b2_t c_35
                refine lv_iload_n hx hb dX5_beside_87 rfl (lv_at hl 1 rfl) ?_
                refine lv_aload_n hx hb dX5_beside_88 rfl (lv_at hl 2 rfl) ?_
                refine va_get (D := D) (ci := 5) (v := .int (nI w)) (C := RX5) (T := TX5) (N := 30) hx hb hts hin5 hown hK.1 hP 0 rfl rfl 2 (by decide) (hts _ (List.mem_of_getElem? (i := 1) rfl)) (fun _ h9 => h9) rfl dX5_beside_89 ?_
                refine lv_imul hx hb dX5_beside_92 ?_
                refine k_top (y := (nI (((j / w) + 1) * w))) (pk_mul _ _) ?_
                refine lv_iload hx hb dX5_beside_93 (lv_at hl 0 rfl) ?_
                refine lv_iadd hx hb dX5_beside_95 ?_
                refine k_top (y := (nI ((((j / w) + 1) * w) + ((j % w) + 0)))) (nI_add _ _) ?_
                refine lv_goto (tgt := 101) hx hb dX5_beside_96 (by decide) ?_
                refine ri_ret (v := (nI ((((j / w) + 1) * w) + ((j % w) + 0)))) hx hb hr hlk dX5_beside_101 ?_
                have hlt := inN_nI (by omega) c_32
                rw [nbF, if_neg (by decide), if_neg (by decide), if_pos rfl, if_pos (by omega), nb_a2 j w]
          · exact absurd c_29 (by decide)
        · exact absurd c_28 (by decide)
    · exact absurd c_26 (by decide)
  · have hl : lv_has ls 5 [(0, .ref (b 0)), (1, .int (nI j)), (2, .int 3)] := hl
    have hR : inN (nI (j / w + 0)) h := nI_inN (by omega) (by omega)
    have hP9 : inN (nI (j % w - 1)) w := nI_inN (by omega) (by omega)
    refine lv_iload_n hx hb dX5_beside_0 rfl (lv_at hl 1 rfl) ?_
    refine lv_aload_n hx hb dX5_beside_1 rfl (lv_at hl 0 rfl) ?_
    refine va_get (D := D) (ci := 5) (v := .int (nI w)) (C := RX5) (T := TX5) (N := 30) hx hb hts hin5 hown hK.1 hP 0 rfl rfl 2 (by decide) (hts _ (List.mem_of_getElem? (i := 1) rfl)) (fun _ h9 => h9) rfl dX5_beside_2 ?_
    refine lv_idiv hx hb dX5_beside_5 (nI_nez hw0 (by omega)) ?_
    refine k_top (y := (nI (j / w))) (pk_div (by omega) hw0 (by omega)) ?_
    refine lv_iload_n hx hb dX5_beside_6 rfl (lv_at hl 2 rfl) ?_
    refine lv_if_ne (tgt := 14) hx hb dX5_beside_7 (by decide) (fun c_36 => ?_) (fun c_36 => ?_)
    · refine lv_iload_n hx hb dX5_beside_14 rfl (lv_at hl 2 rfl) ?_
      refine lv_iconst (v := 2) hx hb dX5_beside_15 (by decide) ?_
      refine lv_icmp_ne (tgt := 23) hx hb dX5_beside_16 (by decide) (fun c_37 => ?_) (fun c_37 => ?_)
      · refine lv_iconst (v := 0) hx hb dX5_beside_23 (by decide) ?_
        refine lv_iadd hx hb dX5_beside_24 ?_
        refine k_top (y := (nI ((j / w) + 0))) (nI_add _ 0) ?_
        refine lv_istore_n (lv' := [(3, .int (nI ((j / w) + 0))), (0, .ref (b 0)), (1, .int (nI j)), (2, .int 3)]) hx hb dX5_beside_25 rfl hl (by decide) rfl (fun ls hl => ?_)
        refine lv_iload_n hx hb dX5_beside_26 rfl (lv_at hl 2 rfl) ?_
        refine lv_aload_n hx hb dX5_beside_27 rfl (lv_at hl 1 rfl) ?_
        refine va_get (D := D) (ci := 5) (v := .int (nI w)) (C := RX5) (T := TX5) (N := 30) hx hb hts hin5 hown hK.1 hP 0 rfl rfl 2 (by decide) (hts _ (List.mem_of_getElem? (i := 1) rfl)) (fun _ h9 => h9) rfl dX5_beside_28 ?_
        refine lv_irem hx hb dX5_beside_31 (nI_nez hw0 (by omega)) ?_
        refine k_top (y := (nI (j % w))) (pk_rem (by omega) hw0 (by omega)) ?_
        refine lv_iload_n hx hb dX5_beside_32 rfl (lv_at hl 3 rfl) ?_
        refine lv_iconst (v := 3) hx hb dX5_beside_33 (by decide) ?_
        refine lv_icmp_ne (tgt := 41) hx hb dX5_beside_34 (by decide) (fun c_38 => ?_) (fun c_38 => ?_)
        · exact absurd c_38 (by decide)
        · refine lv_iconst (v := (-1)) hx hb dX5_beside_37 (by decide) ?_
          refine lv_goto (tgt := 51) hx hb dX5_beside_38 (by decide) ?_
          refine lv_iadd hx hb dX5_beside_51 ?_
          refine k_top (y := (nI (j % w - 1))) (nI_m1 hz) ?_
          refine lv_istore (lv' := [(4, .int (nI (j % w - 1))), (3, .int (nI ((j / w) + 0))), (0, .ref (b 0)), (1, .int (nI j)), (2, .int 3)]) hx hb dX5_beside_52 hl (by decide) rfl (fun ls hl => ?_)
          refine lv_iload_n hx hb dX5_beside_54 rfl (lv_at hl 1 rfl) ?_
          refine lv_i2l (v := (nI ((j / w) + 0)).toInt64) hx hb dX5_beside_55 rfl ?_
          refine lv_lconst (v := 0) hx hb dX5_beside_56 (by decide) ?_
          refine lv_aload_n hx hb dX5_beside_57 rfl (lv_at hl 2 rfl) ?_
          refine va_get (D := D) (ci := 5) (v := .int (nI h)) (C := RX5) (T := TX5) (N := 30) hx hb hts hin5 hown hK.1 hP 0 rfl rfl 1 (by decide) (hts _ (List.mem_of_getElem? (i := 2) rfl)) (fun _ h9 => h9) rfl dX5_beside_58 ?_
          refine lv_i2l (v := (nI h).toInt64) hx hb dX5_beside_61 rfl ?_
          refine lv_lconst (v := 1) hx hb dX5_beside_62 (by decide) ?_
          refine lv_lsub hx hb dX5_beside_63 ?_
          refine k_ri (run_RS (As := [.long ((nI ((j / w) + 0)).toInt64), .long 0, .long (((nI h).toInt64) - 1)]) (rest := []) ⟨hx, hb, hml, hown, hts⟩ (c_X5_in l D cI cJ cO ((nI ((j / w) + 0)).toInt64) 0 (((nI h).toInt64) - 1)) (va_cwS 3 hts gX5_beside_X5_in rfl rfl rfl (by decide +kernel) ⟨Nat.le_of_ble_eq_true rfl, Nat.le_of_ble_eq_true rfl⟩) hP hK [] rfl rfl hl.1 rfl (Nat.le_of_ble_eq_true rfl) dX5_beside_64 ⟨Nat.le_refl _, Nat.le_refl _⟩) (fun r_39 q_40 => ?_)
          obtain rfl := q_40
          refine k_top (y := (b2 (inN (nI (j / w + 0)) h))) (b2_cong (in_m1 (by omega))) ?_
          refine lv_if_eq (tgt := 99) hx hb dX5_beside_67 (by decide) (fun c_41 => ?_) (fun c_41 => ?_)
          · exact absurd hR (b2_f c_41)
          · have c_41 := b2_t c_41
            refine lv_iload hx hb dX5_beside_70 (lv_at hl 0 rfl) ?_
            refine lv_i2l (v := (nI (j % w - 1)).toInt64) hx hb dX5_beside_72 rfl ?_
            refine lv_lconst (v := 0) hx hb dX5_beside_73 (by decide) ?_
            refine lv_aload_n hx hb dX5_beside_74 rfl (lv_at hl 2 rfl) ?_
            refine va_get (D := D) (ci := 5) (v := .int (nI w)) (C := RX5) (T := TX5) (N := 30) hx hb hts hin5 hown hK.1 hP 0 rfl rfl 2 (by decide) (hts _ (List.mem_of_getElem? (i := 1) rfl)) (fun _ h9 => h9) rfl dX5_beside_75 ?_
            refine lv_i2l (v := (nI w).toInt64) hx hb dX5_beside_78 rfl ?_
            refine lv_lconst (v := 1) hx hb dX5_beside_79 (by decide) ?_
            refine lv_lsub hx hb dX5_beside_80 ?_
            refine k_ri (run_RS (As := [.long ((nI (j % w - 1)).toInt64), .long 0, .long (((nI w).toInt64) - 1)]) (rest := []) ⟨hx, hb, hml, hown, hts⟩ (c_X5_in l D cI cJ cO ((nI (j % w - 1)).toInt64) 0 (((nI w).toInt64) - 1)) (va_cwS 3 hts gX5_beside_X5_in rfl rfl rfl (by decide +kernel) ⟨Nat.le_of_ble_eq_true rfl, Nat.le_of_ble_eq_true rfl⟩) hP hK [] rfl rfl hl.1 rfl (Nat.le_of_ble_eq_true rfl) dX5_beside_81 ⟨Nat.le_refl _, Nat.le_refl _⟩) (fun r_42 q_43 => ?_)
            obtain rfl := q_43
            refine k_top (y := (b2 (inN (nI (j % w - 1)) w))) (b2_cong (in_m1 (by omega))) ?_
            refine lv_if_eq (tgt := 99) hx hb dX5_beside_84 (by decide) (fun c_44 => ?_) (fun c_44 => ?_)
            · exact absurd hP9 (b2_f c_44)
            · have c_44 := b2_t c_44
              refine lv_iload_n hx hb dX5_beside_87 rfl (lv_at hl 1 rfl) ?_
              refine lv_aload_n hx hb dX5_beside_88 rfl (lv_at hl 2 rfl) ?_
              refine va_get (D := D) (ci := 5) (v := .int (nI w)) (C := RX5) (T := TX5) (N := 30) hx hb hts hin5 hown hK.1 hP 0 rfl rfl 2 (by decide) (hts _ (List.mem_of_getElem? (i := 1) rfl)) (fun _ h9 => h9) rfl dX5_beside_89 ?_
              refine lv_imul hx hb dX5_beside_92 ?_
              refine k_top (y := (nI (((j / w) + 0) * w))) (pk_mul _ _) ?_
              refine lv_iload hx hb dX5_beside_93 (lv_at hl 0 rfl) ?_
              refine lv_iadd hx hb dX5_beside_95 ?_
              refine k_top (y := (nI ((((j / w) + 0) * w) + (j % w - 1)))) (nI_add _ _) ?_
              refine lv_goto (tgt := 101) hx hb dX5_beside_96 (by decide) ?_
              refine ri_ret (v := (nI ((((j / w) + 0) * w) + (j % w - 1)))) hx hb hr hlk dX5_beside_101 ?_
              rw [nbF, if_neg (by decide), if_neg (by decide), if_neg (by decide), if_pos hz, nb_a3 hz]
      · exact absurd c_37 (by decide)
    · exact absurd c_36 (by decide)
  · have hl : lv_has ls 5 [(0, .ref (b 0)), (1, .int (nI j)), (2, .int 3)] := hl
    have hR : inN (nI (j / w + 0)) h := nI_inN (by omega) (by omega)
    have hP9 : ¬ inN (-1) w := fun z => absurd z.1 (by decide)
    refine lv_iload_n hx hb dX5_beside_0 rfl (lv_at hl 1 rfl) ?_
    refine lv_aload_n hx hb dX5_beside_1 rfl (lv_at hl 0 rfl) ?_
    refine va_get (D := D) (ci := 5) (v := .int (nI w)) (C := RX5) (T := TX5) (N := 30) hx hb hts hin5 hown hK.1 hP 0 rfl rfl 2 (by decide) (hts _ (List.mem_of_getElem? (i := 1) rfl)) (fun _ h9 => h9) rfl dX5_beside_2 ?_
    refine lv_idiv hx hb dX5_beside_5 (nI_nez hw0 (by omega)) ?_
    refine k_top (y := (nI (j / w))) (pk_div (by omega) hw0 (by omega)) ?_
    refine lv_iload_n hx hb dX5_beside_6 rfl (lv_at hl 2 rfl) ?_
    refine lv_if_ne (tgt := 14) hx hb dX5_beside_7 (by decide) (fun c_45 => ?_) (fun c_45 => ?_)
    · refine lv_iload_n hx hb dX5_beside_14 rfl (lv_at hl 2 rfl) ?_
      refine lv_iconst (v := 2) hx hb dX5_beside_15 (by decide) ?_
      refine lv_icmp_ne (tgt := 23) hx hb dX5_beside_16 (by decide) (fun c_46 => ?_) (fun c_46 => ?_)
      · refine lv_iconst (v := 0) hx hb dX5_beside_23 (by decide) ?_
        refine lv_iadd hx hb dX5_beside_24 ?_
        refine k_top (y := (nI ((j / w) + 0))) (nI_add _ 0) ?_
        refine lv_istore_n (lv' := [(3, .int (nI ((j / w) + 0))), (0, .ref (b 0)), (1, .int (nI j)), (2, .int 3)]) hx hb dX5_beside_25 rfl hl (by decide) rfl (fun ls hl => ?_)
        refine lv_iload_n hx hb dX5_beside_26 rfl (lv_at hl 2 rfl) ?_
        refine lv_aload_n hx hb dX5_beside_27 rfl (lv_at hl 1 rfl) ?_
        refine va_get (D := D) (ci := 5) (v := .int (nI w)) (C := RX5) (T := TX5) (N := 30) hx hb hts hin5 hown hK.1 hP 0 rfl rfl 2 (by decide) (hts _ (List.mem_of_getElem? (i := 1) rfl)) (fun _ h9 => h9) rfl dX5_beside_28 ?_
        refine lv_irem hx hb dX5_beside_31 (nI_nez hw0 (by omega)) ?_
        refine k_top (y := (nI (j % w))) (pk_rem (by omega) hw0 (by omega)) ?_
        refine lv_iload_n hx hb dX5_beside_32 rfl (lv_at hl 3 rfl) ?_
        refine lv_iconst (v := 3) hx hb dX5_beside_33 (by decide) ?_
        refine lv_icmp_ne (tgt := 41) hx hb dX5_beside_34 (by decide) (fun c_47 => ?_) (fun c_47 => ?_)
        · exact absurd c_47 (by decide)
        · refine lv_iconst (v := (-1)) hx hb dX5_beside_37 (by decide) ?_
          refine lv_goto (tgt := 51) hx hb dX5_beside_38 (by decide) ?_
          refine lv_iadd hx hb dX5_beside_51 ?_
          refine k_top (y := (-1)) (by rw [hz]; rfl) ?_
          refine lv_istore (lv' := [(4, .int (-1)), (3, .int (nI ((j / w) + 0))), (0, .ref (b 0)), (1, .int (nI j)), (2, .int 3)]) hx hb dX5_beside_52 hl (by decide) rfl (fun ls hl => ?_)
          refine lv_iload_n hx hb dX5_beside_54 rfl (lv_at hl 1 rfl) ?_
          refine lv_i2l (v := (nI ((j / w) + 0)).toInt64) hx hb dX5_beside_55 rfl ?_
          refine lv_lconst (v := 0) hx hb dX5_beside_56 (by decide) ?_
          refine lv_aload_n hx hb dX5_beside_57 rfl (lv_at hl 2 rfl) ?_
          refine va_get (D := D) (ci := 5) (v := .int (nI h)) (C := RX5) (T := TX5) (N := 30) hx hb hts hin5 hown hK.1 hP 0 rfl rfl 1 (by decide) (hts _ (List.mem_of_getElem? (i := 2) rfl)) (fun _ h9 => h9) rfl dX5_beside_58 ?_
          refine lv_i2l (v := (nI h).toInt64) hx hb dX5_beside_61 rfl ?_
          refine lv_lconst (v := 1) hx hb dX5_beside_62 (by decide) ?_
          refine lv_lsub hx hb dX5_beside_63 ?_
          refine k_ri (run_RS (As := [.long ((nI ((j / w) + 0)).toInt64), .long 0, .long (((nI h).toInt64) - 1)]) (rest := []) ⟨hx, hb, hml, hown, hts⟩ (c_X5_in l D cI cJ cO ((nI ((j / w) + 0)).toInt64) 0 (((nI h).toInt64) - 1)) (va_cwS 3 hts gX5_beside_X5_in rfl rfl rfl (by decide +kernel) ⟨Nat.le_of_ble_eq_true rfl, Nat.le_of_ble_eq_true rfl⟩) hP hK [] rfl rfl hl.1 rfl (Nat.le_of_ble_eq_true rfl) dX5_beside_64 ⟨Nat.le_refl _, Nat.le_refl _⟩) (fun r_48 q_49 => ?_)
          obtain rfl := q_49
          refine k_top (y := (b2 (inN (nI (j / w + 0)) h))) (b2_cong (in_m1 (by omega))) ?_
          refine lv_if_eq (tgt := 99) hx hb dX5_beside_67 (by decide) (fun c_50 => ?_) (fun c_50 => ?_)
          · exact absurd hR (b2_f c_50)
          · have c_50 := b2_t c_50
            refine lv_iload hx hb dX5_beside_70 (lv_at hl 0 rfl) ?_
            refine lv_i2l (v := ((-1) : Int32).toInt64) hx hb dX5_beside_72 rfl ?_
            refine lv_lconst (v := 0) hx hb dX5_beside_73 (by decide) ?_
            refine lv_aload_n hx hb dX5_beside_74 rfl (lv_at hl 2 rfl) ?_
            refine va_get (D := D) (ci := 5) (v := .int (nI w)) (C := RX5) (T := TX5) (N := 30) hx hb hts hin5 hown hK.1 hP 0 rfl rfl 2 (by decide) (hts _ (List.mem_of_getElem? (i := 1) rfl)) (fun _ h9 => h9) rfl dX5_beside_75 ?_
            refine lv_i2l (v := (nI w).toInt64) hx hb dX5_beside_78 rfl ?_
            refine lv_lconst (v := 1) hx hb dX5_beside_79 (by decide) ?_
            refine lv_lsub hx hb dX5_beside_80 ?_
            refine k_ri (run_RS (As := [.long (((-1) : Int32).toInt64), .long 0, .long (((nI w).toInt64) - 1)]) (rest := []) ⟨hx, hb, hml, hown, hts⟩ (c_X5_in l D cI cJ cO (((-1) : Int32).toInt64) 0 (((nI w).toInt64) - 1)) (va_cwS 3 hts gX5_beside_X5_in rfl rfl rfl (by decide +kernel) ⟨Nat.le_of_ble_eq_true rfl, Nat.le_of_ble_eq_true rfl⟩) hP hK [] rfl rfl hl.1 rfl (Nat.le_of_ble_eq_true rfl) dX5_beside_81 ⟨Nat.le_refl _, Nat.le_refl _⟩) (fun r_51 q_52 => ?_)
            obtain rfl := q_52
            refine k_top (y := (b2 (inN (-1) w))) (b2_cong (in_m1 (by omega))) ?_
            refine lv_if_eq (tgt := 99) hx hb dX5_beside_84 (by decide) (fun c_53 => ?_) (fun c_53 => ?_)
            · have c_53 := b2_f c_53
              refine lv_bipush (v := (-9)) hx hb dX5_beside_99 (by decide) ?_
              refine ri_ret (v := (-9)) hx hb hr hlk dX5_beside_101 ?_
              rw [nbF, if_neg (by decide), if_neg (by decide), if_neg (by decide), if_neg (by omega)]
            · exact absurd (b2_t c_53) hP9
      · exact absurd c_46 (by decide)
    · exact absurd c_45 (by decide)
theorem iwX5_codeAt_X5 : ∀ x ∈ wsX50, x ∈ wsX5_codeAt := by decide +kernel
set_option maxRecDepth 100000 in
set_option maxHeartbeats 4000000 in
/-- X5_codeAt -/
theorem c_X5_codeAt (l : Launch) (D : va_G) (cI cJ cO : ClassId) (b : Nat → Nat) (fa : Int32) (h : Nat) (w : Nat) (pc : Int32) (br : Int32) (q1 : Int32) (q2 : Int32) (q3 : Int32) (q4 : Int32) (fw : Int32) (ea : Int32) (sn : Int32) (mo : Int32) (rc : Nat) (tr : Int32) (sh : Nat → Int32) (tx : Nat → Int32) (f : Nat) (ii : Nat) (m : Nat) (p : Nat) (hfm : f + m ≤ 240) (hm60 : m ≤ 60) (htx : ∀ q, q < m → sh (f + q) = tx (ii + q)) (hp60 : p ≤ 60) : RG l yX5_codeAt wsX5_codeAt 0 0 D [(cI, .int), (cJ, .long), (cO, .object "ShornHill$Sheet")] [.ref (b 0), .int (nI f), .int (nI m)] [(b 0, .inr (5, [.int fa, .int (nI h), .int (nI w), .int pc, .int br, .ref (b 1), .ref (b 2), .int (nI p), .int q1, .int q2, .int q3, .int q4, .ref (b 3), .int fw, .int ea, .int sn, .ref (b 4), .ref (b 5), .ref (b 6), .int mo, .int (nI rc), .ref (b 7), .ref (b 8), .ref (b 9), .ref (b 10), .ref (b 11), .ref (b 12), .ref (b 13), .ref (b 14), .int tr])), (b 13, .inl (cI, 240, .inl sh))] (vp_Si (fun (r : Int32) => r = (cdF tx ii m p))) := by
  refine RG.of (cc := cX5_codeAt) (maxL := 3) (ret := (some .int)) (by decide) rfl (Nat.le_of_ble_eq_true rfl) ?_
  intro P_ E_ S_ M_ B_ T_ K_ hx hb hml hr hts hown hlk hP hK ls hl
  have hl : lv_has ls 3 [(0, .ref (b 0)), (1, .int (nI f)), (2, .int (nI m))] := hl
  have hin5 : ∀ x ∈ u_ws RX5 TX5 30, x ∈ wsX5_codeAt := iwX5_codeAt_X5
  refine lv_aload_n hx hb dX5_codeAt_0 rfl (lv_at hl 0 rfl) ?_
  refine va_get (D := D) (ci := 5) (v := .int (nI p)) (C := RX5) (T := TX5) (N := 30) hx hb hts hin5 hown hK.1 hP 0 rfl rfl 7 (by decide) (hts _ (List.mem_of_getElem? (i := 1) rfl)) (fun _ h9 => h9) rfl dX5_codeAt_1 ?_
  refine lv_iload_n hx hb dX5_codeAt_4 rfl (lv_at hl 2 rfl) ?_
  refine lv_icmp_ge (tgt := 22) hx hb dX5_codeAt_5 (by decide) (fun c_1 => ?_) (fun c_1 => ?_)
  · have c_1 : m ≤ p := (nI_leI (a := m) (b := p) (by omega) (by omega)).mp c_1
    refine lv_bipush (v := (-9)) hx hb dX5_codeAt_22 (by decide) ?_
    refine ri_ret (v := (-9)) hx hb hr hlk dX5_codeAt_24 ?_
    rw [cdF, if_neg (by omega)]
  · have c_1 : p < m := Nat.lt_of_not_le (fun z => c_1 ((nI_leI (a := m) (b := p) (by omega) (by omega)).mpr z))
    refine lv_aload_n hx hb dX5_codeAt_8 rfl (lv_at hl 0 rfl) ?_
    refine va_get (D := D) (ci := 5) (v := .ref (b 13)) (C := RX5) (T := TX5) (N := 30) hx hb hts hin5 hown hK.1 hP 0 rfl rfl 27 (by decide) (hts _ (List.mem_of_getElem? (i := 2) rfl)) (fun _ h9 => h9) rfl dX5_codeAt_9 ?_
    refine lv_iload_n hx hb dX5_codeAt_12 rfl (lv_at hl 1 rfl) ?_
    refine lv_aload_n hx hb dX5_codeAt_13 rfl (lv_at hl 0 rfl) ?_
    refine va_get (D := D) (ci := 5) (v := .int (nI p)) (C := RX5) (T := TX5) (N := 30) hx hb hts hin5 hown hK.1 hP 0 rfl rfl 7 (by decide) (hts _ (List.mem_of_getElem? (i := 1) rfl)) (fun _ h9 => h9) rfl dX5_codeAt_14 ?_
    refine lv_iadd hx hb dX5_codeAt_17 ?_
    refine k_top (y := (nI (f + p))) (nI_add _ _) ?_
    refine k_iald hx hb hK hP 1 0 rfl rfl (j := f + p) (vp_in_nI (show f + p < 240 by omega) (by decide)) (nI_clamp (by omega)) dX5_codeAt_18 ?_
    refine k_top (y := (tx (ii + p))) (htx p (by omega)) ?_
    refine lv_goto (tgt := 24) hx hb dX5_codeAt_19 (by decide) ?_
    refine ri_ret (v := (tx (ii + p))) hx hb hr hlk dX5_codeAt_24 ?_
    rw [cdF, if_pos (by omega)]
theorem iwX5_figure_X5 : ∀ x ∈ wsX50, x ∈ wsX5_figure := by decide +kernel
set_option maxRecDepth 100000 in
set_option maxHeartbeats 4000000 in
/-- X5_figure -/
theorem c_X5_figure (l : Launch) (D : va_G) (cI cJ cO : ClassId) (b : Nat → Nat) (fa : Int32) (h : Nat) (w : Nat) (pc : Int32) (br : Int32) (q1 : Int32) (q2 : Int32) (q3 : Int32) (q4 : Int32) (fw : Int32) (ea : Int32) (sn : Int32) (mo : Int32) (rc : Nat) (tr : Int32) (sh : Nat → Int32) (tx : Nat → Int32) (f : Nat) (ii : Nat) (m : Nat) (p : Nat) (lo : Int32) (hi : Int32) (hfm : f + m ≤ 240) (hm60 : m ≤ 60) (htx : ∀ q, q < m → sh (f + q) = tx (ii + q)) (hp60 : p ≤ 60) : MG l yX5_figure wsX5_figure 1 25 0 0 D [(cI, .int), (cJ, .long), (cO, .object "ShornHill$Sheet")] [.ref (b 0), .int (nI f), .int (nI m), .int lo, .int hi] [(b 0, .inr (5, [.int fa, .int (nI h), .int (nI w), .int pc, .int br, .ref (b 1), .ref (b 2), .int (nI p), .int q1, .int q2, .int q3, .int q4, .ref (b 3), .int fw, .int ea, .int sn, .ref (b 4), .ref (b 5), .ref (b 6), .int mo, .int (nI rc), .ref (b 7), .ref (b 8), .ref (b 9), .ref (b 10), .ref (b 11), .ref (b 12), .ref (b 13), .ref (b 14), .int tr])), (b 13, .inl (cI, 240, .inl sh))] (QI D (fun (r : Int32) (w1 : va_W) => r = (fgR tx ii m p lo hi) ∧ w1 = [(b 0, .inr (5, [.int fa, .int (nI h), .int (nI w), .int pc, .int br, .ref (b 1), .ref (b 2), .int (nI (fgN tx ii m p lo hi)), .int q1, .int q2, .int q3, .int q4, .ref (b 3), .int fw, .int ea, .int sn, .ref (b 4), .ref (b 5), .ref (b 6), .int mo, .int (nI rc), .ref (b 7), .ref (b 8), .ref (b 9), .ref (b 10), .ref (b 11), .ref (b 12), .ref (b 13), .ref (b 14), .int tr])), (b 13, .inl (cI, 240, .inl sh))])) := by
  refine MG.of (cc := cX5_figure) (maxL := 7) (ret := (some .int)) (by decide) rfl (Nat.le_of_ble_eq_true rfl) ?_
  intro P_ E_ S_ M_ B_ T_ K_ hx hb hml hr hts hown hlk hnm A hA hP hK hD hS ls hl
  have hl : lv_has ls 7 [(0, .ref (b 0)), (1, .int (nI f)), (2, .int (nI m)), (3, .int lo), (4, .int hi)] := hl
  have hin5 : ∀ x ∈ u_ws RX5 TX5 30, x ∈ wsX5_figure := iwX5_figure_X5
  refine lv_aload_n hx hb dX5_figure_0 rfl (lv_at hl 0 rfl) ?_
  refine lv_iload_n hx hb dX5_figure_1 rfl (lv_at hl 1 rfl) ?_
  refine lv_iload_n hx hb dX5_figure_2 rfl (lv_at hl 2 rfl) ?_
  refine k_ri (run_RV (As := [.int (nI f), .int (nI m)]) (rest := []) ⟨hx, hb, hml, hown, hts⟩ (c_X5_codeAt l D cI cJ cO b fa h w pc br q1 q2 q3 q4 fw ea sn mo rc tr sh tx f ii m p hfm hm60 htx hp60) (cwV 2 hts gX5_figure_X5_codeAt rfl rfl rfl (by decide +kernel) ⟨Nat.le_of_ble_eq_true rfl, Nat.le_of_ble_eq_true rfl⟩) hP hK [0, 1] rfl rfl rfl rfl rfl hl.1 rfl (Nat.le_of_ble_eq_true rfl) dX5_figure_3 ⟨Nat.le_refl _, Nat.le_refl _⟩) (fun r_1 q_2 => ?_)
  obtain rfl := q_2
  refine lv_bipush (v := 48) hx hb dX5_figure_6 (by decide) ?_
  refine lv_isub hx hb dX5_figure_8 ?_
  refine lv_istore (lv' := [(5, .int ((cdF tx ii m p) - 48)), (0, .ref (b 0)), (1, .int (nI f)), (2, .int (nI m)), (3, .int lo), (4, .int hi)]) hx hb dX5_figure_9 hl (by decide) rfl (fun ls hl => ?_)
  refine lv_iload hx hb dX5_figure_11 (lv_at hl 0 rfl) ?_
  refine lv_i2l (v := ((cdF tx ii m p) - 48).toInt64) hx hb dX5_figure_13 rfl ?_
  refine lv_iload_n hx hb dX5_figure_14 rfl (lv_at hl 4 rfl) ?_
  refine lv_i2l (v := lo.toInt64) hx hb dX5_figure_15 rfl ?_
  refine lv_iload hx hb dX5_figure_16 (lv_at hl 5 rfl) ?_
  refine lv_i2l (v := hi.toInt64) hx hb dX5_figure_18 rfl ?_
  refine k_ri (run_RS (As := [.long (((cdF tx ii m p) - 48).toInt64), .long lo.toInt64, .long hi.toInt64]) (rest := []) ⟨hx, hb, hml, hown, hts⟩ (c_X5_in l D cI cJ cO (((cdF tx ii m p) - 48).toInt64) lo.toInt64 hi.toInt64) (va_cwS 3 hts gX5_figure_X5_in rfl rfl rfl (by decide +kernel) ⟨Nat.le_of_ble_eq_true rfl, Nat.le_of_ble_eq_true rfl⟩) hP hK [] rfl rfl hl.1 rfl (Nat.le_of_ble_eq_true rfl) dX5_figure_19 ⟨Nat.le_refl _, Nat.le_refl _⟩) (fun r_3 q_4 => ?_)
  obtain rfl := q_4
  refine k_top (y := (b2 (fgP tx ii m p lo hi))) (b2_cong (in_btw (Int32.toInt_toInt64 _) (Int32.toInt_toInt64 _))) ?_
  refine lv_istore (lv' := [(6, .int (b2 (fgP tx ii m p lo hi))), (5, .int ((cdF tx ii m p) - 48)), (0, .ref (b 0)), (1, .int (nI f)), (2, .int (nI m)), (3, .int lo), (4, .int hi)]) hx hb dX5_figure_22 hl (by decide) rfl (fun ls hl => ?_)
  refine lv_aload_n hx hb dX5_figure_24 rfl (lv_at hl 2 rfl) ?_
  refine lv_dup hx hb dX5_figure_25 rfl ?_
  refine va_get (D := D) (ci := 5) (v := .int (nI p)) (C := RX5) (T := TX5) (N := 30) hx hb hts hin5 hown hK.1 hP 0 rfl rfl 7 (by decide) (hts _ (List.mem_of_getElem? (i := 1) rfl)) (fun _ h9 => h9) rfl dX5_figure_26 ?_
  refine lv_iload hx hb dX5_figure_29 (lv_at hl 0 rfl) ?_
  refine lv_if_eq (tgt := 38) hx hb dX5_figure_31 (by decide) (fun c_5 => ?_) (fun c_5 => ?_)
  · have c_5 := b2_f c_5
    refine lv_iconst (v := 0) hx hb dX5_figure_38 (by decide) ?_
    refine lv_iadd hx hb dX5_figure_39 ?_
    refine k_top (y := (nI (p + 0))) (nI_add _ 0) ?_
    refine va_put (D := D) (ci := 5) (v := .int (nI (p + 0))) (ty := .int) (C := RX5) (T := TX5) (N := 30) hx hb hts hin5 tyX5 tyX5_ok nmX5 hown hK.1 hP hD hS 0 rfl rfl 7 (by decide) (hts _ (List.mem_of_getElem? (i := 1) rfl)) (fun _ h9 => h9) rfl (by decide +kernel) rfl rfl (Nat.le_of_ble_eq_true rfl) dX5_figure_40 (fun H locs hP hD hS => ?_)
    have hP : va_P D vwCl [(b 0, .inr (5, [.int fa, .int (nI h), .int (nI w), .int pc, .int br, .ref (b 1), .ref (b 2), .int (nI (p + 0)), .int q1, .int q2, .int q3, .int q4, .ref (b 3), .int fw, .int ea, .int sn, .ref (b 4), .ref (b 5), .ref (b 6), .int mo, .int (nI rc), .ref (b 7), .ref (b 8), .ref (b 9), .ref (b 10), .ref (b 11), .ref (b 12), .ref (b 13), .ref (b 14), .int tr])), (b 13, .inl (cI, 240, .inl sh))] H := hP
    have hD : va_D A [(b 0, .inr (5, [.int fa, .int (nI h), .int (nI w), .int pc, .int br, .ref (b 1), .ref (b 2), .int (nI (p + 0)), .int q1, .int q2, .int q3, .int q4, .ref (b 3), .int fw, .int ea, .int sn, .ref (b 4), .ref (b 5), .ref (b 6), .int mo, .int (nI rc), .ref (b 7), .ref (b 8), .ref (b 9), .ref (b 10), .ref (b 11), .ref (b 12), .ref (b 13), .ref (b 14), .int tr])), (b 13, .inl (cI, 240, .inl sh))] := hD
    refine lv_iload hx hb dX5_figure_43 (lv_at hl 0 rfl) ?_
    refine lv_if_eq (tgt := 53) hx hb dX5_figure_45 (by decide) (fun c_6 => ?_) (fun c_6 => ?_)
    · have c_6 := b2_f c_6
      refine lv_bipush (v := (-9)) hx hb dX5_figure_53 (by decide) ?_
      refine mi_ret (v := (-9)) hx hb hr hlk hP hD hS dX5_figure_55 ?_
      rw [show fgN tx ii m p lo hi = _ from by rw [fgN, if_neg c_6]]
      refine ⟨?_, rfl⟩
      rw [fgR, if_neg c_6] <;> rfl
    · exact absurd (b2_t c_6) c_5
  · have c_5 := b2_t c_5
    refine lv_iconst (v := 1) hx hb dX5_figure_34 (by decide) ?_
    refine lv_goto (tgt := 39) hx hb dX5_figure_35 (by decide) ?_
    refine lv_iadd hx hb dX5_figure_39 ?_
    refine k_top (y := (nI (p + 1))) (nI_add _ 1) ?_
    refine va_put (D := D) (ci := 5) (v := .int (nI (p + 1))) (ty := .int) (C := RX5) (T := TX5) (N := 30) hx hb hts hin5 tyX5 tyX5_ok nmX5 hown hK.1 hP hD hS 0 rfl rfl 7 (by decide) (hts _ (List.mem_of_getElem? (i := 1) rfl)) (fun _ h9 => h9) rfl (by decide +kernel) rfl rfl (Nat.le_of_ble_eq_true rfl) dX5_figure_40 (fun H locs hP hD hS => ?_)
    have hP : va_P D vwCl [(b 0, .inr (5, [.int fa, .int (nI h), .int (nI w), .int pc, .int br, .ref (b 1), .ref (b 2), .int (nI (p + 1)), .int q1, .int q2, .int q3, .int q4, .ref (b 3), .int fw, .int ea, .int sn, .ref (b 4), .ref (b 5), .ref (b 6), .int mo, .int (nI rc), .ref (b 7), .ref (b 8), .ref (b 9), .ref (b 10), .ref (b 11), .ref (b 12), .ref (b 13), .ref (b 14), .int tr])), (b 13, .inl (cI, 240, .inl sh))] H := hP
    have hD : va_D A [(b 0, .inr (5, [.int fa, .int (nI h), .int (nI w), .int pc, .int br, .ref (b 1), .ref (b 2), .int (nI (p + 1)), .int q1, .int q2, .int q3, .int q4, .ref (b 3), .int fw, .int ea, .int sn, .ref (b 4), .ref (b 5), .ref (b 6), .int mo, .int (nI rc), .ref (b 7), .ref (b 8), .ref (b 9), .ref (b 10), .ref (b 11), .ref (b 12), .ref (b 13), .ref (b 14), .int tr])), (b 13, .inl (cI, 240, .inl sh))] := hD
    refine lv_iload hx hb dX5_figure_43 (lv_at hl 0 rfl) ?_
    refine lv_if_eq (tgt := 53) hx hb dX5_figure_45 (by decide) (fun c_7 => ?_) (fun c_7 => ?_)
    · exact absurd c_5 (b2_f c_7)
    · have c_7 := b2_t c_7
      refine lv_iload hx hb dX5_figure_48 (lv_at hl 1 rfl) ?_
      refine lv_goto (tgt := 55) hx hb dX5_figure_50 (by decide) ?_
      refine mi_ret (v := ((cdF tx ii m p) - 48)) hx hb hr hlk hP hD hS dX5_figure_55 ?_
      rw [show fgN tx ii m p lo hi = _ from by rw [fgN, if_pos c_7]]
      refine ⟨?_, rfl⟩
      rw [fgR, if_pos c_7] <;> rfl
