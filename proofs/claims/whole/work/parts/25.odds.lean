set_option maxRecDepth 100000 in
set_option maxHeartbeats 4000000 in
/-- X4_commonDivisor -/
theorem c_X4_commonDivisor (l : Launch) (D : va_G) (cI cJ cO : ClassId) (x0 : Nat) (y0 : Nat) (h1 : y0 ≤ x0) (h2 : x0 < 2 ^ 62) (h3 : x0 * y0 < 2 ^ 200) : RG l yX4_commonDivisor wsX4_commonDivisor 0 0 D [(cI, .int), (cJ, .long), (cO, .object "ShornHill$Sheet")] [.long (lN x0), .long (lN y0)] [] (vp_Sl (fun (r : Int64) => r = lN (Nat.gcd x0 y0))) := by
  refine RG.of (cc := cX4_commonDivisor) (maxL := 7) (ret := (some .long)) (by decide) rfl (Nat.le_of_ble_eq_true rfl) ?_
  intro P_ E_ S_ M_ B_ T_ K_ hx hb hml hr hts hown hlk hP hK ls hl
  have hl : lv_has ls 7 [(0, .long (lN x0)), (2, .long (lN y0))] := hl
  refine lv_iconst (v := 0) hx hb dX4_commonDivisor_0 (by decide) ?_
  refine lv_istore (lv' := [(4, .int 0), (0, .long (lN x0)), (2, .long (lN y0))]) hx hb dX4_commonDivisor_1 hl (by decide) rfl (fun ls hl => ?_)
  have key_2 : ∀ (n_1 : Nat) (k : Nat) (x : Nat) (y : Nat), (k ≤ 200) → (y ≤ x) → (x < 2 ^ 62) → (x * y < 2 ^ (200 - k)) → (Nat.gcd x y = Nat.gcd x0 y0) → 200 - k < n_1 → ∀ ls : Array Slot, lv_has ls 7 [(0, .long (lN x)), (2, .long (lN y)), (4, .int (nI k))] → W P_ l E_ ({ frames := 0, cells := 0, slots := 0, locals := 0 } : Room) S_ M_ (([.long (lN x0), .long (lN y0)] : List Value).toArray) B_ T_ K_ S_.heap [] 0 0 (MQ B_ (vp_Sl (fun (r : Int64) => r = lN (Nat.gcd x0 y0))) (([.long (lN x0), .long (lN y0)] : List Value).toArray) S_ 0 0 (fun _ => False)) (F0 M_ 3 ls []) := by
    intro n_1
    induction n_1 with
    | zero =>
      intro k x y hk hle hxl hp hg hmu_n_1
      exact absurd hmu_n_1 (Nat.not_lt_zero _)
    | succ n_1 ih_3 =>
      intro k x y hk hle hxl hp hg hmu_n_1 ls hl
      have hl : lv_has ls 7 [(0, .long (lN x)), (2, .long (lN y)), (4, .int (nI k))] := hl
      refine lv_iload hx hb dX4_commonDivisor_3 (lv_at hl 2 rfl) ?_
      refine lv_sipush (v := 1000) hx hb dX4_commonDivisor_5 (by decide) ?_
      refine lv_icmp_ge (tgt := 33) hx hb dX4_commonDivisor_8 (by decide) (fun c_4 => ?_) (fun c_4 => ?_)
      · exact absurd ((nI_leI (a := 1000) (b := k) (by omega) (by omega)).mp c_4) (by omega)
      · have c_4 : k < 1000 := Nat.lt_of_not_le (fun z => c_4 ((nI_leI (a := 1000) (b := k) (by omega) (by omega)).mpr z))
        refine lv_lload_n hx hb dX4_commonDivisor_11 rfl (lv_at hl 1 rfl) ?_
        refine lv_lconst (v := 0) hx hb dX4_commonDivisor_12 (by decide) ?_
        refine W.lcmp hx hb dX4_commonDivisor_13 ?_
        refine lv_if_eq (tgt := 33) hx hb dX4_commonDivisor_14 (by decide) (fun c_5 => ?_) (fun c_5 => ?_)
        · have cy : y = 0 := lN_0 (by omega) ((lg_cmp_eq _ _).mp c_5)
          refine lv_lload_n hx hb dX4_commonDivisor_33 rfl (lv_at hl 0 rfl) ?_
          refine rl_ret hx hb hr hlk dX4_commonDivisor_34 ?_
          rw [← hg, cy, Nat.gcd_zero_right]
        · have cy : ¬ y = 0 := fun z => c_5 ((lg_cmp_eq _ _).mpr (by rw [z]; rfl))
          refine lv_lload_n hx hb dX4_commonDivisor_17 rfl (lv_at hl 0 rfl) ?_
          refine lv_lload_n hx hb dX4_commonDivisor_18 rfl (lv_at hl 1 rfl) ?_
          refine lv_lrem hx hb dX4_commonDivisor_19 (lN_ne (by omega) (by omega)) ?_
          refine k_topl (y := (lN (x % y))) (pk_lRem (by omega) (by omega) (by omega)) ?_
          refine lv_lstore (lv' := [(5, .long (lN (x % y))), (0, .long (lN x)), (2, .long (lN y)), (4, .int (nI k))]) hx hb dX4_commonDivisor_20 hl (by decide) rfl (fun ls hl => ?_)
          refine lv_lload_n hx hb dX4_commonDivisor_22 rfl (lv_at hl 2 rfl) ?_
          refine lv_lstore_n (lv' := [(0, .long (lN y)), (5, .long (lN (x % y))), (2, .long (lN y)), (4, .int (nI k))]) hx hb dX4_commonDivisor_23 rfl hl (by decide) rfl (fun ls hl => ?_)
          refine lv_lload hx hb dX4_commonDivisor_24 (lv_at hl 1 rfl) ?_
          refine lv_lstore_n (lv' := [(2, .long (lN (x % y))), (0, .long (lN y)), (5, .long (lN (x % y))), (4, .int (nI k))]) hx hb dX4_commonDivisor_26 rfl hl (by decide) rfl (fun ls hl => ?_)
          refine lv_iinc (v := (nI (k + 1))) (lv' := [(4, .int (nI (k + 1))), (2, .long (lN (x % y))), (0, .long (lN y)), (5, .long (lN (x % y)))]) hx hb dX4_commonDivisor_27 hl (k := 3) rfl (nI_add _ 1) (by decide) rfl (fun ls hl => ?_)
          refine lv_goto (tgt := 3) hx hb dX4_commonDivisor_30 (by decide) ?_
          exact ih_3 (k + 1) y (x % y) (gk_lt hp (by omega) hle) (Nat.le_of_lt (Nat.mod_lt _ (by omega))) (by omega) (gcd_half (by omega) hle (by have := gk_lt hp (by omega) hle; rw [show 200 - (k + 1) + 1 = 200 - k by omega]; exact hp)) (by rw [← hg, Nat.gcd_comm x y, Nat.gcd_rec y x, Nat.gcd_comm]) (by have := gk_lt hp (by omega) hle; omega) ls (lv_sub hl [2, 1, 0] rfl)
  exact key_2 _ 0 x0 y0 (by omega) h1 h2 h3 rfl (Nat.lt_succ_self _) ls (lv_sub hl [1, 2, 0] rfl)
set_option maxRecDepth 100000 in
set_option maxHeartbeats 4000000 in
theorem c_X4_oddsOn_r (l : Launch) (D : va_G) (cI cJ cO : ClassId) (a : Nat → Nat) (h : Nat) (w : Nat) (pc : Int32) (br : Int32) (kd : Nat → Int32) (et : Nat → Int32) (nb : Nat → Int32) (hn : h * w ≤ 16) (hnb : nbOk h w nb (h * w)) : ∀ (d : Nat) (s : Nat) (sh : Nat) (lf : Int32) (c : Int32) (j : Nat), (s + d = 16) → (sh < 2 ^ 62) → (j < h * w) → (vp_in c 16) → (c.toNatClampNeg = j) → RG l yX4_oddsOn wsX4_oddsOn (2 + d) (61 + 30 * d) D [(cI, .int), (cJ, .long), (cO, .object "ShornHill$Sheet")] [.ref (a 1), .int c, .int lf, .long (lN sh), .int (nI s)] [(a 1, .inr (0, [.int (nI h), .int (nI w), .int pc, .int br, .ref (a 2), .ref (a 3), .ref (a 4)])), (a 2, .inl (cI, 16, .inl kd)), (a 3, .inl (cI, 16, .inl et)), (a 4, .inl (cI, 64, .inl nb))] (vp_Sl (fun (r : Int64) => r = lN (odF h w d j lf sh))) := by
  intro d
  induction d with
  | zero =>
    intro s sh lf c j hsd hsh hjn hv_c hj_c
    refine RG.of (cc := cX4_oddsOn) (maxL := 11) (ret := (some .long)) (by decide) rfl (Nat.le_of_ble_eq_true rfl) ?_
    intro P_ E_ S_ M_ B_ T_ K_ hx hb hml hr hts hown hlk hP hK ls hl
    have hl : lv_has ls 11 [(0, .ref (a 1)), (1, .int c), (2, .int lf), (3, .long (lN sh)), (5, .int (nI s))] := hl
    refine lv_iload_n hx hb dX4_oddsOn_0 rfl (lv_at hl 2 rfl) ?_
    refine lv_if_ne (tgt := 6) hx hb dX4_oddsOn_1 (by decide) (fun c_1 => ?_) (fun c_1 => ?_)
    · refine lv_iconst (v := 0) hx hb dX4_oddsOn_6 (by decide) ?_
      refine lv_istore (lv' := [(6, .int 0), (0, .ref (a 1)), (1, .int c), (2, .int lf), (3, .long (lN sh)), (5, .int (nI s))]) hx hb dX4_oddsOn_7 hl (by decide) rfl (fun ls hl => ?_)
      refine lv_iconst (v := 0) hx hb dX4_oddsOn_9 (by decide) ?_
      refine lv_istore (lv' := [(7, .int 0), (6, .int 0), (0, .ref (a 1)), (1, .int c), (2, .int lf), (3, .long (lN sh)), (5, .int (nI s))]) hx hb dX4_oddsOn_10 hl (by decide) rfl (fun ls hl => ?_)
      have key_3 : ∀ (n_2 : Nat) (t : Nat) (x6_n_2 : Int32), (t ≤ 4) → x6_n_2 = (nI (chN h w j lf t)) → 4 - t < n_2 → ∀ ls : Array Slot, lv_has ls 11 [(0, .ref (a 1)), (1, .int c), (2, .int lf), (3, .long (lN sh)), (5, .int (nI s)), (6, .int x6_n_2), (7, .int (nI t))] → W P_ l E_ ({ frames := (2 + 0), cells := 0, slots := 0, locals := (61 + 30 * 0) } : Room) S_ M_ (([.ref (a 1), .int c, .int lf, .long (lN sh), .int (nI s)] : List Value).toArray) B_ T_ K_ S_.heap [] 0 0 (MQ B_ (vp_Sl (fun (r : Int64) => r = lN (odF h w 0 j lf sh))) (([.ref (a 1), .int c, .int lf, .long (lN sh), .int (nI s)] : List Value).toArray) S_ 0 0 (fun _ => False)) (F0 M_ 12 ls []) := by
        intro n_2
        induction n_2 with
        | zero =>
          intro t x6_n_2 hk e_x6_n_2 hmu_n_2
          exact absurd hmu_n_2 (Nat.not_lt_zero _)
        | succ n_2 ih_4 =>
          intro t x6_n_2 hk e_x6_n_2 hmu_n_2 ls hl
          subst e_x6_n_2
          have hl : lv_has ls 11 [(0, .ref (a 1)), (1, .int c), (2, .int lf), (3, .long (lN sh)), (5, .int (nI s)), (6, .int (nI (chN h w j lf t))), (7, .int (nI t))] := hl
          refine lv_iload hx hb dX4_oddsOn_12 (lv_at hl 6 rfl) ?_
          refine lv_iconst (v := 4) hx hb dX4_oddsOn_14 (by decide) ?_
          refine lv_icmp_ge (tgt := 48) hx hb dX4_oddsOn_15 (by decide) (fun c_5 => ?_) (fun c_5 => ?_)
          · have c_5 : 4 ≤ t := (nI_leI (a := 4) (b := t) (by omega) (by omega)).mp c_5
            obtain rfl : t = 4 := by omega
            have hch := chN_le h w j lf 4
            refine lv_iload hx hb dX4_oddsOn_48 (lv_at hl 5 rfl) ?_
            refine lv_if_eq (tgt := 60) hx hb dX4_oddsOn_50 (by decide) (fun c_6 => ?_) (fun c_6 => ?_)
            · have c_6 : chN h w j lf 4 = 0 := (nI_eq (a := chN h w j lf 4) (b := 0) (by omega) (by omega)).mp c_6
              refine lv_lconst (v := 0) hx hb dX4_oddsOn_60 (by decide) ?_
              refine rl_ret hx hb hr hlk dX4_oddsOn_61 ?_
              rw [odF, if_neg (by assumption)]; rfl
            · have c_6 : ¬ chN h w j lf 4 = 0 := fun z => c_6 ((nI_eq (a := chN h w j lf 4) (b := 0) (by omega) (by omega)).mpr z)
              refine lv_iload hx hb dX4_oddsOn_53 (lv_at hl 4 rfl) ?_
              refine lv_bipush (v := 15) hx hb dX4_oddsOn_55 (by decide) ?_
              refine lv_icmp_le (tgt := 62) hx hb dX4_oddsOn_57 (by decide) (fun c_7 => ?_) (fun c_7 => ?_)
              · exact absurd ((nI_leI (a := s) (b := 15) (by omega) (by omega)).mp c_7) (by omega)
              · have c_7 : 15 < s := Nat.lt_of_not_le (fun z => c_7 ((nI_leI (a := s) (b := 15) (by omega) (by omega)).mpr z))
                refine lv_lconst (v := 0) hx hb dX4_oddsOn_60 (by decide) ?_
                refine rl_ret hx hb hr hlk dX4_oddsOn_61 ?_
                rw [odF, if_neg (by assumption)]; rfl
          · have c_5 : t < 4 := Nat.lt_of_not_le (fun z => c_5 ((nI_leI (a := 4) (b := t) (by omega) (by omega)).mpr z))
            have hch := chN_le h w j lf t
            refine lv_iload hx hb dX4_oddsOn_18 (lv_at hl 5 rfl) ?_
            refine lv_iload_n hx hb dX4_oddsOn_20 rfl (lv_at hl 2 rfl) ?_
            refine lv_aload_n hx hb dX4_oddsOn_21 rfl (lv_at hl 0 rfl) ?_
            refine lv_iload_n hx hb dX4_oddsOn_22 rfl (lv_at hl 1 rfl) ?_
            refine lv_iload hx hb dX4_oddsOn_23 (lv_at hl 6 rfl) ?_
            refine k_ri (run_RN (As := [.int c, .int (nI t)]) (rest := [.int lf, .int (nI (chN h w j lf t))]) ⟨hx, hb, hml, hown, hts⟩ (c_X0_beside l D cI cJ cO a h w pc br kd et nb c (nI t) j t hv_c hj_c (vp_in_nI (show t < 4 by omega) (by decide)) (nI_clamp (by omega))) ⟨va_cnB 2 hts ggX4_oddsOn_X0_beside rfl rfl rfl (nw_X4_240 hK) (hts _ (List.mem_of_getElem? (i := 2) rfl)) (by decide +kernel) ⟨by show 0 + 1 ≤ (2 + 0); omega, by show 8 + (3 + 11) + 0 ≤ (61 + 30 * 0); omega⟩, (hts _ (List.mem_of_getElem? (i := 1) rfl)), (hts _ (List.mem_of_getElem? (i := 3) rfl))⟩ hP hK [0, 1, 2, 3] rfl rfl rfl rfl rfl hl.1 rfl (Nat.le_of_ble_eq_true rfl) dX4_oddsOn_25 ⟨Nat.le_refl _, Nat.le_refl _⟩) (fun r_8 q_9 => ?_)
            obtain rfl := q_9
            refine k_top (y := (nbF h w j t)) (hnb j hjn t (by omega)) ?_
            refine k_ri (run_RS (As := [.int lf, .int (nbF h w j t)]) (rest := [.int (nI (chN h w j lf t))]) ⟨hx, hb, hml, hown, hts⟩ (c_X4_isIn l D cI cJ cO lf (nbF h w j t)) (va_cwS 2 hts gX4_oddsOn_X4_isIn rfl rfl rfl (by decide +kernel) ⟨by show 1 + 1 ≤ (2 + 0); omega, by show 8 + (2 + 11) + 20 ≤ (61 + 30 * 0); omega⟩) hP hK [] rfl rfl hl.1 rfl (Nat.le_of_ble_eq_true rfl) dX4_oddsOn_28 ⟨Nat.le_refl _, Nat.le_refl _⟩) (fun r_10 q_11 => ?_)
            obtain rfl := q_11
            refine lv_if_eq (tgt := 38) hx hb dX4_oddsOn_31 (by decide) (fun c_12 => ?_) (fun c_12 => ?_)
            · have c_12 := b2_f c_12
              refine lv_iconst (v := 0) hx hb dX4_oddsOn_38 (by decide) ?_
              refine lv_iadd hx hb dX4_oddsOn_39 ?_
              refine k_top (y := (nI ((chN h w j lf t) + 0))) (nI_add _ 0) ?_
              refine lv_istore (lv' := [(6, .int (nI ((chN h w j lf t) + 0))), (0, .ref (a 1)), (1, .int c), (2, .int lf), (3, .long (lN sh)), (5, .int (nI s)), (7, .int (nI t))]) hx hb dX4_oddsOn_40 hl (by decide) rfl (fun ls hl => ?_)
              refine lv_iinc (v := (nI (t + 1))) (lv' := [(7, .int (nI (t + 1))), (6, .int (nI ((chN h w j lf t) + 0))), (0, .ref (a 1)), (1, .int c), (2, .int lf), (3, .long (lN sh)), (5, .int (nI s))]) hx hb dX4_oddsOn_42 hl (k := 6) rfl (nI_add _ 1) (by decide) rfl (fun ls hl => ?_)
              refine lv_goto (tgt := 12) hx hb dX4_oddsOn_45 (by decide) ?_
              exact ih_4 (t + 1) (nI ((chN h w j lf t) + 0)) (by omega) (by first | exact chN_t (by assumption) | exact chN_f (by assumption)) (by omega) ls (lv_sub hl [2, 3, 4, 5, 6, 1, 0] rfl)
            · have c_12 := b2_t c_12
              refine lv_iconst (v := 1) hx hb dX4_oddsOn_34 (by decide) ?_
              refine lv_goto (tgt := 39) hx hb dX4_oddsOn_35 (by decide) ?_
              refine lv_iadd hx hb dX4_oddsOn_39 ?_
              refine k_top (y := (nI ((chN h w j lf t) + 1))) (nI_add _ 1) ?_
              refine lv_istore (lv' := [(6, .int (nI ((chN h w j lf t) + 1))), (0, .ref (a 1)), (1, .int c), (2, .int lf), (3, .long (lN sh)), (5, .int (nI s)), (7, .int (nI t))]) hx hb dX4_oddsOn_40 hl (by decide) rfl (fun ls hl => ?_)
              refine lv_iinc (v := (nI (t + 1))) (lv' := [(7, .int (nI (t + 1))), (6, .int (nI ((chN h w j lf t) + 1))), (0, .ref (a 1)), (1, .int c), (2, .int lf), (3, .long (lN sh)), (5, .int (nI s))]) hx hb dX4_oddsOn_42 hl (k := 6) rfl (nI_add _ 1) (by decide) rfl (fun ls hl => ?_)
              refine lv_goto (tgt := 12) hx hb dX4_oddsOn_45 (by decide) ?_
              exact ih_4 (t + 1) (nI ((chN h w j lf t) + 1)) (by omega) (by first | exact chN_t (by assumption) | exact chN_f (by assumption)) (by omega) ls (lv_sub hl [2, 3, 4, 5, 6, 1, 0] rfl)
      exact key_3 _ 0 0 (by omega) rfl (Nat.lt_succ_self _) ls (lv_sub hl [2, 3, 4, 5, 6, 1, 0] rfl)
    · refine lv_lload_n hx hb dX4_oddsOn_4 rfl (lv_at hl 3 rfl) ?_
      refine rl_ret hx hb hr hlk dX4_oddsOn_5 ?_
      rw [odF, if_pos (by assumption)]
  | succ d ih =>
    intro s sh lf c j hsd hsh hjn hv_c hj_c
    refine RG.of (cc := cX4_oddsOn) (maxL := 11) (ret := (some .long)) (by decide) rfl (Nat.le_of_ble_eq_true rfl) ?_
    intro P_ E_ S_ M_ B_ T_ K_ hx hb hml hr hts hown hlk hP hK ls hl
    have hl : lv_has ls 11 [(0, .ref (a 1)), (1, .int c), (2, .int lf), (3, .long (lN sh)), (5, .int (nI s))] := hl
    refine lv_iload_n hx hb dX4_oddsOn_0 rfl (lv_at hl 2 rfl) ?_
    refine lv_if_ne (tgt := 6) hx hb dX4_oddsOn_1 (by decide) (fun c_1 => ?_) (fun c_1 => ?_)
    · refine lv_iconst (v := 0) hx hb dX4_oddsOn_6 (by decide) ?_
      refine lv_istore (lv' := [(6, .int 0), (0, .ref (a 1)), (1, .int c), (2, .int lf), (3, .long (lN sh)), (5, .int (nI s))]) hx hb dX4_oddsOn_7 hl (by decide) rfl (fun ls hl => ?_)
      refine lv_iconst (v := 0) hx hb dX4_oddsOn_9 (by decide) ?_
      refine lv_istore (lv' := [(7, .int 0), (6, .int 0), (0, .ref (a 1)), (1, .int c), (2, .int lf), (3, .long (lN sh)), (5, .int (nI s))]) hx hb dX4_oddsOn_10 hl (by decide) rfl (fun ls hl => ?_)
      have key_3 : ∀ (n_2 : Nat) (t : Nat) (x6_n_2 : Int32), (t ≤ 4) → x6_n_2 = (nI (chN h w j lf t)) → 4 - t < n_2 → ∀ ls : Array Slot, lv_has ls 11 [(0, .ref (a 1)), (1, .int c), (2, .int lf), (3, .long (lN sh)), (5, .int (nI s)), (6, .int x6_n_2), (7, .int (nI t))] → W P_ l E_ ({ frames := (2 + (d + 1)), cells := 0, slots := 0, locals := (61 + 30 * (d + 1)) } : Room) S_ M_ (([.ref (a 1), .int c, .int lf, .long (lN sh), .int (nI s)] : List Value).toArray) B_ T_ K_ S_.heap [] 0 0 (MQ B_ (vp_Sl (fun (r : Int64) => r = lN (odF h w (d + 1) j lf sh))) (([.ref (a 1), .int c, .int lf, .long (lN sh), .int (nI s)] : List Value).toArray) S_ 0 0 (fun _ => False)) (F0 M_ 12 ls []) := by
        intro n_2
        induction n_2 with
        | zero =>
          intro t x6_n_2 hk e_x6_n_2 hmu_n_2
          exact absurd hmu_n_2 (Nat.not_lt_zero _)
        | succ n_2 ih_4 =>
          intro t x6_n_2 hk e_x6_n_2 hmu_n_2 ls hl
          subst e_x6_n_2
          have hl : lv_has ls 11 [(0, .ref (a 1)), (1, .int c), (2, .int lf), (3, .long (lN sh)), (5, .int (nI s)), (6, .int (nI (chN h w j lf t))), (7, .int (nI t))] := hl
          refine lv_iload hx hb dX4_oddsOn_12 (lv_at hl 6 rfl) ?_
          refine lv_iconst (v := 4) hx hb dX4_oddsOn_14 (by decide) ?_
          refine lv_icmp_ge (tgt := 48) hx hb dX4_oddsOn_15 (by decide) (fun c_5 => ?_) (fun c_5 => ?_)
          · have c_5 : 4 ≤ t := (nI_leI (a := 4) (b := t) (by omega) (by omega)).mp c_5
            obtain rfl : t = 4 := by omega
            have hch := chN_le h w j lf 4
            refine lv_iload hx hb dX4_oddsOn_48 (lv_at hl 5 rfl) ?_
            refine lv_if_eq (tgt := 60) hx hb dX4_oddsOn_50 (by decide) (fun c_6 => ?_) (fun c_6 => ?_)
            · have c_6 : chN h w j lf 4 = 0 := (nI_eq (a := chN h w j lf 4) (b := 0) (by omega) (by omega)).mp c_6
              refine lv_lconst (v := 0) hx hb dX4_oddsOn_60 (by decide) ?_
              refine rl_ret hx hb hr hlk dX4_oddsOn_61 ?_
              rw [odF, if_neg (by assumption), smN_0 (by omega)]; rfl
            · have c_6 : ¬ chN h w j lf 4 = 0 := fun z => c_6 ((nI_eq (a := chN h w j lf 4) (b := 0) (by omega) (by omega)).mpr z)
              refine lv_iload hx hb dX4_oddsOn_53 (lv_at hl 4 rfl) ?_
              refine lv_bipush (v := 15) hx hb dX4_oddsOn_55 (by decide) ?_
              refine lv_icmp_le (tgt := 62) hx hb dX4_oddsOn_57 (by decide) (fun c_7 => ?_) (fun c_7 => ?_)
              · have c_7 : s ≤ 15 := (nI_leI (a := s) (b := 15) (by omega) (by omega)).mp c_7
                refine lv_lconst (v := 0) hx hb dX4_oddsOn_62 (by decide) ?_
                refine lv_lstore (lv' := [(7, .long 0), (0, .ref (a 1)), (1, .int c), (2, .int lf), (3, .long (lN sh)), (5, .int (nI s)), (6, .int (nI (chN h w j lf 4)))]) hx hb dX4_oddsOn_63 hl (by decide) rfl (fun ls hl => ?_)
                refine lv_iconst (v := 0) hx hb dX4_oddsOn_65 (by decide) ?_
                refine lv_istore (lv' := [(9, .int 0), (7, .long 0), (0, .ref (a 1)), (1, .int c), (2, .int lf), (3, .long (lN sh)), (5, .int (nI s)), (6, .int (nI (chN h w j lf 4)))]) hx hb dX4_oddsOn_66 hl (by decide) rfl (fun ls hl => ?_)
                have key_9 : ∀ (n_8 : Nat) (u : Nat) (x7_n_8 : Int64), (u ≤ 4) → x7_n_8 = (lN (smN (odF h w d) h w j lf (sh / chN h w j lf 4) u)) → 4 - u < n_8 → ∀ ls : Array Slot, lv_has ls 11 [(0, .ref (a 1)), (1, .int c), (2, .int lf), (3, .long (lN sh)), (5, .int (nI s)), (6, .int (nI (chN h w j lf 4))), (7, .long x7_n_8), (9, .int (nI u))] → W P_ l E_ ({ frames := (2 + (d + 1)), cells := 0, slots := 0, locals := (61 + 30 * (d + 1)) } : Room) S_ M_ (([.ref (a 1), .int c, .int lf, .long (lN sh), .int (nI s)] : List Value).toArray) B_ T_ K_ S_.heap [] 0 0 (MQ B_ (vp_Sl (fun (r : Int64) => r = lN (odF h w (d + 1) j lf sh))) (([.ref (a 1), .int c, .int lf, .long (lN sh), .int (nI s)] : List Value).toArray) S_ 0 0 (fun _ => False)) (F0 M_ 68 ls []) := by
                  intro n_8
                  induction n_8 with
                  | zero =>
                    intro u x7_n_8 hku e_x7_n_8 hmu_n_8
                    exact absurd hmu_n_8 (Nat.not_lt_zero _)
                  | succ n_8 ih_10 =>
                    intro u x7_n_8 hku e_x7_n_8 hmu_n_8 ls hl
                    subst e_x7_n_8
                    have hl : lv_has ls 11 [(0, .ref (a 1)), (1, .int c), (2, .int lf), (3, .long (lN sh)), (5, .int (nI s)), (6, .int (nI (chN h w j lf 4))), (7, .long (lN (smN (odF h w d) h w j lf (sh / chN h w j lf 4) u))), (9, .int (nI u))] := hl
                    refine lv_iload hx hb dX4_oddsOn_68 (lv_at hl 7 rfl) ?_
                    refine lv_iconst (v := 4) hx hb dX4_oddsOn_70 (by decide) ?_
                    refine lv_icmp_ge (tgt := 124) hx hb dX4_oddsOn_71 (by decide) (fun c_11 => ?_) (fun c_11 => ?_)
                    · have c_11 : 4 ≤ u := (nI_leI (a := 4) (b := u) (by omega) (by omega)).mp c_11
                      refine lv_lload hx hb dX4_oddsOn_124 (lv_at hl 6 rfl) ?_
                      refine rl_ret hx hb hr hlk dX4_oddsOn_126 ?_
                      obtain rfl : u = 4 := by omega
                      rw [odF, if_neg (by assumption)]
                    · have c_11 : u < 4 := Nat.lt_of_not_le (fun z => c_11 ((nI_leI (a := 4) (b := u) (by omega) (by omega)).mpr z))
                      refine lv_aload_n hx hb dX4_oddsOn_74 rfl (lv_at hl 0 rfl) ?_
                      refine lv_iload_n hx hb dX4_oddsOn_75 rfl (lv_at hl 1 rfl) ?_
                      refine lv_iload hx hb dX4_oddsOn_76 (lv_at hl 7 rfl) ?_
                      refine k_ri (run_RN (As := [.int c, .int (nI u)]) (rest := []) ⟨hx, hb, hml, hown, hts⟩ (c_X0_beside l D cI cJ cO a h w pc br kd et nb c (nI u) j u hv_c hj_c (vp_in_nI (show u < 4 by omega) (by decide)) (nI_clamp (by omega))) ⟨va_cnB 2 hts ggX4_oddsOn_X0_beside rfl rfl rfl (nw_X4_240 hK) (hts _ (List.mem_of_getElem? (i := 2) rfl)) (by decide +kernel) ⟨by show 0 + 1 ≤ (2 + (d + 1)); omega, by show 8 + (3 + 11) + 0 ≤ (61 + 30 * (d + 1)); omega⟩, (hts _ (List.mem_of_getElem? (i := 1) rfl)), (hts _ (List.mem_of_getElem? (i := 3) rfl))⟩ hP hK [0, 1, 2, 3] rfl rfl rfl rfl rfl hl.1 rfl (Nat.le_of_ble_eq_true rfl) dX4_oddsOn_78 ⟨Nat.le_refl _, Nat.le_refl _⟩) (fun r_12 q_13 => ?_)
                      obtain rfl := q_13
                      refine k_top (y := (nbF h w j u)) (hnb j hjn u (by omega)) ?_
                      refine lv_istore (lv' := [(10, .int (nbF h w j u)), (0, .ref (a 1)), (1, .int c), (2, .int lf), (3, .long (lN sh)), (5, .int (nI s)), (6, .int (nI (chN h w j lf 4))), (7, .long (lN (smN (odF h w d) h w j lf (sh / chN h w j lf 4) u))), (9, .int (nI u))]) hx hb dX4_oddsOn_81 hl (by decide) rfl (fun ls hl => ?_)
                      refine lv_iload_n hx hb dX4_oddsOn_83 rfl (lv_at hl 3 rfl) ?_
                      refine lv_iload hx hb dX4_oddsOn_84 (lv_at hl 0 rfl) ?_
                      refine k_ri (run_RS (As := [.int lf, .int (nbF h w j u)]) (rest := []) ⟨hx, hb, hml, hown, hts⟩ (c_X4_isIn l D cI cJ cO lf (nbF h w j u)) (va_cwS 2 hts gX4_oddsOn_X4_isIn rfl rfl rfl (by decide +kernel) ⟨by show 1 + 1 ≤ (2 + (d + 1)); omega, by show 8 + (2 + 11) + 20 ≤ (61 + 30 * (d + 1)); omega⟩) hP hK [] rfl rfl hl.1 rfl (Nat.le_of_ble_eq_true rfl) dX4_oddsOn_86 ⟨Nat.le_refl _, Nat.le_refl _⟩) (fun r_14 q_15 => ?_)
                      obtain rfl := q_15
                      refine lv_if_eq (tgt := 118) hx hb dX4_oddsOn_89 (by decide) (fun c_16 => ?_) (fun c_16 => ?_)
                      · have c_16 := b2_f c_16
                        refine lv_iinc (v := (nI (u + 1))) (lv' := [(9, .int (nI (u + 1))), (10, .int (nbF h w j u)), (0, .ref (a 1)), (1, .int c), (2, .int lf), (3, .long (lN sh)), (5, .int (nI s)), (6, .int (nI (chN h w j lf 4))), (7, .long (lN (smN (odF h w d) h w j lf (sh / chN h w j lf 4) u)))]) hx hb dX4_oddsOn_118 hl (k := 8) rfl (nI_add _ 1) (by decide) rfl (fun ls hl => ?_)
                        refine lv_goto (tgt := 68) hx hb dX4_oddsOn_121 (by decide) ?_
                        exact ih_10 (u + 1) (lN (smN (odF h w d) h w j lf (sh / chN h w j lf 4) u)) (by omega) (by first | exact smN_t (by assumption) | exact smN_f (by assumption)) (by omega) ls (lv_sub hl [2, 3, 4, 5, 6, 7, 8, 0] rfl)
                      · have c_16 := b2_t c_16
                        refine lv_lload hx hb dX4_oddsOn_92 (lv_at hl 7 rfl) ?_
                        refine lv_aload_n hx hb dX4_oddsOn_94 rfl (lv_at hl 1 rfl) ?_
                        refine lv_iload hx hb dX4_oddsOn_95 (lv_at hl 0 rfl) ?_
                        refine lv_iload_n hx hb dX4_oddsOn_97 rfl (lv_at hl 3 rfl) ?_
                        refine lv_iload hx hb dX4_oddsOn_98 (lv_at hl 0 rfl) ?_
                        refine k_ri (run_RS (As := [.int lf, .int (nbF h w j u)]) (rest := [.int (nbF h w j u), .ref (a 1), .long (lN (smN (odF h w d) h w j lf (sh / chN h w j lf 4) u))]) ⟨hx, hb, hml, hown, hts⟩ (c_X4_without l D cI cJ cO lf (nbF h w j u)) (va_cwS 2 hts gX4_oddsOn_X4_without rfl rfl rfl (by decide +kernel) ⟨by show 1 + 1 ≤ (2 + (d + 1)); omega, by show 8 + (2 + 11) + 20 ≤ (61 + 30 * (d + 1)); omega⟩) hP hK [] rfl rfl hl.1 rfl (Nat.le_of_ble_eq_true rfl) dX4_oddsOn_100 ⟨Nat.le_refl _, Nat.le_refl _⟩) (fun r_17 q_18 => ?_)
                        obtain rfl := q_18
                        refine lv_lload_n hx hb dX4_oddsOn_103 rfl (lv_at hl 4 rfl) ?_
                        refine lv_iload hx hb dX4_oddsOn_104 (lv_at hl 6 rfl) ?_
                        refine lv_i2l (v := (nI (chN h w j lf 4)).toInt64) hx hb dX4_oddsOn_106 rfl ?_
                        refine k_topl (y := (lN (chN h w j lf 4))) (nI_l (by omega)) ?_
                        refine lv_ldiv hx hb dX4_oddsOn_107 (lN_ne (by omega) (by omega)) ?_
                        refine k_topl (y := (lN (sh / chN h w j lf 4))) (pk_lDiv (by omega) (by omega) (by omega)) ?_
                        refine lv_iload hx hb dX4_oddsOn_108 (lv_at hl 5 rfl) ?_
                        refine lv_iconst (v := 1) hx hb dX4_oddsOn_110 (by decide) ?_
                        refine lv_iadd hx hb dX4_oddsOn_111 ?_
                        refine k_top (y := (nI (s + 1))) (nI_add _ 1) ?_
                        refine k_rl (run_RS (As := [.ref (a 1), .int (nbF h w j u), .int (wo lf (nbF h w j u)), .long (lN (sh / chN h w j lf 4)), .int (nI (s + 1))]) (rest := [.long (lN (smN (odF h w d) h w j lf (sh / chN h w j lf 4) u))]) ⟨hx, hb, hml, hown, hts⟩ (ih (s + 1) (sh / chN h w j lf 4) (wo lf (nbF h w j u)) (nbF h w j u) ((nbF h w j u).toNatClampNeg) (by omega) (Nat.lt_of_le_of_lt (Nat.div_le_self _ _) hsh) ((nbF_in hjn hn (by assumption)).lt) ((nbF_in hjn hn (by assumption)).vp hn) rfl) (va_cwS 5 hts gX4_oddsOn_X4_oddsOn rfl rfl rfl (by decide +kernel) ⟨by show (2 + d) + 1 ≤ (2 + (d + 1)); omega, by show 8 + (11 + 11) + (61 + 30 * d) ≤ (61 + 30 * (d + 1)); omega⟩) hP hK [0, 1, 2, 3] rfl rfl hl.1 rfl (Nat.le_of_ble_eq_true rfl) dX4_oddsOn_112 ⟨Nat.le_refl _, Nat.le_refl _⟩) (fun r_19 q_20 => ?_)
                        obtain rfl := q_20
                        refine lv_ladd hx hb dX4_oddsOn_115 ?_
                        refine lv_lstore (lv' := [(7, .long ((lN (smN (odF h w d) h w j lf (sh / chN h w j lf 4) u)) + (lN (odF h w d ((nbF h w j u).toNatClampNeg) (wo lf (nbF h w j u)) (sh / chN h w j lf 4))))), (10, .int (nbF h w j u)), (0, .ref (a 1)), (1, .int c), (2, .int lf), (3, .long (lN sh)), (5, .int (nI s)), (6, .int (nI (chN h w j lf 4))), (9, .int (nI u))]) hx hb dX4_oddsOn_116 hl (by decide) rfl (fun ls hl => ?_)
                        refine lv_iinc (v := (nI (u + 1))) (lv' := [(9, .int (nI (u + 1))), (7, .long ((lN (smN (odF h w d) h w j lf (sh / chN h w j lf 4) u)) + (lN (odF h w d ((nbF h w j u).toNatClampNeg) (wo lf (nbF h w j u)) (sh / chN h w j lf 4))))), (10, .int (nbF h w j u)), (0, .ref (a 1)), (1, .int c), (2, .int lf), (3, .long (lN sh)), (5, .int (nI s)), (6, .int (nI (chN h w j lf 4)))]) hx hb dX4_oddsOn_118 hl (k := 8) rfl (nI_add _ 1) (by decide) rfl (fun ls hl => ?_)
                        refine lv_goto (tgt := 68) hx hb dX4_oddsOn_121 (by decide) ?_
                        exact ih_10 (u + 1) ((lN (smN (odF h w d) h w j lf (sh / chN h w j lf 4) u)) + (lN (odF h w d ((nbF h w j u).toNatClampNeg) (wo lf (nbF h w j u)) (sh / chN h w j lf 4)))) (by omega) (by first | exact smN_t (by assumption) | exact smN_f (by assumption)) (by omega) ls (lv_sub hl [3, 4, 5, 6, 7, 8, 1, 0] rfl)
                exact key_9 _ 0 0 (by omega) rfl (Nat.lt_succ_self _) ls (lv_sub hl [2, 3, 4, 5, 6, 7, 1, 0] rfl)
              · exact absurd (show s ≤ 15 by omega) (fun z => c_7 ((nI_leI (a := s) (b := 15) (by omega) (by omega)).mpr z))
          · have c_5 : t < 4 := Nat.lt_of_not_le (fun z => c_5 ((nI_leI (a := 4) (b := t) (by omega) (by omega)).mpr z))
            have hch := chN_le h w j lf t
            refine lv_iload hx hb dX4_oddsOn_18 (lv_at hl 5 rfl) ?_
            refine lv_iload_n hx hb dX4_oddsOn_20 rfl (lv_at hl 2 rfl) ?_
            refine lv_aload_n hx hb dX4_oddsOn_21 rfl (lv_at hl 0 rfl) ?_
            refine lv_iload_n hx hb dX4_oddsOn_22 rfl (lv_at hl 1 rfl) ?_
            refine lv_iload hx hb dX4_oddsOn_23 (lv_at hl 6 rfl) ?_
            refine k_ri (run_RN (As := [.int c, .int (nI t)]) (rest := [.int lf, .int (nI (chN h w j lf t))]) ⟨hx, hb, hml, hown, hts⟩ (c_X0_beside l D cI cJ cO a h w pc br kd et nb c (nI t) j t hv_c hj_c (vp_in_nI (show t < 4 by omega) (by decide)) (nI_clamp (by omega))) ⟨va_cnB 2 hts ggX4_oddsOn_X0_beside rfl rfl rfl (nw_X4_240 hK) (hts _ (List.mem_of_getElem? (i := 2) rfl)) (by decide +kernel) ⟨by show 0 + 1 ≤ (2 + (d + 1)); omega, by show 8 + (3 + 11) + 0 ≤ (61 + 30 * (d + 1)); omega⟩, (hts _ (List.mem_of_getElem? (i := 1) rfl)), (hts _ (List.mem_of_getElem? (i := 3) rfl))⟩ hP hK [0, 1, 2, 3] rfl rfl rfl rfl rfl hl.1 rfl (Nat.le_of_ble_eq_true rfl) dX4_oddsOn_25 ⟨Nat.le_refl _, Nat.le_refl _⟩) (fun r_21 q_22 => ?_)
            obtain rfl := q_22
            refine k_top (y := (nbF h w j t)) (hnb j hjn t (by omega)) ?_
            refine k_ri (run_RS (As := [.int lf, .int (nbF h w j t)]) (rest := [.int (nI (chN h w j lf t))]) ⟨hx, hb, hml, hown, hts⟩ (c_X4_isIn l D cI cJ cO lf (nbF h w j t)) (va_cwS 2 hts gX4_oddsOn_X4_isIn rfl rfl rfl (by decide +kernel) ⟨by show 1 + 1 ≤ (2 + (d + 1)); omega, by show 8 + (2 + 11) + 20 ≤ (61 + 30 * (d + 1)); omega⟩) hP hK [] rfl rfl hl.1 rfl (Nat.le_of_ble_eq_true rfl) dX4_oddsOn_28 ⟨Nat.le_refl _, Nat.le_refl _⟩) (fun r_23 q_24 => ?_)
            obtain rfl := q_24
            refine lv_if_eq (tgt := 38) hx hb dX4_oddsOn_31 (by decide) (fun c_25 => ?_) (fun c_25 => ?_)
            · have c_25 := b2_f c_25
              refine lv_iconst (v := 0) hx hb dX4_oddsOn_38 (by decide) ?_
              refine lv_iadd hx hb dX4_oddsOn_39 ?_
              refine k_top (y := (nI ((chN h w j lf t) + 0))) (nI_add _ 0) ?_
              refine lv_istore (lv' := [(6, .int (nI ((chN h w j lf t) + 0))), (0, .ref (a 1)), (1, .int c), (2, .int lf), (3, .long (lN sh)), (5, .int (nI s)), (7, .int (nI t))]) hx hb dX4_oddsOn_40 hl (by decide) rfl (fun ls hl => ?_)
              refine lv_iinc (v := (nI (t + 1))) (lv' := [(7, .int (nI (t + 1))), (6, .int (nI ((chN h w j lf t) + 0))), (0, .ref (a 1)), (1, .int c), (2, .int lf), (3, .long (lN sh)), (5, .int (nI s))]) hx hb dX4_oddsOn_42 hl (k := 6) rfl (nI_add _ 1) (by decide) rfl (fun ls hl => ?_)
              refine lv_goto (tgt := 12) hx hb dX4_oddsOn_45 (by decide) ?_
              exact ih_4 (t + 1) (nI ((chN h w j lf t) + 0)) (by omega) (by first | exact chN_t (by assumption) | exact chN_f (by assumption)) (by omega) ls (lv_sub hl [2, 3, 4, 5, 6, 1, 0] rfl)
            · have c_25 := b2_t c_25
              refine lv_iconst (v := 1) hx hb dX4_oddsOn_34 (by decide) ?_
              refine lv_goto (tgt := 39) hx hb dX4_oddsOn_35 (by decide) ?_
              refine lv_iadd hx hb dX4_oddsOn_39 ?_
              refine k_top (y := (nI ((chN h w j lf t) + 1))) (nI_add _ 1) ?_
              refine lv_istore (lv' := [(6, .int (nI ((chN h w j lf t) + 1))), (0, .ref (a 1)), (1, .int c), (2, .int lf), (3, .long (lN sh)), (5, .int (nI s)), (7, .int (nI t))]) hx hb dX4_oddsOn_40 hl (by decide) rfl (fun ls hl => ?_)
              refine lv_iinc (v := (nI (t + 1))) (lv' := [(7, .int (nI (t + 1))), (6, .int (nI ((chN h w j lf t) + 1))), (0, .ref (a 1)), (1, .int c), (2, .int lf), (3, .long (lN sh)), (5, .int (nI s))]) hx hb dX4_oddsOn_42 hl (k := 6) rfl (nI_add _ 1) (by decide) rfl (fun ls hl => ?_)
              refine lv_goto (tgt := 12) hx hb dX4_oddsOn_45 (by decide) ?_
              exact ih_4 (t + 1) (nI ((chN h w j lf t) + 1)) (by omega) (by first | exact chN_t (by assumption) | exact chN_f (by assumption)) (by omega) ls (lv_sub hl [2, 3, 4, 5, 6, 1, 0] rfl)
      exact key_3 _ 0 0 (by omega) rfl (Nat.lt_succ_self _) ls (lv_sub hl [2, 3, 4, 5, 6, 1, 0] rfl)
    · refine lv_lload_n hx hb dX4_oddsOn_4 rfl (lv_at hl 3 rfl) ?_
      refine rl_ret hx hb hr hlk dX4_oddsOn_5 ?_
      rw [odF, if_pos (by assumption)]
theorem c_X4_oddsOn (l : Launch) (D : va_G) (cI cJ cO : ClassId) (a : Nat → Nat) (h : Nat) (w : Nat) (pc : Int32) (br : Int32) (kd : Nat → Int32) (et : Nat → Int32) (nb : Nat → Int32) (s : Nat) (sh : Nat) (lf : Int32) (c : Int32) (j : Nat) (hn : h * w ≤ 16) (hnb : nbOk h w nb (h * w)) (hsd : s + 15 = 16) (hsh : sh < 2 ^ 62) (hjn : j < h * w) (hv_c : vp_in c 16) (hj_c : c.toNatClampNeg = j) : RG l yX4_oddsOn wsX4_oddsOn 17 511 D [(cI, .int), (cJ, .long), (cO, .object "ShornHill$Sheet")] [.ref (a 1), .int c, .int lf, .long (lN sh), .int (nI s)] [(a 1, .inr (0, [.int (nI h), .int (nI w), .int pc, .int br, .ref (a 2), .ref (a 3), .ref (a 4)])), (a 2, .inl (cI, 16, .inl kd)), (a 3, .inl (cI, 16, .inl et)), (a 4, .inl (cI, 64, .inl nb))] (vp_Sl (fun (r : Int64) => r = lN (odF h w 15 j lf sh))) := c_X4_oddsOn_r l D cI cJ cO a h w pc br kd et nb hn hnb 15 s sh lf c j hsd hsh hjn hv_c hj_c
