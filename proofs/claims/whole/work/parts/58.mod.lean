set_option maxRecDepth 100000 in
set_option maxHeartbeats 4000000 in
/-- X5_share -/
theorem c_X5_share (l : Launch) (D : va_G) (cI cJ cO : ClassId) (x0 : Nat) (y0 : Nat) (v : Int32) (h1 : x0 < 2 ^ 62) (h2 : y0 < 2 ^ 62) (h0 : 0 < y0) : RG l yX5_share wsX5_share 0 0 D [(cI, .int), (cJ, .long), (cO, .object "ShornHill$Sheet")] [.long (lN x0), .long (lN y0), .int v] [] (vp_Sl (fun (r : Int64) => r = lN ((if v = 0 then x0 else y0) / Nat.gcd x0 y0))) := by
  refine RG.of (cc := cX5_share) (maxL := 11) (ret := (some .long)) (by decide) rfl (Nat.le_of_ble_eq_true rfl) ?_
  intro P_ E_ S_ M_ B_ T_ K_ hx hb hml hr hts hown hlk hP hK ls hl
  have hl : lv_has ls 11 [(0, .long (lN x0)), (2, .long (lN y0)), (4, .int v)] := hl
  refine lv_lload_n hx hb dX5_share_0 rfl (lv_at hl 0 rfl) ?_
  refine lv_lstore (lv' := [(5, .long (lN x0)), (0, .long (lN x0)), (2, .long (lN y0)), (4, .int v)]) hx hb dX5_share_1 hl (by decide) rfl (fun ls hl => ?_)
  refine lv_lload_n hx hb dX5_share_3 rfl (lv_at hl 2 rfl) ?_
  refine lv_lstore (lv' := [(7, .long (lN y0)), (5, .long (lN x0)), (0, .long (lN x0)), (2, .long (lN y0)), (4, .int v)]) hx hb dX5_share_4 hl (by decide) rfl (fun ls hl => ?_)
  have key_2 : ∀ (n_1 : Nat) (x : Nat) (y : Nat), (x < 2 ^ 62) → (y < 2 ^ 62) → (Nat.gcd x y = Nat.gcd x0 y0) → y < n_1 → ∀ ls : Array Slot, lv_has ls 11 [(0, .long (lN x0)), (2, .long (lN y0)), (4, .int v), (5, .long (lN x)), (7, .long (lN y))] → W P_ l E_ ({ frames := 0, cells := 0, slots := 0, locals := 0 } : Room) S_ M_ (([.long (lN x0), .long (lN y0), .int v] : List Value).toArray) B_ T_ K_ S_.heap [] 0 0 (MQ B_ (vp_Sl (fun (r : Int64) => r = lN ((if v = 0 then x0 else y0) / Nat.gcd x0 y0))) (([.long (lN x0), .long (lN y0), .int v] : List Value).toArray) S_ 0 0 (fun _ => False)) (F0 M_ 6 ls []) := by
    intro n_1
    induction n_1 with
    | zero =>
      intro x y hxl hyl hg hmu_n_1
      exact absurd hmu_n_1 (Nat.not_lt_zero _)
    | succ n_1 ih_3 =>
      intro x y hxl hyl hg hmu_n_1 ls hl
      have hl : lv_has ls 11 [(0, .long (lN x0)), (2, .long (lN y0)), (4, .int v), (5, .long (lN x)), (7, .long (lN y))] := hl
      refine lv_lload hx hb dX5_share_6 (lv_at hl 4 rfl) ?_
      refine lv_lconst (v := 0) hx hb dX5_share_8 (by decide) ?_
      refine W.lcmp hx hb dX5_share_9 ?_
      refine lv_if_eq (tgt := 31) hx hb dX5_share_10 (by decide) (fun c_4 => ?_) (fun c_4 => ?_)
      · have cy : y = 0 := lN_0 (by omega) ((lg_cmp_eq _ _).mp c_4)
        have hgx : x = Nat.gcd x0 y0 := by rw [← hg, cy, Nat.gcd_zero_right]
        have hg1 : 1 ≤ Nat.gcd x0 y0 := Nat.gcd_pos_of_pos_right _ h0
        refine lv_iload hx hb dX5_share_31 (lv_at hl 2 rfl) ?_
        refine lv_if_ne (tgt := 40) hx hb dX5_share_33 (by decide) (fun c_5 => ?_) (fun c_5 => ?_)
        · refine lv_lload_n hx hb dX5_share_40 rfl (lv_at hl 1 rfl) ?_
          refine lv_lload hx hb dX5_share_41 (lv_at hl 3 rfl) ?_
          refine lv_ldiv hx hb dX5_share_43 (lN_ne (by omega) (by omega)) ?_
          refine rl_ret hx hb hr hlk dX5_share_44 ?_
          rw [if_neg c_5, ← hgx]
          exact pk_lDiv (by omega) (by omega) (by omega)
        · refine lv_lload_n hx hb dX5_share_36 rfl (lv_at hl 0 rfl) ?_
          refine lv_goto (tgt := 41) hx hb dX5_share_37 (by decide) ?_
          refine lv_lload hx hb dX5_share_41 (lv_at hl 3 rfl) ?_
          refine lv_ldiv hx hb dX5_share_43 (lN_ne (by omega) (by omega)) ?_
          refine rl_ret hx hb hr hlk dX5_share_44 ?_
          rw [if_pos c_5, ← hgx]
          exact pk_lDiv (by omega) (by omega) (by omega)
      · have cy : ¬ y = 0 := fun z => c_4 ((lg_cmp_eq _ _).mpr (by rw [z]; rfl))
        refine lv_lload hx hb dX5_share_13 (lv_at hl 3 rfl) ?_
        refine lv_lload hx hb dX5_share_15 (lv_at hl 4 rfl) ?_
        refine lv_lrem hx hb dX5_share_17 (lN_ne (by omega) (by omega)) ?_
        refine k_topl (y := (lN (x % y))) (pk_lRem (by omega) (by omega) (by omega)) ?_
        refine lv_lstore (lv' := [(9, .long (lN (x % y))), (0, .long (lN x0)), (2, .long (lN y0)), (4, .int v), (5, .long (lN x)), (7, .long (lN y))]) hx hb dX5_share_18 hl (by decide) rfl (fun ls hl => ?_)
        refine lv_lload hx hb dX5_share_20 (lv_at hl 5 rfl) ?_
        refine lv_lstore (lv' := [(5, .long (lN y)), (9, .long (lN (x % y))), (0, .long (lN x0)), (2, .long (lN y0)), (4, .int v), (7, .long (lN y))]) hx hb dX5_share_22 hl (by decide) rfl (fun ls hl => ?_)
        refine lv_lload hx hb dX5_share_24 (lv_at hl 1 rfl) ?_
        refine lv_lstore (lv' := [(7, .long (lN (x % y))), (5, .long (lN y)), (9, .long (lN (x % y))), (0, .long (lN x0)), (2, .long (lN y0)), (4, .int v)]) hx hb dX5_share_26 hl (by decide) rfl (fun ls hl => ?_)
        refine lv_goto (tgt := 6) hx hb dX5_share_28 (by decide) ?_
        exact ih_3 y (x % y) hyl (by have := Nat.mod_lt x (show 0 < y by omega); omega) (by rw [← hg, Nat.gcd_comm x y, Nat.gcd_rec y x, Nat.gcd_comm]) (by have := Nat.mod_lt x (show 0 < y by omega); omega) ls (lv_sub hl [3, 4, 5, 1, 0] rfl)
  exact key_2 _ x0 y0 h1 h2 rfl (Nat.lt_succ_self _) ls (lv_sub hl [2, 3, 4, 1, 0] rfl)
set_option maxRecDepth 100000 in
set_option maxHeartbeats 4000000 in
/-- X5_odds -/
theorem c_X5_odds (l : Launch) (D : va_G) (cI cJ cO : ClassId) (b : Nat → Nat) (fa : Int32) (h : Nat) (w : Nat) (pc : Int32) (br : Int32) (ra : Int32) (q1 : Int32) (q2 : Int32) (q3 : Int32) (q4 : Int32) (fw : Int32) (ea : Int32) (sn : Int32) (mo : Int32) (rc : Nat) (tr : Int32) (kd : Nat → Int32) (et : Nat → Int32) (pl : Nat → Int32) (nx : Nat → Int32) (ch : Nat → Int64) (ws : Int32) (c : Int32) (v : Int32) (hn : h * w ≤ 16) (hkd : ∀ k, k < 16 → kdOk (kd k)) (het : ∀ k, k < 16 → etOk (et k)) (hbr : 0 < h * w → 1 ≤ br.toInt) : MG l yX5_odds wsX5_odds 4 105 0 0 D [(cI, .int), (cJ, .long), (cO, .object "ShornHill$Sheet")] [.ref (b 0), .int ws, .int c, .int v] [(b 0, .inr (5, [.int fa, .int (nI h), .int (nI w), .int pc, .int br, .ref (b 1), .ref (b 2), .int ra, .int q1, .int q2, .int q3, .int q4, .ref (b 3), .int fw, .int ea, .int sn, .ref (b 4), .ref (b 5), .ref (b 6), .int mo, .int (nI rc), .ref (b 7), .ref (b 8), .ref (b 9), .ref (b 10), .ref (b 11), .ref (b 12), .ref (b 13), .ref (b 14), .int tr])), (b 1, .inl (cI, 16, .inl kd)), (b 2, .inl (cI, 16, .inl et)), (b 4, .inl (cI, 17, .inl pl)), (b 5, .inl (cI, 17, .inl nx)), (b 10, .inl (cJ, 17, .inr (.inl ch)))] (QL D (fun (r : Int64) (w1 : va_W) => ∃ (pl3 : Nat → Int32) (nx3 : Nat → Int32) (ch3 : Nat → Int64), r = oddR (h * w) pc br kd et h w ws c v ∧ w1 = [(b 0, .inr (5, [.int fa, .int (nI h), .int (nI w), .int pc, .int br, .ref (b 1), .ref (b 2), .int ra, .int q1, .int q2, .int q3, .int q4, .ref (b 3), .int fw, .int ea, .int sn, .ref (b 4), .ref (b 5), .ref (b 6), .int mo, .int (nI rc), .ref (b 7), .ref (b 8), .ref (b 9), .ref (b 10), .ref (b 11), .ref (b 12), .ref (b 13), .ref (b 14), .int tr])), (b 1, .inl (cI, 16, .inl kd)), (b 2, .inl (cI, 16, .inl et)), (b 4, .inl (cI, 17, .inl pl3)), (b 5, .inl (cI, 17, .inl nx3)), (b 10, .inl (cJ, 17, .inr (.inl ch3)))])) := by
  refine MG.of (cc := cX5_odds) (maxL := 7) (ret := (some .long)) (by decide) rfl (Nat.le_of_ble_eq_true rfl) ?_
  intro P_ E_ S_ M_ B_ T_ K_ hx hb hml hr hts hown hlk hnm A hA hP hK hD hS ls hl
  have hl : lv_has ls 7 [(0, .ref (b 0)), (1, .int ws), (2, .int c), (3, .int v)] := hl
  obtain ⟨z, hz⟩ : ∃ z : Nat, z = allO := ⟨_, rfl⟩
  have hzl : z < 2 ^ 60 := by rw [hz]; decide
  have hz0 : 0 < z := by rw [hz]; decide
  refine lv_aload_n hx hb dX5_odds_0 rfl (lv_at hl 0 rfl) ?_
  refine lv_iload_n hx hb dX5_odds_1 rfl (lv_at hl 2 rfl) ?_
  refine k_ri (run_RV (As := [.int c]) (rest := []) ⟨hx, hb, hml, hown, hts⟩ (c_X5_noPlace l D cI cJ cO b fa h w pc br ra q1 q2 q3 q4 fw ea sn mo rc tr c hn) (cwV 1 hts gX5_odds_X5_noPlace rfl rfl rfl (by decide +kernel) ⟨Nat.le_of_ble_eq_true rfl, Nat.le_of_ble_eq_true rfl⟩) hP hK [0] rfl rfl rfl rfl rfl hl.1 rfl (Nat.le_of_ble_eq_true rfl) dX5_odds_2 ⟨Nat.le_refl _, Nat.le_refl _⟩) (fun r_1 q_2 => ?_)
  obtain rfl := q_2
  refine lv_if_ne (tgt := 25) hx hb dX5_odds_5 (by decide) (fun c_3 => ?_) (fun c_3 => ?_)
  · have c_3 := b2_t c_3
    refine k_rl (run_RS (As := []) (rest := []) ⟨hx, hb, hml, hown, hts⟩ (c_X5_lost l D cI cJ cO) (va_cwS 0 hts gX5_odds_X5_lost rfl rfl rfl (by decide +kernel) ⟨Nat.le_of_ble_eq_true rfl, Nat.le_of_ble_eq_true rfl⟩) hP hK [] rfl rfl hl.1 rfl (Nat.le_of_ble_eq_true rfl) dX5_odds_25 ⟨Nat.le_refl _, Nat.le_refl _⟩) (fun r_4 q_5 => ?_)
    obtain rfl := q_5
    refine ml_ret hx hb hr hlk hP hD hS dX5_odds_28 ?_
    refine ⟨pl, nx, ch, ?_, rfl⟩
    rw [oddR, if_neg (fun z => c_3 z.1)]
  · have c_3 := Decidable.not_not.mp (b2_f c_3)
    refine lv_iload_n hx hb dX5_odds_8 rfl (lv_at hl 1 rfl) ?_
    refine k_ri (run_RS (As := [.int ws]) (rest := []) ⟨hx, hb, hml, hown, hts⟩ (c_X5_noWeeks l D cI cJ cO ws) (va_cwS 1 hts gX5_odds_X5_noWeeks rfl rfl rfl (by decide +kernel) ⟨Nat.le_of_ble_eq_true rfl, Nat.le_of_ble_eq_true rfl⟩) hP hK [] rfl rfl hl.1 rfl (Nat.le_of_ble_eq_true rfl) dX5_odds_9 ⟨Nat.le_refl _, Nat.le_refl _⟩) (fun r_6 q_7 => ?_)
    obtain rfl := q_7
    refine lv_if_ne (tgt := 25) hx hb dX5_odds_12 (by decide) (fun c_8 => ?_) (fun c_8 => ?_)
    · have c_8 := b2_t c_8
      refine k_rl (run_RS (As := []) (rest := []) ⟨hx, hb, hml, hown, hts⟩ (c_X5_lost l D cI cJ cO) (va_cwS 0 hts gX5_odds_X5_lost rfl rfl rfl (by decide +kernel) ⟨Nat.le_of_ble_eq_true rfl, Nat.le_of_ble_eq_true rfl⟩) hP hK [] rfl rfl hl.1 rfl (Nat.le_of_ble_eq_true rfl) dX5_odds_25 ⟨Nat.le_refl _, Nat.le_refl _⟩) (fun r_9 q_10 => ?_)
      obtain rfl := q_10
      refine ml_ret hx hb hr hlk hP hD hS dX5_odds_28 ?_
      refine ⟨pl, nx, ch, ?_, rfl⟩
      rw [oddR, if_neg (fun z => (fun z => c_8 z.1) z.2)]
    · have c_8 := Decidable.not_not.mp (b2_f c_8)
      refine lv_iload_n hx hb dX5_odds_15 rfl (lv_at hl 3 rfl) ?_
      refine lv_i2l (v := v.toInt64) hx hb dX5_odds_16 rfl ?_
      refine lv_lconst (v := 0) hx hb dX5_odds_17 (by decide) ?_
      refine lv_lconst (v := 1) hx hb dX5_odds_18 (by decide) ?_
      refine k_ri (run_RS (As := [.long v.toInt64, .long 0, .long 1]) (rest := []) ⟨hx, hb, hml, hown, hts⟩ (c_X5_in l D cI cJ cO v.toInt64 0 1) (va_cwS 3 hts gX5_odds_X5_in rfl rfl rfl (by decide +kernel) ⟨Nat.le_of_ble_eq_true rfl, Nat.le_of_ble_eq_true rfl⟩) hP hK [] rfl rfl hl.1 rfl (Nat.le_of_ble_eq_true rfl) dX5_odds_19 ⟨Nat.le_refl _, Nat.le_refl _⟩) (fun r_11 q_12 => ?_)
      obtain rfl := q_12
      refine k_top (y := (b2 (btw v 0 1))) (b2_cong (in_bt rfl rfl)) ?_
      refine lv_if_ne (tgt := 29) hx hb dX5_odds_22 (by decide) (fun c_13 => ?_) (fun c_13 => ?_)
      · have c_13 := b2_t c_13
        refine lv_aload_n hx hb dX5_odds_29 rfl (lv_at hl 0 rfl) ?_
        refine lv_iload_n hx hb dX5_odds_30 rfl (lv_at hl 1 rfl) ?_
        refine k_ri (run_RV (As := [.int ws]) (rest := []) ⟨hx, hb, hml, hown, hts⟩ (c_X5_ripeBy l D cI cJ cO b fa h w pc br ra q1 q2 q3 q4 fw ea sn mo rc tr kd et ws hn hkd het hbr) (cwV 1 hts gX5_odds_X5_ripeBy rfl rfl rfl (by decide +kernel) ⟨Nat.le_of_ble_eq_true rfl, Nat.le_of_ble_eq_true rfl⟩) hP hK [0, 1, 2] rfl rfl rfl rfl rfl hl.1 rfl (Nat.le_of_ble_eq_true rfl) dX5_odds_31 ⟨Nat.le_refl _, Nat.le_refl _⟩) (fun r_14 q_15 => ?_)
        obtain rfl := q_15
        refine lv_iload_n hx hb dX5_odds_34 rfl (lv_at hl 2 rfl) ?_
        refine k_ri (run_RS (As := [.int (ripS pc br kd et ws (h * w)), .int c]) (rest := []) ⟨hx, hb, hml, hown, hts⟩ (c_X5_isIn l D cI cJ cO (ripS pc br kd et ws (h * w)) c (inN_mono (show inN c (h * w) by assumption) (by omega))) (va_cwS 2 hts gX5_odds_X5_isIn rfl rfl rfl (by decide +kernel) ⟨Nat.le_of_ble_eq_true rfl, Nat.le_of_ble_eq_true rfl⟩) hP hK [] rfl rfl hl.1 rfl (Nat.le_of_ble_eq_true rfl) dX5_odds_35 ⟨Nat.le_refl _, Nat.le_refl _⟩) (fun r_16 q_17 => ?_)
        obtain rfl := q_17
        refine lv_if_ne (tgt := 45) hx hb dX5_odds_38 (by decide) (fun c_18 => ?_) (fun c_18 => ?_)
        · have c_18 := b2_t c_18
          have hrpc : ripP pc br (kd c.toNatClampNeg) (et c.toNatClampNeg) ws := (rip_in hn (by assumption)).mp c_18
          have e_c : c = nI c.toNatClampNeg := (show inN c (h * w) by assumption).eq
          have l_c : c.toNatClampNeg < h * w := (show inN c (h * w) by assumption).lt
          refine lv_lconst (v := 1) hx hb dX5_odds_45 (by decide) ?_
          refine lv_lstore (lv' := [(4, .long 1), (0, .ref (b 0)), (1, .int ws), (2, .int c), (3, .int v)]) hx hb dX5_odds_46 hl (by decide) rfl (fun ls hl => ?_)
          refine lv_iconst (v := 0) hx hb dX5_odds_48 (by decide) ?_
          refine lv_istore (lv' := [(6, .int 0), (4, .long 1), (0, .ref (b 0)), (1, .int ws), (2, .int c), (3, .int v)]) hx hb dX5_odds_49 hl (by decide) rfl (fun ls hl => ?_)
          have key_20 : ∀ (n_19 : Nat) (k : Nat), (k ≤ 15) → 15 - k < n_19 → ∀ (H : Heap) (locs : List Loc), va_P D vwCl [(b 0, .inr (5, [.int fa, .int (nI h), .int (nI w), .int pc, .int br, .ref (b 1), .ref (b 2), .int ra, .int q1, .int q2, .int q3, .int q4, .ref (b 3), .int fw, .int ea, .int sn, .ref (b 4), .ref (b 5), .ref (b 6), .int mo, .int (nI rc), .ref (b 7), .ref (b 8), .ref (b 9), .ref (b 10), .ref (b 11), .ref (b 12), .ref (b 13), .ref (b 14), .int tr])), (b 1, .inl (cI, 16, .inl kd)), (b 2, .inl (cI, 16, .inl et)), (b 4, .inl (cI, 17, .inl pl)), (b 5, .inl (cI, 17, .inl nx)), (b 10, .inl (cJ, 17, .inr (.inl ch)))] H → va_D A [(b 0, .inr (5, [.int fa, .int (nI h), .int (nI w), .int pc, .int br, .ref (b 1), .ref (b 2), .int ra, .int q1, .int q2, .int q3, .int q4, .ref (b 3), .int fw, .int ea, .int sn, .ref (b 4), .ref (b 5), .ref (b 6), .int mo, .int (nI rc), .ref (b 7), .ref (b 8), .ref (b 9), .ref (b 10), .ref (b 11), .ref (b 12), .ref (b 13), .ref (b 14), .int tr])), (b 1, .inl (cI, 16, .inl kd)), (b 2, .inl (cI, 16, .inl et)), (b 4, .inl (cI, 17, .inl pl)), (b 5, .inl (cI, 17, .inl nx)), (b 10, .inl (cJ, 17, .inr (.inl ch)))] → va_S A S_.heap H locs → ∀ ls : Array Slot, lv_has ls 7 [(0, .ref (b 0)), (1, .int ws), (2, .int c), (3, .int v), (4, .long (lN (pwN k))), (6, .int (nI k))] → W P_ l E_ ({ frames := 4, cells := 0, slots := 0, locals := 105 } : Room) S_ M_ (([.ref (b 0), .int ws, .int c, .int v] : List Value).toArray) B_ T_ K_ H locs 0 0 (MQ B_ ((QL D (fun (r : Int64) (w1 : va_W) => ∃ (pl3 : Nat → Int32) (nx3 : Nat → Int32) (ch3 : Nat → Int64), r = oddR (h * w) pc br kd et h w ws c v ∧ w1 = [(b 0, .inr (5, [.int fa, .int (nI h), .int (nI w), .int pc, .int br, .ref (b 1), .ref (b 2), .int ra, .int q1, .int q2, .int q3, .int q4, .ref (b 3), .int fw, .int ea, .int sn, .ref (b 4), .ref (b 5), .ref (b 6), .int mo, .int (nI rc), .ref (b 7), .ref (b 8), .ref (b 9), .ref (b 10), .ref (b 11), .ref (b 12), .ref (b 13), .ref (b 14), .int tr])), (b 1, .inl (cI, 16, .inl kd)), (b 2, .inl (cI, 16, .inl et)), (b 4, .inl (cI, 17, .inl pl3)), (b 5, .inl (cI, 17, .inl nx3)), (b 10, .inl (cJ, 17, .inr (.inl ch3)))])) A) (([.ref (b 0), .int ws, .int c, .int v] : List Value).toArray) S_ 0 0 A) (F0 M_ 51 ls []) := by
            intro n_19
            induction n_19 with
            | zero =>
              intro k hk hmu_n_19
              exact absurd hmu_n_19 (Nat.not_lt_zero _)
            | succ n_19 ih_21 =>
              intro k hk hmu_n_19 H locs hP hD hS ls hl
              have hl : lv_has ls 7 [(0, .ref (b 0)), (1, .int ws), (2, .int c), (3, .int v), (4, .long (lN (pwN k))), (6, .int (nI k))] := hl
              have hP : va_P D vwCl [(b 0, .inr (5, [.int fa, .int (nI h), .int (nI w), .int pc, .int br, .ref (b 1), .ref (b 2), .int ra, .int q1, .int q2, .int q3, .int q4, .ref (b 3), .int fw, .int ea, .int sn, .ref (b 4), .ref (b 5), .ref (b 6), .int mo, .int (nI rc), .ref (b 7), .ref (b 8), .ref (b 9), .ref (b 10), .ref (b 11), .ref (b 12), .ref (b 13), .ref (b 14), .int tr])), (b 1, .inl (cI, 16, .inl kd)), (b 2, .inl (cI, 16, .inl et)), (b 4, .inl (cI, 17, .inl pl)), (b 5, .inl (cI, 17, .inl nx)), (b 10, .inl (cJ, 17, .inr (.inl ch)))] H := hP
              have hD : va_D A [(b 0, .inr (5, [.int fa, .int (nI h), .int (nI w), .int pc, .int br, .ref (b 1), .ref (b 2), .int ra, .int q1, .int q2, .int q3, .int q4, .ref (b 3), .int fw, .int ea, .int sn, .ref (b 4), .ref (b 5), .ref (b 6), .int mo, .int (nI rc), .ref (b 7), .ref (b 8), .ref (b 9), .ref (b 10), .ref (b 11), .ref (b 12), .ref (b 13), .ref (b 14), .int tr])), (b 1, .inl (cI, 16, .inl kd)), (b 2, .inl (cI, 16, .inl et)), (b 4, .inl (cI, 17, .inl pl)), (b 5, .inl (cI, 17, .inl nx)), (b 10, .inl (cJ, 17, .inr (.inl ch)))] := hD
              refine lv_iload hx hb dX5_odds_51 (lv_at hl 5 rfl) ?_
              refine lv_bipush (v := 15) hx hb dX5_odds_53 (by decide) ?_
              refine lv_icmp_ge (tgt := 72) hx hb dX5_odds_55 (by decide) (fun c_22 => ?_) (fun c_22 => ?_)
              · have c_22 : 15 ≤ k := (nI_leI (a := 15) (b := k) (by omega) (by omega)).mp c_22
                obtain rfl : k = 15 := by omega
                refine lv_aload_n hx hb dX5_odds_72 rfl (lv_at hl 0 rfl) ?_
                refine lv_aload_n hx hb dX5_odds_73 rfl (lv_at hl 0 rfl) ?_
                refine lv_iload_n hx hb dX5_odds_74 rfl (lv_at hl 1 rfl) ?_
                refine k_ri (run_RV (As := [.int ws]) (rest := [.ref (b 0)]) ⟨hx, hb, hml, hown, hts⟩ (c_X5_ripeBy l D cI cJ cO b fa h w pc br ra q1 q2 q3 q4 fw ea sn mo rc tr kd et ws hn hkd het hbr) (cwV 1 hts gX5_odds_X5_ripeBy rfl rfl rfl (by decide +kernel) ⟨Nat.le_of_ble_eq_true rfl, Nat.le_of_ble_eq_true rfl⟩) hP hK [0, 1, 2] rfl rfl rfl rfl rfl hl.1 rfl (Nat.le_of_ble_eq_true rfl) dX5_odds_75 ⟨Nat.le_refl _, Nat.le_refl _⟩) (fun r_23 q_24 => ?_)
                obtain rfl := q_24
                refine lv_iload_n hx hb dX5_odds_78 rfl (lv_at hl 2 rfl) ?_
                refine k_top (y := (nI c.toNatClampNeg)) e_c ?_
                refine lv_lload hx hb dX5_odds_79 (lv_at hl 4 rfl) ?_
                refine k_topl (y := (lN z)) (by rw [pw_15, hz]) ?_
                refine k_ml (wr := [(b 1, .inl (cI, 16, .inl kd)), (b 2, .inl (cI, 16, .inl et))]) [0, 3, 4, 5] [1, 2] (run_MV (As := [.int (ripS pc br kd et ws (h * w)), .int (nI c.toNatClampNeg), .long (lN z)]) (rest := []) ⟨hx, hb, hml, hown, hts⟩ (c_X5_chanceFrom l D cI cJ cO b fa h w pc br ra q1 q2 q3 q4 fw ea sn mo rc tr pl nx ch (ripS pc br kd et ws (h * w)) c.toNatClampNeg z hn l_c (by rw [← e_c]; assumption) (by omega)) (cwV 3 hts gX5_odds_X5_chanceFrom rfl rfl rfl (by decide +kernel) ⟨Nat.le_of_ble_eq_true rfl, Nat.le_of_ble_eq_true rfl⟩) hP hK hD [0, 3, 4, 5] (by decide) rfl rfl rfl rfl rfl hl.1 rfl (Nat.le_of_ble_eq_true rfl) dX5_odds_81 ⟨Nat.le_refl _, Nat.le_refl _⟩) hP hD hS hA rfl rfl (by decide) (by decide) (fun r_25 w_27 H locs q_26 hP hD hS => ?_)
                obtain ⟨pl3_28, nx3_29, ch3_30, rfl, rfl⟩ := q_26
                have hP : va_P D vwCl [(b 0, .inr (5, [.int fa, .int (nI h), .int (nI w), .int pc, .int br, .ref (b 1), .ref (b 2), .int ra, .int q1, .int q2, .int q3, .int q4, .ref (b 3), .int fw, .int ea, .int sn, .ref (b 4), .ref (b 5), .ref (b 6), .int mo, .int (nI rc), .ref (b 7), .ref (b 8), .ref (b 9), .ref (b 10), .ref (b 11), .ref (b 12), .ref (b 13), .ref (b 14), .int tr])), (b 1, .inl (cI, 16, .inl kd)), (b 2, .inl (cI, 16, .inl et)), (b 4, .inl (cI, 17, .inl pl3_28)), (b 5, .inl (cI, 17, .inl nx3_29)), (b 10, .inl (cJ, 17, .inr (.inl ch3_30)))] H := hP.sub [2, 0, 1, 3, 4, 5] rfl
                have hD : va_D A [(b 0, .inr (5, [.int fa, .int (nI h), .int (nI w), .int pc, .int br, .ref (b 1), .ref (b 2), .int ra, .int q1, .int q2, .int q3, .int q4, .ref (b 3), .int fw, .int ea, .int sn, .ref (b 4), .ref (b 5), .ref (b 6), .int mo, .int (nI rc), .ref (b 7), .ref (b 8), .ref (b 9), .ref (b 10), .ref (b 11), .ref (b 12), .ref (b 13), .ref (b 14), .int tr])), (b 1, .inl (cI, 16, .inl kd)), (b 2, .inl (cI, 16, .inl et)), (b 4, .inl (cI, 17, .inl pl3_28)), (b 5, .inl (cI, 17, .inl nx3_29)), (b 10, .inl (cJ, 17, .inr (.inl ch3_30)))] := hD.sub [2, 0, 1, 3, 4, 5] (by decide) rfl
                refine lv_lload hx hb dX5_odds_84 (lv_at hl 4 rfl) ?_
                refine k_topl (y := (lN z)) (by rw [pw_15, hz]) ?_
                refine lv_iload_n hx hb dX5_odds_86 rfl (lv_at hl 3 rfl) ?_
                refine k_rl (run_RS (As := [.long (lN (odF h w 15 c.toNatClampNeg (wo (ripS pc br kd et ws (h * w)) (nI c.toNatClampNeg)) z)), .long (lN z), .int v]) (rest := []) ⟨hx, hb, hml, hown, hts⟩ (c_X5_share l D cI cJ cO (odF h w 15 c.toNatClampNeg (wo (ripS pc br kd et ws (h * w)) (nI c.toNatClampNeg)) z) z v (by have := odF_le h w 15 c.toNatClampNeg (wo (ripS pc br kd et ws (h * w)) (nI c.toNatClampNeg)) z; omega) (by omega) hz0) (va_cwS 3 hts gX5_odds_X5_share rfl rfl rfl (by decide +kernel) ⟨Nat.le_of_ble_eq_true rfl, Nat.le_of_ble_eq_true rfl⟩) hP hK [] rfl rfl hl.1 rfl (Nat.le_of_ble_eq_true rfl) dX5_odds_87 ⟨Nat.le_refl _, Nat.le_refl _⟩) (fun r_31 q_32 => ?_)
                obtain rfl := q_32
                refine ml_ret hx hb hr hlk hP hD hS dX5_odds_90 ?_
                refine ⟨pl3_28, nx3_29, ch3_30, ?_, rfl⟩
                rw [oddR, if_pos (show inN c (h * w) ∧ inN ws 10 ∧ btw v 0 1 ∧ ripP pc br (kd c.toNatClampNeg) (et c.toNatClampNeg) ws from ⟨c_3, ⟨c_8, ⟨c_13, hrpc⟩⟩⟩), ← hz, Nat.gcd_comm z, ← e_c]
              · have c_22 : k < 15 := Nat.lt_of_not_le (fun z => c_22 ((nI_leI (a := 15) (b := k) (by omega) (by omega)).mpr z))
                refine lv_lload hx hb dX5_odds_58 (lv_at hl 4 rfl) ?_
                refine lv_ldc2 (v := 12) hx hb hown (hts _ (List.mem_of_getElem? (i := 1) rfl)) dX5_odds_60 ?_
                refine lv_lmul hx hb dX5_odds_63 ?_
                refine k_topl (y := (lN (pwN (k + 1)))) (lN_mul (pwN k) 12) ?_
                refine lv_lstore (lv' := [(4, .long (lN (pwN (k + 1)))), (0, .ref (b 0)), (1, .int ws), (2, .int c), (3, .int v), (6, .int (nI k))]) hx hb dX5_odds_64 hl (by decide) rfl (fun ls hl => ?_)
                refine lv_iinc (v := (nI (k + 1))) (lv' := [(6, .int (nI (k + 1))), (4, .long (lN (pwN (k + 1)))), (0, .ref (b 0)), (1, .int ws), (2, .int c), (3, .int v)]) hx hb dX5_odds_66 hl (k := 5) rfl (nI_add _ 1) (by decide) rfl (fun ls hl => ?_)
                refine lv_goto (tgt := 51) hx hb dX5_odds_69 (by decide) ?_
                exact ih_21 (k + 1) (by omega) (by omega) _ _ hP hD hS ls (lv_sub hl [2, 3, 4, 5, 1, 0] rfl)
          exact key_20 _ 0 (by omega) (Nat.lt_succ_self _) _ _ hP hD hS ls (lv_sub hl [2, 3, 4, 5, 1, 0] rfl)
        · have c_18 := b2_f c_18
          have hrpc : ¬ ripP pc br (kd c.toNatClampNeg) (et c.toNatClampNeg) ws := fun z => c_18 ((rip_in hn (by assumption)).mpr z)
          refine k_rl (run_RS (As := []) (rest := []) ⟨hx, hb, hml, hown, hts⟩ (c_X5_lost l D cI cJ cO) (va_cwS 0 hts gX5_odds_X5_lost rfl rfl rfl (by decide +kernel) ⟨Nat.le_of_ble_eq_true rfl, Nat.le_of_ble_eq_true rfl⟩) hP hK [] rfl rfl hl.1 rfl (Nat.le_of_ble_eq_true rfl) dX5_odds_41 ⟨Nat.le_refl _, Nat.le_refl _⟩) (fun r_33 q_34 => ?_)
          obtain rfl := q_34
          refine ml_ret hx hb hr hlk hP hD hS dX5_odds_44 ?_
          refine ⟨pl, nx, ch, ?_, rfl⟩
          rw [oddR, if_neg (fun z => (fun z => (fun z => hrpc z.2) z.2) z.2)]
      · have c_13 := b2_f c_13
        refine k_rl (run_RS (As := []) (rest := []) ⟨hx, hb, hml, hown, hts⟩ (c_X5_lost l D cI cJ cO) (va_cwS 0 hts gX5_odds_X5_lost rfl rfl rfl (by decide +kernel) ⟨Nat.le_of_ble_eq_true rfl, Nat.le_of_ble_eq_true rfl⟩) hP hK [] rfl rfl hl.1 rfl (Nat.le_of_ble_eq_true rfl) dX5_odds_25 ⟨Nat.le_refl _, Nat.le_refl _⟩) (fun r_35 q_36 => ?_)
        obtain rfl := q_36
        refine ml_ret hx hb hr hlk hP hD hS dX5_odds_28 ?_
        refine ⟨pl, nx, ch, ?_, rfl⟩
        rw [oddR, if_neg (fun z => (fun z => (fun z => c_13 z.1) z.2) z.2)]
