set_option maxRecDepth 100000 in
set_option maxHeartbeats 4000000 in
/-- X5_waysOn -/
theorem c_X5_waysOn (l : Launch) (D : va_G) (cI cJ cO : ClassId) (b : Nat → Nat) (fa : Int32) (h : Nat) (w : Nat) (pc : Int32) (br : Int32) (ra : Int32) (q1 : Int32) (q2 : Int32) (q3 : Int32) (q4 : Int32) (fw : Int32) (ea : Int32) (sn : Int32) (mo : Int32) (rc : Nat) (tr : Int32) (u : Int32) (j : Nat) (hn : h * w ≤ 16) (hjn : j < h * w) : RG l yX5_waysOn wsX5_waysOn 2 49 D [(cI, .int), (cJ, .long), (cO, .object "ShornHill$Sheet")] [.ref (b 0), .int u, .int (nI j)] [(b 0, .inr (5, [.int fa, .int (nI h), .int (nI w), .int pc, .int br, .ref (b 1), .ref (b 2), .int ra, .int q1, .int q2, .int q3, .int q4, .ref (b 3), .int fw, .int ea, .int sn, .ref (b 4), .ref (b 5), .ref (b 6), .int mo, .int (nI rc), .ref (b 7), .ref (b 8), .ref (b 9), .ref (b 10), .ref (b 11), .ref (b 12), .ref (b 13), .ref (b 14), .int tr]))] (vp_Si (fun (r : Int32) => r = (nI (chN h w j u 4)))) := by
  refine RG.of (cc := cX5_waysOn) (maxL := 6) (ret := (some .int)) (by decide) rfl (Nat.le_of_ble_eq_true rfl) ?_
  intro P_ E_ S_ M_ B_ T_ K_ hx hb hml hr hts hown hlk hP hK ls hl
  have hl : lv_has ls 6 [(0, .ref (b 0)), (1, .int u), (2, .int (nI j))] := hl
  refine lv_iconst (v := 0) hx hb dX5_waysOn_0 (by decide) ?_
  refine lv_istore_n (lv' := [(3, .int 0), (0, .ref (b 0)), (1, .int u), (2, .int (nI j))]) hx hb dX5_waysOn_1 rfl hl (by decide) rfl (fun ls hl => ?_)
  refine lv_iconst (v := 0) hx hb dX5_waysOn_2 (by decide) ?_
  refine lv_istore (lv' := [(4, .int 0), (3, .int 0), (0, .ref (b 0)), (1, .int u), (2, .int (nI j))]) hx hb dX5_waysOn_3 hl (by decide) rfl (fun ls hl => ?_)
  have key_2 : ∀ (n_1 : Nat) (t : Nat) (x3_n_1 : Int32), (t ≤ 4) → x3_n_1 = (nI (chN h w j u t)) → 4 - t < n_1 → ∀ ls : Array Slot, lv_has ls 6 [(0, .ref (b 0)), (1, .int u), (2, .int (nI j)), (3, .int x3_n_1), (4, .int (nI t))] → W P_ l E_ ({ frames := 2, cells := 0, slots := 0, locals := 49 } : Room) S_ M_ (([.ref (b 0), .int u, .int (nI j)] : List Value).toArray) B_ T_ K_ S_.heap [] 0 0 (MQ B_ (vp_Si (fun (r : Int32) => r = (nI (chN h w j u 4)))) (([.ref (b 0), .int u, .int (nI j)] : List Value).toArray) S_ 0 0 (fun _ => False)) (F0 M_ 5 ls []) := by
    intro n_1
    induction n_1 with
    | zero =>
      intro t x3_n_1 hk e_x3_n_1 hmu_n_1
      exact absurd hmu_n_1 (Nat.not_lt_zero _)
    | succ n_1 ih_3 =>
      intro t x3_n_1 hk e_x3_n_1 hmu_n_1 ls hl
      subst e_x3_n_1
      have hl : lv_has ls 6 [(0, .ref (b 0)), (1, .int u), (2, .int (nI j)), (3, .int (nI (chN h w j u t))), (4, .int (nI t))] := hl
      refine lv_iload hx hb dX5_waysOn_5 (lv_at hl 4 rfl) ?_
      refine lv_iconst (v := 4) hx hb dX5_waysOn_7 (by decide) ?_
      refine lv_icmp_ge (tgt := 48) hx hb dX5_waysOn_8 (by decide) (fun c_4 => ?_) (fun c_4 => ?_)
      · have c_4 : 4 ≤ t := (nI_leI (a := 4) (b := t) (by omega) (by omega)).mp c_4
        refine lv_iload_n hx hb dX5_waysOn_48 rfl (lv_at hl 3 rfl) ?_
        refine ri_ret (v := (nI (chN h w j u t))) hx hb hr hlk dX5_waysOn_49 ?_
        rw [show t = 4 by omega]
      · have c_4 : t < 4 := Nat.lt_of_not_le (fun z => c_4 ((nI_leI (a := 4) (b := t) (by omega) (by omega)).mpr z))
        refine lv_aload_n hx hb dX5_waysOn_11 rfl (lv_at hl 0 rfl) ?_
        refine lv_iload_n hx hb dX5_waysOn_12 rfl (lv_at hl 2 rfl) ?_
        refine lv_iload hx hb dX5_waysOn_13 (lv_at hl 4 rfl) ?_
        refine k_ri (run_RV (As := [.int (nI j), .int (nI t)]) (rest := []) ⟨hx, hb, hml, hown, hts⟩ (c_X5_beside l D cI cJ cO b fa h w pc br ra q1 q2 q3 q4 fw ea sn mo rc tr j t hn hjn (by omega)) (cwV 2 hts gX5_waysOn_X5_beside rfl rfl rfl (by decide +kernel) ⟨Nat.le_of_ble_eq_true rfl, Nat.le_of_ble_eq_true rfl⟩) hP hK [0] rfl rfl rfl rfl rfl hl.1 rfl (Nat.le_of_ble_eq_true rfl) dX5_waysOn_15 ⟨Nat.le_refl _, Nat.le_refl _⟩) (fun r_5 q_6 => ?_)
        obtain rfl := q_6
        refine lv_istore (lv' := [(5, .int (nbF h w j t)), (0, .ref (b 0)), (1, .int u), (2, .int (nI j)), (3, .int (nI (chN h w j u t))), (4, .int (nI t))]) hx hb dX5_waysOn_18 hl (by decide) rfl (fun ls hl => ?_)
        refine lv_iload_n hx hb dX5_waysOn_20 rfl (lv_at hl 4 rfl) ?_
        refine lv_iload hx hb dX5_waysOn_21 (lv_at hl 0 rfl) ?_
        refine lv_if_lt (tgt := 39) hx hb dX5_waysOn_23 (by decide) (fun c_7 => ?_) (fun c_7 => ?_)
        · refine lv_iconst (v := 0) hx hb dX5_waysOn_39 (by decide) ?_
          refine lv_iadd hx hb dX5_waysOn_40 ?_
          refine k_top (y := (nI ((chN h w j u t) + 0))) (nI_add _ 0) ?_
          refine lv_istore_n (lv' := [(3, .int (nI ((chN h w j u t) + 0))), (5, .int (nbF h w j t)), (0, .ref (b 0)), (1, .int u), (2, .int (nI j)), (4, .int (nI t))]) hx hb dX5_waysOn_41 rfl hl (by decide) rfl (fun ls hl => ?_)
          refine lv_iinc (v := (nI (t + 1))) (lv' := [(4, .int (nI (t + 1))), (3, .int (nI ((chN h w j u t) + 0))), (5, .int (nbF h w j t)), (0, .ref (b 0)), (1, .int u), (2, .int (nI j))]) hx hb dX5_waysOn_42 hl (k := 5) rfl (nI_add _ 1) (by decide) rfl (fun ls hl => ?_)
          refine lv_goto (tgt := 5) hx hb dX5_waysOn_45 (by decide) ?_
          exact ih_3 (t + 1) (nI ((chN h w j u t) + 0)) (by omega) (by first | exact chN_t (by assumption) | exact chN_f (by assumption) | exact chN_f (nb_lt (by assumption))) (by omega) ls (lv_sub hl [3, 4, 5, 1, 0] rfl)
        · refine lv_iload_n hx hb dX5_waysOn_26 rfl (lv_at hl 2 rfl) ?_
          refine lv_iload hx hb dX5_waysOn_27 (lv_at hl 0 rfl) ?_
          refine k_ri (run_RS (As := [.int u, .int (nbF h w j t)]) (rest := [.int (nI (chN h w j u t))]) ⟨hx, hb, hml, hown, hts⟩ (c_X5_isIn l D cI cJ cO u (nbF h w j t) (inN_mono (nb_0le hjn hn (by assumption)) (by omega))) (va_cwS 2 hts gX5_waysOn_X5_isIn rfl rfl rfl (by decide +kernel) ⟨Nat.le_of_ble_eq_true rfl, Nat.le_of_ble_eq_true rfl⟩) hP hK [] rfl rfl hl.1 rfl (Nat.le_of_ble_eq_true rfl) dX5_waysOn_29 ⟨Nat.le_refl _, Nat.le_refl _⟩) (fun r_8 q_9 => ?_)
          obtain rfl := q_9
          refine lv_if_eq (tgt := 39) hx hb dX5_waysOn_32 (by decide) (fun c_10 => ?_) (fun c_10 => ?_)
          · have c_10 := b2_f c_10
            refine lv_iconst (v := 0) hx hb dX5_waysOn_39 (by decide) ?_
            refine lv_iadd hx hb dX5_waysOn_40 ?_
            refine k_top (y := (nI ((chN h w j u t) + 0))) (nI_add _ 0) ?_
            refine lv_istore_n (lv' := [(3, .int (nI ((chN h w j u t) + 0))), (5, .int (nbF h w j t)), (0, .ref (b 0)), (1, .int u), (2, .int (nI j)), (4, .int (nI t))]) hx hb dX5_waysOn_41 rfl hl (by decide) rfl (fun ls hl => ?_)
            refine lv_iinc (v := (nI (t + 1))) (lv' := [(4, .int (nI (t + 1))), (3, .int (nI ((chN h w j u t) + 0))), (5, .int (nbF h w j t)), (0, .ref (b 0)), (1, .int u), (2, .int (nI j))]) hx hb dX5_waysOn_42 hl (k := 5) rfl (nI_add _ 1) (by decide) rfl (fun ls hl => ?_)
            refine lv_goto (tgt := 5) hx hb dX5_waysOn_45 (by decide) ?_
            exact ih_3 (t + 1) (nI ((chN h w j u t) + 0)) (by omega) (by first | exact chN_t (by assumption) | exact chN_f (by assumption) | exact chN_f (nb_lt (by assumption))) (by omega) ls (lv_sub hl [3, 4, 5, 1, 0] rfl)
          · have c_10 := b2_t c_10
            refine lv_iconst (v := 1) hx hb dX5_waysOn_35 (by decide) ?_
            refine lv_goto (tgt := 40) hx hb dX5_waysOn_36 (by decide) ?_
            refine lv_iadd hx hb dX5_waysOn_40 ?_
            refine k_top (y := (nI ((chN h w j u t) + 1))) (nI_add _ 1) ?_
            refine lv_istore_n (lv' := [(3, .int (nI ((chN h w j u t) + 1))), (5, .int (nbF h w j t)), (0, .ref (b 0)), (1, .int u), (2, .int (nI j)), (4, .int (nI t))]) hx hb dX5_waysOn_41 rfl hl (by decide) rfl (fun ls hl => ?_)
            refine lv_iinc (v := (nI (t + 1))) (lv' := [(4, .int (nI (t + 1))), (3, .int (nI ((chN h w j u t) + 1))), (5, .int (nbF h w j t)), (0, .ref (b 0)), (1, .int u), (2, .int (nI j))]) hx hb dX5_waysOn_42 hl (k := 5) rfl (nI_add _ 1) (by decide) rfl (fun ls hl => ?_)
            refine lv_goto (tgt := 5) hx hb dX5_waysOn_45 (by decide) ?_
            exact ih_3 (t + 1) (nI ((chN h w j u t) + 1)) (by omega) (by first | exact chN_t (by assumption) | exact chN_f (by assumption) | exact chN_f (nb_lt (by assumption))) (by omega) ls (lv_sub hl [3, 4, 5, 1, 0] rfl)
  exact key_2 _ 0 0 (by omega) rfl (Nat.lt_succ_self _) ls (lv_sub hl [2, 3, 4, 1, 0] rfl)
theorem iwX5_chanceFrom_X5 : ∀ x ∈ wsX50, x ∈ wsX5_chanceFrom := by decide +kernel
set_option maxRecDepth 100000 in
set_option maxHeartbeats 4000000 in
/-- X5_chanceFrom -/
theorem c_X5_chanceFrom (l : Launch) (D : va_G) (cI cJ cO : ClassId) (b : Nat → Nat) (fa : Int32) (h : Nat) (w : Nat) (pc : Int32) (br : Int32) (ra : Int32) (q1 : Int32) (q2 : Int32) (q3 : Int32) (q4 : Int32) (fw : Int32) (ea : Int32) (sn : Int32) (mo : Int32) (rc : Nat) (tr : Int32) (pl : Nat → Int32) (nx : Nat → Int32) (ch : Nat → Int64) (u : Int32) (j : Nat) (al : Nat) (hn : h * w ≤ 16) (hjn : j < h * w) (huc : inS u (nI j)) (ha62 : al < 2 ^ 62) : MG l yX5_chanceFrom wsX5_chanceFrom 3 74 0 0 D [(cI, .int), (cJ, .long), (cO, .object "ShornHill$Sheet")] [.ref (b 0), .int u, .int (nI j), .long (lN al)] [(b 0, .inr (5, [.int fa, .int (nI h), .int (nI w), .int pc, .int br, .ref (b 1), .ref (b 2), .int ra, .int q1, .int q2, .int q3, .int q4, .ref (b 3), .int fw, .int ea, .int sn, .ref (b 4), .ref (b 5), .ref (b 6), .int mo, .int (nI rc), .ref (b 7), .ref (b 8), .ref (b 9), .ref (b 10), .ref (b 11), .ref (b 12), .ref (b 13), .ref (b 14), .int tr])), (b 4, .inl (cI, 17, .inl pl)), (b 5, .inl (cI, 17, .inl nx)), (b 10, .inl (cJ, 17, .inr (.inl ch)))] (QL D (fun (r : Int64) (w1 : va_W) => ∃ (pl3 : Nat → Int32) (nx3 : Nat → Int32) (ch3 : Nat → Int64), r = lN (odF h w 15 j (wo u (nI j)) al) ∧ w1 = [(b 0, .inr (5, [.int fa, .int (nI h), .int (nI w), .int pc, .int br, .ref (b 1), .ref (b 2), .int ra, .int q1, .int q2, .int q3, .int q4, .ref (b 3), .int fw, .int ea, .int sn, .ref (b 4), .ref (b 5), .ref (b 6), .int mo, .int (nI rc), .ref (b 7), .ref (b 8), .ref (b 9), .ref (b 10), .ref (b 11), .ref (b 12), .ref (b 13), .ref (b 14), .int tr])), (b 4, .inl (cI, 17, .inl pl3)), (b 5, .inl (cI, 17, .inl nx3)), (b 10, .inl (cJ, 17, .inr (.inl ch3)))])) := by
  refine MG.of (cc := cX5_chanceFrom) (maxL := 12) (ret := (some .long)) (by decide) rfl (Nat.le_of_ble_eq_true rfl) ?_
  intro P_ E_ S_ M_ B_ T_ K_ hx hb hml hr hts hown hlk hnm A hA hP hK hD hS ls hl
  have hl : lv_has ls 12 [(0, .ref (b 0)), (1, .int u), (2, .int (nI j)), (3, .long (lN al))] := hl
  have hin5 : ∀ x ∈ u_ws RX5 TX5 30, x ∈ wsX5_chanceFrom := iwX5_chanceFrom_X5
  refine lv_iconst (v := 0) hx hb dX5_chanceFrom_0 (by decide) ?_
  refine lv_istore (lv' := [(5, .int 0), (0, .ref (b 0)), (1, .int u), (2, .int (nI j)), (3, .long (lN al))]) hx hb dX5_chanceFrom_1 hl (by decide) rfl (fun ls hl => ?_)
  refine lv_iconst (v := 1) hx hb dX5_chanceFrom_3 (by decide) ?_
  refine lv_iload_n hx hb dX5_chanceFrom_4 rfl (lv_at hl 3 rfl) ?_
  refine lv_ishl hx hb dX5_chanceFrom_5 ?_
  refine k_top (y := (SSl [(j, 0, al)])) (ss_1' al rfl) ?_
  refine lv_istore (lv' := [(6, .int (SSl [(j, 0, al)])), (5, .int 0), (0, .ref (b 0)), (1, .int u), (2, .int (nI j)), (3, .long (lN al))]) hx hb dX5_chanceFrom_6 hl (by decide) rfl (fun ls hl => ?_)
  refine lv_lconst (v := 0) hx hb dX5_chanceFrom_8 (by decide) ?_
  refine lv_lstore (lv' := [(7, .long 0), (6, .int (SSl [(j, 0, al)])), (5, .int 0), (0, .ref (b 0)), (1, .int u), (2, .int (nI j)), (3, .long (lN al))]) hx hb dX5_chanceFrom_9 hl (by decide) rfl (fun ls hl => ?_)
  refine lv_aload_n hx hb dX5_chanceFrom_11 rfl (lv_at hl 3 rfl) ?_
  refine va_get (D := D) (ci := 5) (v := .ref (b 4)) (C := RX5) (T := TX5) (N := 30) hx hb hts hin5 hown hK.1 hP 0 rfl rfl 16 (by decide) (hts _ (List.mem_of_getElem? (i := 1) rfl)) (fun _ h9 => h9) rfl dX5_chanceFrom_12 ?_
  refine lv_iconst (v := 0) hx hb dX5_chanceFrom_15 (by decide) ?_
  refine lv_iload_n hx hb dX5_chanceFrom_16 rfl (lv_at hl 5 rfl) ?_
  refine k_iast hx hb hK hP hD hS 1 0 rfl rfl (j := 0) (show ¬ ((0 : Int32) < 0 ∨ 17 ≤ (0 : Int32).toNatClampNeg) by decide) rfl dX5_chanceFrom_17 (fun H locs hP hD hS => ?_)
  have hP : va_P D vwCl [(b 0, .inr (5, [.int fa, .int (nI h), .int (nI w), .int pc, .int br, .ref (b 1), .ref (b 2), .int ra, .int q1, .int q2, .int q3, .int q4, .ref (b 3), .int fw, .int ea, .int sn, .ref (b 4), .ref (b 5), .ref (b 6), .int mo, .int (nI rc), .ref (b 7), .ref (b 8), .ref (b 9), .ref (b 10), .ref (b 11), .ref (b 12), .ref (b 13), .ref (b 14), .int tr])), (b 4, .inl (cI, 17, .inl (upd pl 0 (nI j)))), (b 5, .inl (cI, 17, .inl nx)), (b 10, .inl (cJ, 17, .inr (.inl ch)))] H := hP
  have hD : va_D A [(b 0, .inr (5, [.int fa, .int (nI h), .int (nI w), .int pc, .int br, .ref (b 1), .ref (b 2), .int ra, .int q1, .int q2, .int q3, .int q4, .ref (b 3), .int fw, .int ea, .int sn, .ref (b 4), .ref (b 5), .ref (b 6), .int mo, .int (nI rc), .ref (b 7), .ref (b 8), .ref (b 9), .ref (b 10), .ref (b 11), .ref (b 12), .ref (b 13), .ref (b 14), .int tr])), (b 4, .inl (cI, 17, .inl (upd pl 0 (nI j)))), (b 5, .inl (cI, 17, .inl nx)), (b 10, .inl (cJ, 17, .inr (.inl ch)))] := hD
  refine lv_aload_n hx hb dX5_chanceFrom_18 rfl (lv_at hl 3 rfl) ?_
  refine va_get (D := D) (ci := 5) (v := .ref (b 5)) (C := RX5) (T := TX5) (N := 30) hx hb hts hin5 hown hK.1 hP 0 rfl rfl 17 (by decide) (hts _ (List.mem_of_getElem? (i := 2) rfl)) (fun _ h9 => h9) rfl dX5_chanceFrom_19 ?_
  refine lv_iconst (v := 0) hx hb dX5_chanceFrom_22 (by decide) ?_
  refine lv_iconst (v := 0) hx hb dX5_chanceFrom_23 (by decide) ?_
  refine k_iast hx hb hK hP hD hS 2 0 rfl rfl (j := 0) (show ¬ ((0 : Int32) < 0 ∨ 17 ≤ (0 : Int32).toNatClampNeg) by decide) rfl dX5_chanceFrom_24 (fun H locs hP hD hS => ?_)
  have hP : va_P D vwCl [(b 0, .inr (5, [.int fa, .int (nI h), .int (nI w), .int pc, .int br, .ref (b 1), .ref (b 2), .int ra, .int q1, .int q2, .int q3, .int q4, .ref (b 3), .int fw, .int ea, .int sn, .ref (b 4), .ref (b 5), .ref (b 6), .int mo, .int (nI rc), .ref (b 7), .ref (b 8), .ref (b 9), .ref (b 10), .ref (b 11), .ref (b 12), .ref (b 13), .ref (b 14), .int tr])), (b 4, .inl (cI, 17, .inl (upd pl 0 (nI j)))), (b 5, .inl (cI, 17, .inl (upd nx 0 0))), (b 10, .inl (cJ, 17, .inr (.inl ch)))] H := hP
  have hD : va_D A [(b 0, .inr (5, [.int fa, .int (nI h), .int (nI w), .int pc, .int br, .ref (b 1), .ref (b 2), .int ra, .int q1, .int q2, .int q3, .int q4, .ref (b 3), .int fw, .int ea, .int sn, .ref (b 4), .ref (b 5), .ref (b 6), .int mo, .int (nI rc), .ref (b 7), .ref (b 8), .ref (b 9), .ref (b 10), .ref (b 11), .ref (b 12), .ref (b 13), .ref (b 14), .int tr])), (b 4, .inl (cI, 17, .inl (upd pl 0 (nI j)))), (b 5, .inl (cI, 17, .inl (upd nx 0 0))), (b 10, .inl (cJ, 17, .inr (.inl ch)))] := hD
  refine lv_aload_n hx hb dX5_chanceFrom_25 rfl (lv_at hl 3 rfl) ?_
  refine va_get (D := D) (ci := 5) (v := .ref (b 10)) (C := RX5) (T := TX5) (N := 30) hx hb hts hin5 hown hK.1 hP 0 rfl rfl 24 (by decide) (hts _ (List.mem_of_getElem? (i := 3) rfl)) (fun _ h9 => h9) rfl dX5_chanceFrom_26 ?_
  refine lv_iconst (v := 0) hx hb dX5_chanceFrom_29 (by decide) ?_
  refine lv_lload_n hx hb dX5_chanceFrom_30 rfl (lv_at hl 6 rfl) ?_
  refine k_last hx hb hK hP hD hS 3 1 rfl rfl (j := 0) (show ¬ ((0 : Int32) < 0 ∨ 17 ≤ (0 : Int32).toNatClampNeg) by decide) rfl dX5_chanceFrom_31 (fun H locs hP hD hS => ?_)
  have hP : va_P D vwCl [(b 0, .inr (5, [.int fa, .int (nI h), .int (nI w), .int pc, .int br, .ref (b 1), .ref (b 2), .int ra, .int q1, .int q2, .int q3, .int q4, .ref (b 3), .int fw, .int ea, .int sn, .ref (b 4), .ref (b 5), .ref (b 6), .int mo, .int (nI rc), .ref (b 7), .ref (b 8), .ref (b 9), .ref (b 10), .ref (b 11), .ref (b 12), .ref (b 13), .ref (b 14), .int tr])), (b 4, .inl (cI, 17, .inl (upd pl 0 (nI j)))), (b 5, .inl (cI, 17, .inl (upd nx 0 0))), (b 10, .inl (cJ, 17, .inr (.inl (vp_updL ch 0 (lN al)))))] H := hP
  have hD : va_D A [(b 0, .inr (5, [.int fa, .int (nI h), .int (nI w), .int pc, .int br, .ref (b 1), .ref (b 2), .int ra, .int q1, .int q2, .int q3, .int q4, .ref (b 3), .int fw, .int ea, .int sn, .ref (b 4), .ref (b 5), .ref (b 6), .int mo, .int (nI rc), .ref (b 7), .ref (b 8), .ref (b 9), .ref (b 10), .ref (b 11), .ref (b 12), .ref (b 13), .ref (b 14), .int tr])), (b 4, .inl (cI, 17, .inl (upd pl 0 (nI j)))), (b 5, .inl (cI, 17, .inl (upd nx 0 0))), (b 10, .inl (cJ, 17, .inr (.inl (vp_updL ch 0 (lN al)))))] := hD
  have key_2 : ∀ (n_1 : Nat) (st : List Fm) (sm : Nat) (pl2 : Nat → Int32) (nx2 : Nat → Int32) (ch2 : Nat → Int64), (RPl pl2 nx2 st) → (VSl (h * w) u st) → (RCl ch2 st) → (SBl al st) → (sm + chO h w u st = odF h w 15 j (wo u (nI j)) al) → mrF st < n_1 → ∀ (H : Heap) (locs : List Loc), va_P D vwCl [(b 0, .inr (5, [.int fa, .int (nI h), .int (nI w), .int pc, .int br, .ref (b 1), .ref (b 2), .int ra, .int q1, .int q2, .int q3, .int q4, .ref (b 3), .int fw, .int ea, .int sn, .ref (b 4), .ref (b 5), .ref (b 6), .int mo, .int (nI rc), .ref (b 7), .ref (b 8), .ref (b 9), .ref (b 10), .ref (b 11), .ref (b 12), .ref (b 13), .ref (b 14), .int tr])), (b 4, .inl (cI, 17, .inl pl2)), (b 5, .inl (cI, 17, .inl nx2)), (b 10, .inl (cJ, 17, .inr (.inl ch2)))] H → va_D A [(b 0, .inr (5, [.int fa, .int (nI h), .int (nI w), .int pc, .int br, .ref (b 1), .ref (b 2), .int ra, .int q1, .int q2, .int q3, .int q4, .ref (b 3), .int fw, .int ea, .int sn, .ref (b 4), .ref (b 5), .ref (b 6), .int mo, .int (nI rc), .ref (b 7), .ref (b 8), .ref (b 9), .ref (b 10), .ref (b 11), .ref (b 12), .ref (b 13), .ref (b 14), .int tr])), (b 4, .inl (cI, 17, .inl pl2)), (b 5, .inl (cI, 17, .inl nx2)), (b 10, .inl (cJ, 17, .inr (.inl ch2)))] → va_S A S_.heap H locs → ∀ ls : Array Slot, lv_has ls 12 [(0, .ref (b 0)), (1, .int u), (5, .int (dpF st)), (6, .int (SSl st)), (7, .long (lN sm))] → W P_ l E_ ({ frames := 3, cells := 0, slots := 0, locals := 74 } : Room) S_ M_ (([.ref (b 0), .int u, .int (nI j), .long (lN al)] : List Value).toArray) B_ T_ K_ H locs 0 0 (MQ B_ ((QL D (fun (r : Int64) (w1 : va_W) => ∃ (pl3 : Nat → Int32) (nx3 : Nat → Int32) (ch3 : Nat → Int64), r = lN (odF h w 15 j (wo u (nI j)) al) ∧ w1 = [(b 0, .inr (5, [.int fa, .int (nI h), .int (nI w), .int pc, .int br, .ref (b 1), .ref (b 2), .int ra, .int q1, .int q2, .int q3, .int q4, .ref (b 3), .int fw, .int ea, .int sn, .ref (b 4), .ref (b 5), .ref (b 6), .int mo, .int (nI rc), .ref (b 7), .ref (b 8), .ref (b 9), .ref (b 10), .ref (b 11), .ref (b 12), .ref (b 13), .ref (b 14), .int tr])), (b 4, .inl (cI, 17, .inl pl3)), (b 5, .inl (cI, 17, .inl nx3)), (b 10, .inl (cJ, 17, .inr (.inl ch3)))])) A) (([.ref (b 0), .int u, .int (nI j), .long (lN al)] : List Value).toArray) S_ 0 0 A) (F0 M_ 32 ls []) := by
    intro n_1
    induction n_1 with
    | zero =>
      intro st sm pl2 nx2 ch2 hrp hvs hcs hsb hch hmu_n_1
      exact absurd hmu_n_1 (Nat.not_lt_zero _)
    | succ n_1 ih_3 =>
      intro st sm pl2 nx2 ch2 hrp hvs hcs hsb hch hmu_n_1 H locs hP hD hS ls hl
      have hl : lv_has ls 12 [(0, .ref (b 0)), (1, .int u), (5, .int (dpF st)), (6, .int (SSl st)), (7, .long (lN sm))] := hl
      have hP : va_P D vwCl [(b 0, .inr (5, [.int fa, .int (nI h), .int (nI w), .int pc, .int br, .ref (b 1), .ref (b 2), .int ra, .int q1, .int q2, .int q3, .int q4, .ref (b 3), .int fw, .int ea, .int sn, .ref (b 4), .ref (b 5), .ref (b 6), .int mo, .int (nI rc), .ref (b 7), .ref (b 8), .ref (b 9), .ref (b 10), .ref (b 11), .ref (b 12), .ref (b 13), .ref (b 14), .int tr])), (b 4, .inl (cI, 17, .inl pl2)), (b 5, .inl (cI, 17, .inl nx2)), (b 10, .inl (cJ, 17, .inr (.inl ch2)))] H := hP
      have hD : va_D A [(b 0, .inr (5, [.int fa, .int (nI h), .int (nI w), .int pc, .int br, .ref (b 1), .ref (b 2), .int ra, .int q1, .int q2, .int q3, .int q4, .ref (b 3), .int fw, .int ea, .int sn, .ref (b 4), .ref (b 5), .ref (b 6), .int mo, .int (nI rc), .ref (b 7), .ref (b 8), .ref (b 9), .ref (b 10), .ref (b 11), .ref (b 12), .ref (b 13), .ref (b 14), .int tr])), (b 4, .inl (cI, 17, .inl pl2)), (b 5, .inl (cI, 17, .inl nx2)), (b 10, .inl (cJ, 17, .inr (.inl ch2)))] := hD
      refine lv_iload hx hb dX5_chanceFrom_32 (lv_at hl 2 rfl) ?_
      refine lv_if_lt (tgt := 208) hx hb dX5_chanceFrom_34 (by decide) (fun c_4 => ?_) (fun c_4 => ?_)
      · have hst := dp_nil (VS_len hn hvs) c_4
        subst hst
        have hE : sm = odF h w 15 j (wo u (nI j)) al := by rw [← hch]; rfl
        refine lv_lload hx hb dX5_chanceFrom_208 (lv_at hl 4 rfl) ?_
        refine ml_ret hx hb hr hlk hP hD hS dX5_chanceFrom_210 ?_
        exact ⟨_, _, _, by rw [hE], rfl⟩
      · rcases st with _ | ⟨⟨p, t, s⟩, r⟩
        · exact absurd (show dpF [] < 0 by decide) c_4
        have hl : lv_has ls 12 [(0, .ref (b 0)), (1, .int u), (5, .int (nI r.length)), (6, .int (SSl ((p, t, s) :: r))), (7, .long (lN sm))] := hl
        have hl16 : r.length ≤ 15 := by have z : r.length + 1 ≤ 16 := VS_len hn hvs; omega
        obtain ⟨hq1, hq2, hq3⟩ := hrp
        have hpn := hvs.1
        have ht4 := hvs.2.1
        refine lv_aload_n hx hb dX5_chanceFrom_37 rfl (lv_at hl 0 rfl) ?_
        refine va_get (D := D) (ci := 5) (v := .ref (b 5)) (C := RX5) (T := TX5) (N := 30) hx hb hts hin5 hown hK.1 hP 0 rfl rfl 17 (by decide) (hts _ (List.mem_of_getElem? (i := 2) rfl)) (fun _ h9 => h9) rfl dX5_chanceFrom_38 ?_
        refine lv_iload hx hb dX5_chanceFrom_41 (lv_at hl 2 rfl) ?_
        refine k_iald hx hb hK hP 2 0 rfl rfl (j := r.length) (vp_in_nI (show r.length < 17 by omega) (by decide)) (nI_clamp (by omega)) dX5_chanceFrom_43 ?_
        refine k_top (y := (nI t)) hq2 ?_
        refine lv_istore (lv' := [(9, .int (nI t)), (0, .ref (b 0)), (1, .int u), (5, .int (nI r.length)), (6, .int (SSl ((p, t, s) :: r))), (7, .long (lN sm))]) hx hb dX5_chanceFrom_44 hl (by decide) rfl (fun ls hl => ?_)
        refine lv_iload hx hb dX5_chanceFrom_46 (lv_at hl 0 rfl) ?_
        refine lv_iconst (v := 3) hx hb dX5_chanceFrom_48 (by decide) ?_
        refine lv_icmp_le (tgt := 96) hx hb dX5_chanceFrom_49 (by decide) (fun c_5 => ?_) (fun c_5 => ?_)
        · have c_5 : t ≤ 3 := (nI_leI (a := t) (b := 3) (by omega) (by omega)).mp c_5
          refine lv_aload_n hx hb dX5_chanceFrom_96 rfl (lv_at hl 1 rfl) ?_
          refine va_get (D := D) (ci := 5) (v := .ref (b 5)) (C := RX5) (T := TX5) (N := 30) hx hb hts hin5 hown hK.1 hP 0 rfl rfl 17 (by decide) (hts _ (List.mem_of_getElem? (i := 2) rfl)) (fun _ h9 => h9) rfl dX5_chanceFrom_97 ?_
          refine lv_iload hx hb dX5_chanceFrom_100 (lv_at hl 3 rfl) ?_
          refine lv_dup2_11 hx hb dX5_chanceFrom_102 rfl rfl ?_
          refine k_iald hx hb hK hP 2 0 rfl rfl (j := r.length) (vp_in_nI (show r.length < 17 by omega) (by decide)) (nI_clamp (by omega)) dX5_chanceFrom_103 ?_
          refine k_top (y := (nI t)) hq2 ?_
          refine lv_iconst (v := 1) hx hb dX5_chanceFrom_104 (by decide) ?_
          refine lv_iadd hx hb dX5_chanceFrom_105 ?_
          refine k_top (y := (nI (t + 1))) (nI_add _ 1) ?_
          refine k_iast hx hb hK hP hD hS 2 0 rfl rfl (j := r.length) (vp_in_nI (show r.length < 17 by omega) (by decide)) (nI_clamp (by omega)) dX5_chanceFrom_106 (fun H locs hP hD hS => ?_)
          have hP : va_P D vwCl [(b 0, .inr (5, [.int fa, .int (nI h), .int (nI w), .int pc, .int br, .ref (b 1), .ref (b 2), .int ra, .int q1, .int q2, .int q3, .int q4, .ref (b 3), .int fw, .int ea, .int sn, .ref (b 4), .ref (b 5), .ref (b 6), .int mo, .int (nI rc), .ref (b 7), .ref (b 8), .ref (b 9), .ref (b 10), .ref (b 11), .ref (b 12), .ref (b 13), .ref (b 14), .int tr])), (b 4, .inl (cI, 17, .inl pl2)), (b 5, .inl (cI, 17, .inl (upd nx2 r.length (nI (t + 1))))), (b 10, .inl (cJ, 17, .inr (.inl ch2)))] H := hP
          have hD : va_D A [(b 0, .inr (5, [.int fa, .int (nI h), .int (nI w), .int pc, .int br, .ref (b 1), .ref (b 2), .int ra, .int q1, .int q2, .int q3, .int q4, .ref (b 3), .int fw, .int ea, .int sn, .ref (b 4), .ref (b 5), .ref (b 6), .int mo, .int (nI rc), .ref (b 7), .ref (b 8), .ref (b 9), .ref (b 10), .ref (b 11), .ref (b 12), .ref (b 13), .ref (b 14), .int tr])), (b 4, .inl (cI, 17, .inl pl2)), (b 5, .inl (cI, 17, .inl (upd nx2 r.length (nI (t + 1))))), (b 10, .inl (cJ, 17, .inr (.inl ch2)))] := hD
          refine lv_aload_n hx hb dX5_chanceFrom_107 rfl (lv_at hl 1 rfl) ?_
          refine lv_aload_n hx hb dX5_chanceFrom_108 rfl (lv_at hl 1 rfl) ?_
          refine va_get (D := D) (ci := 5) (v := .ref (b 4)) (C := RX5) (T := TX5) (N := 30) hx hb hts hin5 hown hK.1 hP 0 rfl rfl 16 (by decide) (hts _ (List.mem_of_getElem? (i := 1) rfl)) (fun _ h9 => h9) rfl dX5_chanceFrom_109 ?_
          refine lv_iload hx hb dX5_chanceFrom_112 (lv_at hl 3 rfl) ?_
          refine k_iald hx hb hK hP 1 0 rfl rfl (j := r.length) (vp_in_nI (show r.length < 17 by omega) (by decide)) (nI_clamp (by omega)) dX5_chanceFrom_114 ?_
          refine k_top (y := (nI p)) hq1 ?_
          refine lv_iload hx hb dX5_chanceFrom_115 (lv_at hl 0 rfl) ?_
          refine k_ri (run_RV (As := [.int (nI p), .int (nI t)]) (rest := []) ⟨hx, hb, hml, hown, hts⟩ (c_X5_beside l D cI cJ cO b fa h w pc br ra q1 q2 q3 q4 fw ea sn mo rc tr p t hn hpn (by omega)) (cwV 2 hts gX5_chanceFrom_X5_beside rfl rfl rfl (by decide +kernel) ⟨Nat.le_of_ble_eq_true rfl, Nat.le_of_ble_eq_true rfl⟩) hP hK [0] rfl rfl rfl rfl rfl hl.1 rfl (Nat.le_of_ble_eq_true rfl) dX5_chanceFrom_117 ⟨Nat.le_refl _, Nat.le_refl _⟩) (fun r_6 q_7 => ?_)
          obtain rfl := q_7
          refine lv_istore (lv' := [(10, .int (nbF h w p t)), (9, .int (nI t)), (0, .ref (b 0)), (1, .int u), (5, .int (nI r.length)), (6, .int (SSl ((p, t, s) :: r))), (7, .long (lN sm))]) hx hb dX5_chanceFrom_120 hl (by decide) rfl (fun ls hl => ?_)
          refine lv_iload_n hx hb dX5_chanceFrom_122 rfl (lv_at hl 3 rfl) ?_
          refine lv_iload hx hb dX5_chanceFrom_123 (lv_at hl 5 rfl) ?_
          refine lv_iconst (v := (-1)) hx hb dX5_chanceFrom_125 (by decide) ?_
          refine lv_ixor hx hb dX5_chanceFrom_126 ?_
          refine lv_iand hx hb dX5_chanceFrom_127 ?_
          refine lv_istore (lv' := [(11, .int (u &&& ((SSl ((p, t, s) :: r)) ^^^ (-1)))), (10, .int (nbF h w p t)), (9, .int (nI t)), (0, .ref (b 0)), (1, .int u), (5, .int (nI r.length)), (6, .int (SSl ((p, t, s) :: r))), (7, .long (lN sm))]) hx hb dX5_chanceFrom_128 hl (by decide) rfl (fun ls hl => ?_)
          refine lv_iload hx hb dX5_chanceFrom_130 (lv_at hl 1 rfl) ?_
          refine lv_if_lt (tgt := 205) hx hb dX5_chanceFrom_132 (by decide) (fun c_8 => ?_) (fun c_8 => ?_)
          · refine lv_goto (tgt := 32) hx hb dX5_chanceFrom_205 (by decide) ?_
            exact ih_3 ((p, t + 1, s) :: r) sm pl2 (upd nx2 r.length (nI (t + 1))) ch2 (show RPl pl2 (upd nx2 r.length (nI (t + 1))) ((p, t + 1, s) :: r) from ⟨hq1, up_eq _ _ _, RP_nx _ hq3 (Nat.le_refl _)⟩) (VS_next hvs (by omega)) hcs hsb (co_skip (by omega) (nb_lt c_8) hch) (by have z := mr_skip (p := p) (t := t) (s := s) (r := r) (by omega); omega) _ _ hP hD hS ls (lv_sub hl [3, 4, 5, 6, 7] rfl)
          · refine lv_iload hx hb dX5_chanceFrom_135 (lv_at hl 0 rfl) ?_
            refine lv_iload hx hb dX5_chanceFrom_137 (lv_at hl 1 rfl) ?_
            refine k_ri (run_RS (As := [.int (u &&& ((SSl ((p, t, s) :: r)) ^^^ (-1))), .int (nbF h w p t)]) (rest := []) ⟨hx, hb, hml, hown, hts⟩ (c_X5_isIn l D cI cJ cO (u &&& ((SSl ((p, t, s) :: r)) ^^^ (-1))) (nbF h w p t) (inN_mono (nb_0le hpn hn (by assumption)) (by omega))) (va_cwS 2 hts gX5_chanceFrom_X5_isIn rfl rfl rfl (by decide +kernel) ⟨Nat.le_of_ble_eq_true rfl, Nat.le_of_ble_eq_true rfl⟩) hP hK [] rfl rfl hl.1 rfl (Nat.le_of_ble_eq_true rfl) dX5_chanceFrom_139 ⟨Nat.le_refl _, Nat.le_refl _⟩) (fun r_9 q_10 => ?_)
            obtain rfl := q_10
            refine lv_if_eq (tgt := 205) hx hb dX5_chanceFrom_142 (by decide) (fun c_11 => ?_) (fun c_11 => ?_)
            · have c_11 := b2_f c_11
              refine lv_goto (tgt := 32) hx hb dX5_chanceFrom_205 (by decide) ?_
              exact ih_3 ((p, t + 1, s) :: r) sm pl2 (upd nx2 r.length (nI (t + 1))) ch2 (show RPl pl2 (upd nx2 r.length (nI (t + 1))) ((p, t + 1, s) :: r) from ⟨hq1, up_eq _ _ _, RP_nx _ hq3 (Nat.le_refl _)⟩) (VS_next hvs (by omega)) hcs hsb (co_skip (by omega) c_11 hch) (by have z := mr_skip (p := p) (t := t) (s := s) (r := r) (by omega); omega) _ _ hP hD hS ls (lv_sub hl [3, 4, 5, 6, 7] rfl)
            · have c_11 := b2_t c_11
              have hTi := c_11
              have hTn : inN (nbF h w p t) (h * w) := nb_0le hpn hn (by assumption)
              have hTe := hTn.eq
              have h14 := VS_14 (s' := 0) hn hvs (show t + 1 ≤ 4 by omega) hTn hTi
              have hcp := chN_pos hTi 4 (by omega)
              have hc4 := chN_le h w p (u &&& (SSl ((p, t, s) :: r) ^^^ (-1))) 4
              have hsa := hsb.1
              refine lv_aload_n hx hb dX5_chanceFrom_145 rfl (lv_at hl 3 rfl) ?_
              refine va_get (D := D) (ci := 5) (v := .ref (b 10)) (C := RX5) (T := TX5) (N := 30) hx hb hts hin5 hown hK.1 hP 0 rfl rfl 24 (by decide) (hts _ (List.mem_of_getElem? (i := 3) rfl)) (fun _ h9 => h9) rfl dX5_chanceFrom_146 ?_
              refine lv_iload hx hb dX5_chanceFrom_149 (lv_at hl 5 rfl) ?_
              refine lv_iconst (v := 1) hx hb dX5_chanceFrom_151 (by decide) ?_
              refine lv_iadd hx hb dX5_chanceFrom_152 ?_
              refine k_top (y := (nI (r.length + 1))) (nI_add _ 1) ?_
              refine lv_aload_n hx hb dX5_chanceFrom_153 rfl (lv_at hl 3 rfl) ?_
              refine va_get (D := D) (ci := 5) (v := .ref (b 10)) (C := RX5) (T := TX5) (N := 30) hx hb hts hin5 hown hK.1 hP 0 rfl rfl 24 (by decide) (hts _ (List.mem_of_getElem? (i := 3) rfl)) (fun _ h9 => h9) rfl dX5_chanceFrom_154 ?_
              refine lv_iload hx hb dX5_chanceFrom_157 (lv_at hl 5 rfl) ?_
              refine k_lald hx hb hK hP 3 1 rfl rfl (j := r.length) (vp_in_nI (show r.length < 17 by omega) (by decide)) (nI_clamp (by omega)) dX5_chanceFrom_159 ?_
              refine k_topl (y := (lN s)) hcs.1 ?_
              refine lv_aload_n hx hb dX5_chanceFrom_160 rfl (lv_at hl 3 rfl) ?_
              refine lv_iload hx hb dX5_chanceFrom_161 (lv_at hl 0 rfl) ?_
              refine lv_aload_n hx hb dX5_chanceFrom_163 rfl (lv_at hl 3 rfl) ?_
              refine va_get (D := D) (ci := 5) (v := .ref (b 4)) (C := RX5) (T := TX5) (N := 30) hx hb hts hin5 hown hK.1 hP 0 rfl rfl 16 (by decide) (hts _ (List.mem_of_getElem? (i := 1) rfl)) (fun _ h9 => h9) rfl dX5_chanceFrom_164 ?_
              refine lv_iload hx hb dX5_chanceFrom_167 (lv_at hl 5 rfl) ?_
              refine k_iald hx hb hK hP 1 0 rfl rfl (j := r.length) (vp_in_nI (show r.length < 17 by omega) (by decide)) (nI_clamp (by omega)) dX5_chanceFrom_169 ?_
              refine k_top (y := (nI p)) hq1 ?_
              refine k_ri (run_RV (As := [.int (u &&& ((SSl ((p, t, s) :: r)) ^^^ (-1))), .int (nI p)]) (rest := [.long (lN s), .int (nI (r.length + 1)), .ref (b 10)]) ⟨hx, hb, hml, hown, hts⟩ (c_X5_waysOn l D cI cJ cO b fa h w pc br ra q1 q2 q3 q4 fw ea sn mo rc tr (u &&& ((SSl ((p, t, s) :: r)) ^^^ (-1))) p hn hpn) (cwV 2 hts gX5_chanceFrom_X5_waysOn rfl rfl rfl (by decide +kernel) ⟨Nat.le_of_ble_eq_true rfl, Nat.le_of_ble_eq_true rfl⟩) hP hK [0] rfl rfl rfl rfl rfl hl.1 rfl (Nat.le_of_ble_eq_true rfl) dX5_chanceFrom_170 ⟨Nat.le_refl _, Nat.le_refl _⟩) (fun r_12 q_13 => ?_)
              obtain rfl := q_13
              refine lv_i2l (v := (nI (chN h w p (u &&& ((SSl ((p, t, s) :: r)) ^^^ (-1))) 4)).toInt64) hx hb dX5_chanceFrom_173 rfl ?_
              refine k_topl (y := (lN (chN h w p (u &&& (SSl ((p, t, s) :: r) ^^^ (-1))) 4))) (nI_l (by omega)) ?_
              refine lv_ldiv hx hb dX5_chanceFrom_174 (lN_ne (by omega) (by omega)) ?_
              refine k_topl (y := (lN (s / chN h w p (u &&& (SSl ((p, t, s) :: r) ^^^ (-1))) 4))) (pk_lDiv (by omega) (by omega) (by omega)) ?_
              refine k_last hx hb hK hP hD hS 3 1 rfl rfl (j := r.length + 1) (vp_in_nI (show r.length + 1 < 17 by omega) (by decide)) (nI_clamp (by omega)) dX5_chanceFrom_175 (fun H locs hP hD hS => ?_)
              have hP : va_P D vwCl [(b 0, .inr (5, [.int fa, .int (nI h), .int (nI w), .int pc, .int br, .ref (b 1), .ref (b 2), .int ra, .int q1, .int q2, .int q3, .int q4, .ref (b 3), .int fw, .int ea, .int sn, .ref (b 4), .ref (b 5), .ref (b 6), .int mo, .int (nI rc), .ref (b 7), .ref (b 8), .ref (b 9), .ref (b 10), .ref (b 11), .ref (b 12), .ref (b 13), .ref (b 14), .int tr])), (b 4, .inl (cI, 17, .inl pl2)), (b 5, .inl (cI, 17, .inl (upd nx2 r.length (nI (t + 1))))), (b 10, .inl (cJ, 17, .inr (.inl (vp_updL ch2 (r.length + 1) (lN (s / chN h w p (u &&& (SSl ((p, t, s) :: r) ^^^ (-1))) 4))))))] H := hP
              have hD : va_D A [(b 0, .inr (5, [.int fa, .int (nI h), .int (nI w), .int pc, .int br, .ref (b 1), .ref (b 2), .int ra, .int q1, .int q2, .int q3, .int q4, .ref (b 3), .int fw, .int ea, .int sn, .ref (b 4), .ref (b 5), .ref (b 6), .int mo, .int (nI rc), .ref (b 7), .ref (b 8), .ref (b 9), .ref (b 10), .ref (b 11), .ref (b 12), .ref (b 13), .ref (b 14), .int tr])), (b 4, .inl (cI, 17, .inl pl2)), (b 5, .inl (cI, 17, .inl (upd nx2 r.length (nI (t + 1))))), (b 10, .inl (cJ, 17, .inr (.inl (vp_updL ch2 (r.length + 1) (lN (s / chN h w p (u &&& (SSl ((p, t, s) :: r) ^^^ (-1))) 4))))))] := hD
              refine lv_iinc (v := (nI (r.length + 1))) (lv' := [(5, .int (nI (r.length + 1))), (11, .int (u &&& ((SSl ((p, t, s) :: r)) ^^^ (-1)))), (10, .int (nbF h w p t)), (9, .int (nI t)), (0, .ref (b 0)), (1, .int u), (6, .int (SSl ((p, t, s) :: r))), (7, .long (lN sm))]) hx hb dX5_chanceFrom_176 hl (k := 5) rfl (nI_add _ 1) (by decide) rfl (fun ls hl => ?_)
              refine lv_iload hx hb dX5_chanceFrom_179 (lv_at hl 6 rfl) ?_
              refine lv_iconst (v := 1) hx hb dX5_chanceFrom_181 (by decide) ?_
              refine lv_iload hx hb dX5_chanceFrom_182 (lv_at hl 2 rfl) ?_
              refine lv_ishl hx hb dX5_chanceFrom_184 ?_
              refine lv_ior hx hb dX5_chanceFrom_185 ?_
              refine k_top (y := (SSl (((nbF h w p t).toNatClampNeg, 0, s / chN h w p (u &&& (SSl ((p, t, s) :: r) ^^^ (-1))) 4) :: (p, t + 1, s) :: r))) (ss_push hTe) ?_
              refine lv_istore (lv' := [(6, .int (SSl (((nbF h w p t).toNatClampNeg, 0, s / chN h w p (u &&& (SSl ((p, t, s) :: r) ^^^ (-1))) 4) :: (p, t + 1, s) :: r))), (5, .int (nI (r.length + 1))), (11, .int (u &&& ((SSl ((p, t, s) :: r)) ^^^ (-1)))), (10, .int (nbF h w p t)), (9, .int (nI t)), (0, .ref (b 0)), (1, .int u), (7, .long (lN sm))]) hx hb dX5_chanceFrom_186 hl (by decide) rfl (fun ls hl => ?_)
              refine lv_aload_n hx hb dX5_chanceFrom_188 rfl (lv_at hl 5 rfl) ?_
              refine va_get (D := D) (ci := 5) (v := .ref (b 4)) (C := RX5) (T := TX5) (N := 30) hx hb hts hin5 hown hK.1 hP 0 rfl rfl 16 (by decide) (hts _ (List.mem_of_getElem? (i := 1) rfl)) (fun _ h9 => h9) rfl dX5_chanceFrom_189 ?_
              refine lv_iload hx hb dX5_chanceFrom_192 (lv_at hl 1 rfl) ?_
              refine lv_iload hx hb dX5_chanceFrom_194 (lv_at hl 3 rfl) ?_
              refine k_iast hx hb hK hP hD hS 1 0 rfl rfl (j := r.length + 1) (vp_in_nI (show r.length + 1 < 17 by omega) (by decide)) (nI_clamp (by omega)) dX5_chanceFrom_196 (fun H locs hP hD hS => ?_)
              have hP : va_P D vwCl [(b 0, .inr (5, [.int fa, .int (nI h), .int (nI w), .int pc, .int br, .ref (b 1), .ref (b 2), .int ra, .int q1, .int q2, .int q3, .int q4, .ref (b 3), .int fw, .int ea, .int sn, .ref (b 4), .ref (b 5), .ref (b 6), .int mo, .int (nI rc), .ref (b 7), .ref (b 8), .ref (b 9), .ref (b 10), .ref (b 11), .ref (b 12), .ref (b 13), .ref (b 14), .int tr])), (b 4, .inl (cI, 17, .inl (upd pl2 (r.length + 1) (nbF h w p t)))), (b 5, .inl (cI, 17, .inl (upd nx2 r.length (nI (t + 1))))), (b 10, .inl (cJ, 17, .inr (.inl (vp_updL ch2 (r.length + 1) (lN (s / chN h w p (u &&& (SSl ((p, t, s) :: r) ^^^ (-1))) 4))))))] H := hP
              have hD : va_D A [(b 0, .inr (5, [.int fa, .int (nI h), .int (nI w), .int pc, .int br, .ref (b 1), .ref (b 2), .int ra, .int q1, .int q2, .int q3, .int q4, .ref (b 3), .int fw, .int ea, .int sn, .ref (b 4), .ref (b 5), .ref (b 6), .int mo, .int (nI rc), .ref (b 7), .ref (b 8), .ref (b 9), .ref (b 10), .ref (b 11), .ref (b 12), .ref (b 13), .ref (b 14), .int tr])), (b 4, .inl (cI, 17, .inl (upd pl2 (r.length + 1) (nbF h w p t)))), (b 5, .inl (cI, 17, .inl (upd nx2 r.length (nI (t + 1))))), (b 10, .inl (cJ, 17, .inr (.inl (vp_updL ch2 (r.length + 1) (lN (s / chN h w p (u &&& (SSl ((p, t, s) :: r) ^^^ (-1))) 4))))))] := hD
              refine lv_aload_n hx hb dX5_chanceFrom_197 rfl (lv_at hl 5 rfl) ?_
              refine va_get (D := D) (ci := 5) (v := .ref (b 5)) (C := RX5) (T := TX5) (N := 30) hx hb hts hin5 hown hK.1 hP 0 rfl rfl 17 (by decide) (hts _ (List.mem_of_getElem? (i := 2) rfl)) (fun _ h9 => h9) rfl dX5_chanceFrom_198 ?_
              refine lv_iload hx hb dX5_chanceFrom_201 (lv_at hl 1 rfl) ?_
              refine lv_iconst (v := 0) hx hb dX5_chanceFrom_203 (by decide) ?_
              refine k_iast hx hb hK hP hD hS 2 0 rfl rfl (j := r.length + 1) (vp_in_nI (show r.length + 1 < 17 by omega) (by decide)) (nI_clamp (by omega)) dX5_chanceFrom_204 (fun H locs hP hD hS => ?_)
              have hP : va_P D vwCl [(b 0, .inr (5, [.int fa, .int (nI h), .int (nI w), .int pc, .int br, .ref (b 1), .ref (b 2), .int ra, .int q1, .int q2, .int q3, .int q4, .ref (b 3), .int fw, .int ea, .int sn, .ref (b 4), .ref (b 5), .ref (b 6), .int mo, .int (nI rc), .ref (b 7), .ref (b 8), .ref (b 9), .ref (b 10), .ref (b 11), .ref (b 12), .ref (b 13), .ref (b 14), .int tr])), (b 4, .inl (cI, 17, .inl (upd pl2 (r.length + 1) (nbF h w p t)))), (b 5, .inl (cI, 17, .inl (upd (upd nx2 r.length (nI (t + 1))) (r.length + 1) 0))), (b 10, .inl (cJ, 17, .inr (.inl (vp_updL ch2 (r.length + 1) (lN (s / chN h w p (u &&& (SSl ((p, t, s) :: r) ^^^ (-1))) 4))))))] H := hP
              have hD : va_D A [(b 0, .inr (5, [.int fa, .int (nI h), .int (nI w), .int pc, .int br, .ref (b 1), .ref (b 2), .int ra, .int q1, .int q2, .int q3, .int q4, .ref (b 3), .int fw, .int ea, .int sn, .ref (b 4), .ref (b 5), .ref (b 6), .int mo, .int (nI rc), .ref (b 7), .ref (b 8), .ref (b 9), .ref (b 10), .ref (b 11), .ref (b 12), .ref (b 13), .ref (b 14), .int tr])), (b 4, .inl (cI, 17, .inl (upd pl2 (r.length + 1) (nbF h w p t)))), (b 5, .inl (cI, 17, .inl (upd (upd nx2 r.length (nI (t + 1))) (r.length + 1) 0))), (b 10, .inl (cJ, 17, .inr (.inl (vp_updL ch2 (r.length + 1) (lN (s / chN h w p (u &&& (SSl ((p, t, s) :: r) ^^^ (-1))) 4))))))] := hD
              refine lv_goto (tgt := 32) hx hb dX5_chanceFrom_205 (by decide) ?_
              exact ih_3 (((nbF h w p t).toNatClampNeg, 0, s / chN h w p (u &&& (SSl ((p, t, s) :: r) ^^^ (-1))) 4) :: (p, t + 1, s) :: r) sm (upd pl2 (r.length + 1) (nbF h w p t)) (upd (upd nx2 r.length (nI (t + 1))) (r.length + 1) 0) (vp_updL ch2 (r.length + 1) (lN (s / chN h w p (u &&& (SSl ((p, t, s) :: r) ^^^ (-1))) 4))) ⟨(up_eq _ _ _).trans hTe, up_eq _ _ _, (RP_nx 0 (RP_pl (nbF h w p t) (show RPl pl2 (upd nx2 r.length (nI (t + 1))) ((p, t + 1, s) :: r) from ⟨hq1, up_eq _ _ _, RP_nx _ hq3 (Nat.le_refl _)⟩) (Nat.le_refl _)) (Nat.le_refl _))⟩ (VS_push hn hvs (by omega) hTn hTi) ⟨upL_eq _ _ _, RC_up _ (show RCl ch2 ((p, t + 1, s) :: r) from hcs) (Nat.le_refl _)⟩ ⟨Nat.le_trans (Nat.div_le_self _ _) hsb.1, hsb⟩ (co_push h14 (by omega) hTe hTi hch) (by have z := mr_push (p := p) (t := t) (s := s) (q := (nbF h w p t).toNatClampNeg) (s' := s / chN h w p (u &&& (SSl ((p, t, s) :: r) ^^^ (-1))) 4) (r := r) (by omega) h14; omega) _ _ hP hD hS ls (lv_sub hl [5, 6, 1, 0, 7] rfl)
        · have c_5 : 3 < t := Nat.lt_of_not_le (fun z => c_5 ((nI_leI (a := t) (b := 3) (by omega) (by omega)).mpr z))
          obtain rfl : t = 4 := by omega
          refine lv_lload hx hb dX5_chanceFrom_52 (lv_at hl 5 rfl) ?_
          refine lv_iload hx hb dX5_chanceFrom_54 (lv_at hl 4 rfl) ?_
          refine lv_iload_n hx hb dX5_chanceFrom_56 rfl (lv_at hl 2 rfl) ?_
          refine lv_icmp_ne (tgt := 70) hx hb dX5_chanceFrom_57 (by decide) (fun c_14 => ?_) (fun c_14 => ?_)
          · refine lv_lconst (v := 0) hx hb dX5_chanceFrom_70 (by decide) ?_
            refine lv_ladd hx hb dX5_chanceFrom_71 ?_
            refine k_topl (y := (lN sm)) (Int64.add_zero _) ?_
            refine lv_lstore (lv' := [(7, .long (lN sm)), (9, .int (nI 4)), (0, .ref (b 0)), (1, .int u), (5, .int (nI r.length)), (6, .int (SSl ((p, 4, s) :: r)))]) hx hb dX5_chanceFrom_72 hl (by decide) rfl (fun ls hl => ?_)
            refine lv_iload hx hb dX5_chanceFrom_74 (lv_at hl 5 rfl) ?_
            refine lv_iconst (v := 1) hx hb dX5_chanceFrom_76 (by decide) ?_
            refine lv_aload_n hx hb dX5_chanceFrom_77 rfl (lv_at hl 2 rfl) ?_
            refine va_get (D := D) (ci := 5) (v := .ref (b 4)) (C := RX5) (T := TX5) (N := 30) hx hb hts hin5 hown hK.1 hP 0 rfl rfl 16 (by decide) (hts _ (List.mem_of_getElem? (i := 1) rfl)) (fun _ h9 => h9) rfl dX5_chanceFrom_78 ?_
            refine lv_iload hx hb dX5_chanceFrom_81 (lv_at hl 4 rfl) ?_
            refine k_iald hx hb hK hP 1 0 rfl rfl (j := r.length) (vp_in_nI (show r.length < 17 by omega) (by decide)) (nI_clamp (by omega)) dX5_chanceFrom_83 ?_
            refine k_top (y := (nI p)) hq1 ?_
            refine lv_ishl hx hb dX5_chanceFrom_84 ?_
            refine lv_iconst (v := (-1)) hx hb dX5_chanceFrom_85 (by decide) ?_
            refine lv_ixor hx hb dX5_chanceFrom_86 ?_
            refine lv_iand hx hb dX5_chanceFrom_87 ?_
            refine k_top (y := (SSl r)) (ss_pop (by omega) hvs.2.2.2.1) ?_
            refine lv_istore (lv' := [(6, .int (SSl r)), (7, .long (lN sm)), (9, .int (nI 4)), (0, .ref (b 0)), (1, .int u), (5, .int (nI r.length))]) hx hb dX5_chanceFrom_88 hl (by decide) rfl (fun ls hl => ?_)
            refine lv_iinc (v := (dpF r)) (lv' := [(5, .int (dpF r)), (6, .int (SSl r)), (7, .long (lN sm)), (9, .int (nI 4)), (0, .ref (b 0)), (1, .int u)]) hx hb dX5_chanceFrom_90 hl (k := 5) rfl (dp_pop r) (by decide) rfl (fun ls hl => ?_)
            refine lv_goto (tgt := 205) hx hb dX5_chanceFrom_93 (by decide) ?_
            refine lv_goto (tgt := 32) hx hb dX5_chanceFrom_205 (by decide) ?_
            exact ih_3 r sm pl2 nx2 ch2 hq3 hvs.2.2.2.2 hcs.2 hsb.2 (co_n (VS_sub hn hvs) c_14 hch) (by have z := mr_pop (p := p) (t := 4) (s := s) (r := r); omega) _ _ hP hD hS ls (lv_sub hl [4, 5, 0, 1, 2] rfl)
          · refine lv_aload_n hx hb dX5_chanceFrom_60 rfl (lv_at hl 1 rfl) ?_
            refine va_get (D := D) (ci := 5) (v := .ref (b 10)) (C := RX5) (T := TX5) (N := 30) hx hb hts hin5 hown hK.1 hP 0 rfl rfl 24 (by decide) (hts _ (List.mem_of_getElem? (i := 3) rfl)) (fun _ h9 => h9) rfl dX5_chanceFrom_61 ?_
            refine lv_iload hx hb dX5_chanceFrom_64 (lv_at hl 3 rfl) ?_
            refine k_lald hx hb hK hP 3 1 rfl rfl (j := r.length) (vp_in_nI (show r.length < 17 by omega) (by decide)) (nI_clamp (by omega)) dX5_chanceFrom_66 ?_
            refine k_topl (y := (lN s)) hcs.1 ?_
            refine lv_goto (tgt := 71) hx hb dX5_chanceFrom_67 (by decide) ?_
            refine lv_ladd hx hb dX5_chanceFrom_71 ?_
            refine k_topl (y := (lN (sm + s))) (lN_add _ _) ?_
            refine lv_lstore (lv' := [(7, .long (lN (sm + s))), (9, .int (nI 4)), (0, .ref (b 0)), (1, .int u), (5, .int (nI r.length)), (6, .int (SSl ((p, 4, s) :: r)))]) hx hb dX5_chanceFrom_72 hl (by decide) rfl (fun ls hl => ?_)
            refine lv_iload hx hb dX5_chanceFrom_74 (lv_at hl 5 rfl) ?_
            refine lv_iconst (v := 1) hx hb dX5_chanceFrom_76 (by decide) ?_
            refine lv_aload_n hx hb dX5_chanceFrom_77 rfl (lv_at hl 2 rfl) ?_
            refine va_get (D := D) (ci := 5) (v := .ref (b 4)) (C := RX5) (T := TX5) (N := 30) hx hb hts hin5 hown hK.1 hP 0 rfl rfl 16 (by decide) (hts _ (List.mem_of_getElem? (i := 1) rfl)) (fun _ h9 => h9) rfl dX5_chanceFrom_78 ?_
            refine lv_iload hx hb dX5_chanceFrom_81 (lv_at hl 4 rfl) ?_
            refine k_iald hx hb hK hP 1 0 rfl rfl (j := r.length) (vp_in_nI (show r.length < 17 by omega) (by decide)) (nI_clamp (by omega)) dX5_chanceFrom_83 ?_
            refine k_top (y := (nI p)) hq1 ?_
            refine lv_ishl hx hb dX5_chanceFrom_84 ?_
            refine lv_iconst (v := (-1)) hx hb dX5_chanceFrom_85 (by decide) ?_
            refine lv_ixor hx hb dX5_chanceFrom_86 ?_
            refine lv_iand hx hb dX5_chanceFrom_87 ?_
            refine k_top (y := (SSl r)) (ss_pop (by omega) hvs.2.2.2.1) ?_
            refine lv_istore (lv' := [(6, .int (SSl r)), (7, .long (lN (sm + s))), (9, .int (nI 4)), (0, .ref (b 0)), (1, .int u), (5, .int (nI r.length))]) hx hb dX5_chanceFrom_88 hl (by decide) rfl (fun ls hl => ?_)
            refine lv_iinc (v := (dpF r)) (lv' := [(5, .int (dpF r)), (6, .int (SSl r)), (7, .long (lN (sm + s))), (9, .int (nI 4)), (0, .ref (b 0)), (1, .int u)]) hx hb dX5_chanceFrom_90 hl (k := 5) rfl (dp_pop r) (by decide) rfl (fun ls hl => ?_)
            refine lv_goto (tgt := 205) hx hb dX5_chanceFrom_93 (by decide) ?_
            refine lv_goto (tgt := 32) hx hb dX5_chanceFrom_205 (by decide) ?_
            exact ih_3 r (sm + s) pl2 nx2 ch2 hq3 hvs.2.2.2.2 hcs.2 hsb.2 (co_y (VS_sub hn hvs) c_14 hch) (by have z := mr_pop (p := p) (t := 4) (s := s) (r := r); omega) _ _ hP hD hS ls (lv_sub hl [4, 5, 0, 1, 2] rfl)
  exact key_2 _ ([(j, 0, al)]) 0 (upd pl 0 (nI j)) (upd nx 0 0) (vp_updL ch 0 (lN al)) ⟨up_eq _ _ _, up_eq _ _ _, trivial⟩ ⟨hjn, Nat.zero_le 4, huc, fun z => z.2 (Int32.zero_and), trivial⟩ ⟨upL_eq _ _ _, trivial⟩ ⟨Nat.le_refl _, trivial⟩ co_0 (Nat.lt_succ_self _) _ _ hP hD hS ls (lv_sub hl [3, 4, 2, 1, 0] rfl)
