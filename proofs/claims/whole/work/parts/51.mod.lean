theorem iwX5_goPath_X5 : ∀ x ∈ wsX50, x ∈ wsX5_goPath := by decide +kernel
set_option maxRecDepth 100000 in
set_option maxHeartbeats 4000000 in
/-- X5_goPath -/
theorem c_X5_goPath (l : Launch) (D : va_G) (cI cJ cO : ClassId) (b : Nat → Nat) (fa : Int32) (h : Nat) (w : Nat) (pc : Int32) (br : Int32) (ra : Int32) (q1 : Int32) (q2 : Int32) (q3 : Int32) (q4 : Int32) (fw : Int32) (ea : Int32) (sn : Int32) (mo : Int32) (rc : Nat) (tr : Int32) (sh : Nat → Int32) (tx : Nat → Int32) (f : Nat) (ii : Nat) (m : Nat) (u : Int32) (c : Int32) (hn : h * w ≤ 16) (hfm : f + m ≤ 240) (hm60 : m ≤ 60) (htx : ∀ q, q < m → sh (f + q) = tx (ii + q)) (hst : stP tx ii m) (hcn : inN c (h * w)) (huc : inS u c) : MG l yX5_goPath wsX5_goPath 2 49 0 0 D [(cI, .int), (cJ, .long), (cO, .object "ShornHill$Sheet")] [.ref (b 0), .int u, .int c, .int (nI f), .int (nI m)] [(b 0, .inr (5, [.int fa, .int (nI h), .int (nI w), .int pc, .int br, .ref (b 1), .ref (b 2), .int ra, .int q1, .int q2, .int q3, .int q4, .ref (b 3), .int fw, .int ea, .int sn, .ref (b 4), .ref (b 5), .ref (b 6), .int mo, .int (nI rc), .ref (b 7), .ref (b 8), .ref (b 9), .ref (b 10), .ref (b 11), .ref (b 12), .ref (b 13), .ref (b 14), .int tr])), (b 13, .inl (cI, 240, .inl sh))] (QV D (fun (w1 : va_W) => ((pthR h w tx ii m 0 c (wo u c)).2.2 = -9 ∨ ¬ (pthR h w tx ii m 0 c (wo u c)).2.2 < 0) ∧ w1 = [(b 0, .inr (5, [.int fa, .int (nI h), .int (nI w), .int pc, .int br, .ref (b 1), .ref (b 2), .int ra, .int q1, .int q2, .int q3, .int q4, .ref (b 3), .int ((pthR h w tx ii m 0 c (wo u c)).2.2), .int ((pthR h w tx ii m 0 c (wo u c)).1), .int (u &&& ((pthR h w tx ii m 0 c (wo u c)).2.1 ^^^ (-1))), .ref (b 4), .ref (b 5), .ref (b 6), .int mo, .int (nI rc), .ref (b 7), .ref (b 8), .ref (b 9), .ref (b 10), .ref (b 11), .ref (b 12), .ref (b 13), .ref (b 14), .int tr])), (b 13, .inl (cI, 240, .inl sh))])) := by
  refine MG.of (cc := cX5_goPath) (maxL := 7) (ret := none) (by decide) rfl (Nat.le_of_ble_eq_true rfl) ?_
  intro P_ E_ S_ M_ B_ T_ K_ hx hb hml hr hts hown hlk hnm A hA hP hK hD hS ls hl
  have hl : lv_has ls 7 [(0, .ref (b 0)), (1, .int u), (2, .int c), (3, .int (nI f)), (4, .int (nI m))] := hl
  have hin5 : ∀ x ∈ u_ws RX5 TX5 30, x ∈ wsX5_goPath := iwX5_goPath_X5
  refine lv_aload_n hx hb dX5_goPath_0 rfl (lv_at hl 0 rfl) ?_
  refine lv_bipush (v := (-9)) hx hb dX5_goPath_1 (by decide) ?_
  refine va_put (D := D) (ci := 5) (v := .int (-9)) (ty := .int) (C := RX5) (T := TX5) (N := 30) hx hb hts hin5 tyX5 tyX5_ok nmX5 hown hK.1 hP hD hS 0 rfl rfl 13 (by decide) (hts _ (List.mem_of_getElem? (i := 1) rfl)) (fun _ h9 => h9) rfl (by decide +kernel) rfl rfl (Nat.le_of_ble_eq_true rfl) dX5_goPath_3 (fun H locs hP hD hS => ?_)
  have hP : va_P D vwCl [(b 0, .inr (5, [.int fa, .int (nI h), .int (nI w), .int pc, .int br, .ref (b 1), .ref (b 2), .int ra, .int q1, .int q2, .int q3, .int q4, .ref (b 3), .int (-9), .int ea, .int sn, .ref (b 4), .ref (b 5), .ref (b 6), .int mo, .int (nI rc), .ref (b 7), .ref (b 8), .ref (b 9), .ref (b 10), .ref (b 11), .ref (b 12), .ref (b 13), .ref (b 14), .int tr])), (b 13, .inl (cI, 240, .inl sh))] H := hP
  have hD : va_D A [(b 0, .inr (5, [.int fa, .int (nI h), .int (nI w), .int pc, .int br, .ref (b 1), .ref (b 2), .int ra, .int q1, .int q2, .int q3, .int q4, .ref (b 3), .int (-9), .int ea, .int sn, .ref (b 4), .ref (b 5), .ref (b 6), .int mo, .int (nI rc), .ref (b 7), .ref (b 8), .ref (b 9), .ref (b 10), .ref (b 11), .ref (b 12), .ref (b 13), .ref (b 14), .int tr])), (b 13, .inl (cI, 240, .inl sh))] := hD
  refine lv_aload_n hx hb dX5_goPath_6 rfl (lv_at hl 0 rfl) ?_
  refine lv_iload_n hx hb dX5_goPath_7 rfl (lv_at hl 2 rfl) ?_
  refine va_put (D := D) (ci := 5) (v := .int c) (ty := .int) (C := RX5) (T := TX5) (N := 30) hx hb hts hin5 tyX5 tyX5_ok nmX5 hown hK.1 hP hD hS 0 rfl rfl 14 (by decide) (hts _ (List.mem_of_getElem? (i := 2) rfl)) (fun _ h9 => h9) rfl (by decide +kernel) rfl rfl (Nat.le_of_ble_eq_true rfl) dX5_goPath_8 (fun H locs hP hD hS => ?_)
  have hP : va_P D vwCl [(b 0, .inr (5, [.int fa, .int (nI h), .int (nI w), .int pc, .int br, .ref (b 1), .ref (b 2), .int ra, .int q1, .int q2, .int q3, .int q4, .ref (b 3), .int (-9), .int c, .int sn, .ref (b 4), .ref (b 5), .ref (b 6), .int mo, .int (nI rc), .ref (b 7), .ref (b 8), .ref (b 9), .ref (b 10), .ref (b 11), .ref (b 12), .ref (b 13), .ref (b 14), .int tr])), (b 13, .inl (cI, 240, .inl sh))] H := hP
  have hD : va_D A [(b 0, .inr (5, [.int fa, .int (nI h), .int (nI w), .int pc, .int br, .ref (b 1), .ref (b 2), .int ra, .int q1, .int q2, .int q3, .int q4, .ref (b 3), .int (-9), .int c, .int sn, .ref (b 4), .ref (b 5), .ref (b 6), .int mo, .int (nI rc), .ref (b 7), .ref (b 8), .ref (b 9), .ref (b 10), .ref (b 11), .ref (b 12), .ref (b 13), .ref (b 14), .int tr])), (b 13, .inl (cI, 240, .inl sh))] := hD
  refine lv_aload_n hx hb dX5_goPath_11 rfl (lv_at hl 0 rfl) ?_
  refine lv_iconst (v := 1) hx hb dX5_goPath_12 (by decide) ?_
  refine lv_iload_n hx hb dX5_goPath_13 rfl (lv_at hl 2 rfl) ?_
  refine lv_ishl hx hb dX5_goPath_14 ?_
  refine va_put (D := D) (ci := 5) (v := .int (1 <<< (c &&& 31))) (ty := .int) (C := RX5) (T := TX5) (N := 30) hx hb hts hin5 tyX5 tyX5_ok nmX5 hown hK.1 hP hD hS 0 rfl rfl 15 (by decide) (hts _ (List.mem_of_getElem? (i := 3) rfl)) (fun _ h9 => h9) rfl (by decide +kernel) rfl rfl (Nat.le_of_ble_eq_true rfl) dX5_goPath_15 (fun H locs hP hD hS => ?_)
  have hP : va_P D vwCl [(b 0, .inr (5, [.int fa, .int (nI h), .int (nI w), .int pc, .int br, .ref (b 1), .ref (b 2), .int ra, .int q1, .int q2, .int q3, .int q4, .ref (b 3), .int (-9), .int c, .int (1 <<< (c &&& 31)), .ref (b 4), .ref (b 5), .ref (b 6), .int mo, .int (nI rc), .ref (b 7), .ref (b 8), .ref (b 9), .ref (b 10), .ref (b 11), .ref (b 12), .ref (b 13), .ref (b 14), .int tr])), (b 13, .inl (cI, 240, .inl sh))] H := hP
  have hD : va_D A [(b 0, .inr (5, [.int fa, .int (nI h), .int (nI w), .int pc, .int br, .ref (b 1), .ref (b 2), .int ra, .int q1, .int q2, .int q3, .int q4, .ref (b 3), .int (-9), .int c, .int (1 <<< (c &&& 31)), .ref (b 4), .ref (b 5), .ref (b 6), .int mo, .int (nI rc), .ref (b 7), .ref (b 8), .ref (b 9), .ref (b 10), .ref (b 11), .ref (b 12), .ref (b 13), .ref (b 14), .int tr])), (b 13, .inl (cI, 240, .inl sh))] := hD
  refine lv_iconst (v := 0) hx hb dX5_goPath_18 (by decide) ?_
  refine lv_istore (lv' := [(5, .int 0), (0, .ref (b 0)), (1, .int u), (2, .int c), (3, .int (nI f)), (4, .int (nI m))]) hx hb dX5_goPath_19 hl (by decide) rfl (fun ls hl => ?_)
  have key_2 : ∀ (n_1 : Nat) (x : Nat) (y : Int32) (p : Int32) (s : Int32), (x ≤ m) → (inN p (h * w)) → (s &&& u = s) → (y = -9 ∨ ¬ y < 0) → ((y = -9 ∧ pthR h w tx ii (m - x) x p (u &&& (s ^^^ (-1))) = (pthR h w tx ii m 0 c (wo u c))) ∨ (¬ y = -9 ∧ (p, u &&& (s ^^^ (-1)), y) = (pthR h w tx ii m 0 c (wo u c)))) → m - x < n_1 → ∀ (H : Heap) (locs : List Loc), va_P D vwCl [(b 0, .inr (5, [.int fa, .int (nI h), .int (nI w), .int pc, .int br, .ref (b 1), .ref (b 2), .int ra, .int q1, .int q2, .int q3, .int q4, .ref (b 3), .int y, .int p, .int s, .ref (b 4), .ref (b 5), .ref (b 6), .int mo, .int (nI rc), .ref (b 7), .ref (b 8), .ref (b 9), .ref (b 10), .ref (b 11), .ref (b 12), .ref (b 13), .ref (b 14), .int tr])), (b 13, .inl (cI, 240, .inl sh))] H → va_D A [(b 0, .inr (5, [.int fa, .int (nI h), .int (nI w), .int pc, .int br, .ref (b 1), .ref (b 2), .int ra, .int q1, .int q2, .int q3, .int q4, .ref (b 3), .int y, .int p, .int s, .ref (b 4), .ref (b 5), .ref (b 6), .int mo, .int (nI rc), .ref (b 7), .ref (b 8), .ref (b 9), .ref (b 10), .ref (b 11), .ref (b 12), .ref (b 13), .ref (b 14), .int tr])), (b 13, .inl (cI, 240, .inl sh))] → va_S A S_.heap H locs → ∀ ls : Array Slot, lv_has ls 7 [(0, .ref (b 0)), (1, .int u), (3, .int (nI f)), (4, .int (nI m)), (5, .int (nI x))] → W P_ l E_ ({ frames := 2, cells := 0, slots := 0, locals := 49 } : Room) S_ M_ (([.ref (b 0), .int u, .int c, .int (nI f), .int (nI m)] : List Value).toArray) B_ T_ K_ H locs 0 0 (MQ B_ ((QV D (fun (w1 : va_W) => ((pthR h w tx ii m 0 c (wo u c)).2.2 = -9 ∨ ¬ (pthR h w tx ii m 0 c (wo u c)).2.2 < 0) ∧ w1 = [(b 0, .inr (5, [.int fa, .int (nI h), .int (nI w), .int pc, .int br, .ref (b 1), .ref (b 2), .int ra, .int q1, .int q2, .int q3, .int q4, .ref (b 3), .int ((pthR h w tx ii m 0 c (wo u c)).2.2), .int ((pthR h w tx ii m 0 c (wo u c)).1), .int (u &&& ((pthR h w tx ii m 0 c (wo u c)).2.1 ^^^ (-1))), .ref (b 4), .ref (b 5), .ref (b 6), .int mo, .int (nI rc), .ref (b 7), .ref (b 8), .ref (b 9), .ref (b 10), .ref (b 11), .ref (b 12), .ref (b 13), .ref (b 14), .int tr])), (b 13, .inl (cI, 240, .inl sh))])) A) (([.ref (b 0), .int u, .int c, .int (nI f), .int (nI m)] : List Value).toArray) S_ 0 0 A) (F0 M_ 21 ls []) := by
    intro n_1
    induction n_1 with
    | zero =>
      intro x y p s hk hpn hsu hy hF hmu_n_1
      exact absurd hmu_n_1 (Nat.not_lt_zero _)
    | succ n_1 ih_3 =>
      intro x y p s hk hpn hsu hy hF hmu_n_1 H locs hP hD hS ls hl
      have hl : lv_has ls 7 [(0, .ref (b 0)), (1, .int u), (3, .int (nI f)), (4, .int (nI m)), (5, .int (nI x))] := hl
      have hP : va_P D vwCl [(b 0, .inr (5, [.int fa, .int (nI h), .int (nI w), .int pc, .int br, .ref (b 1), .ref (b 2), .int ra, .int q1, .int q2, .int q3, .int q4, .ref (b 3), .int y, .int p, .int s, .ref (b 4), .ref (b 5), .ref (b 6), .int mo, .int (nI rc), .ref (b 7), .ref (b 8), .ref (b 9), .ref (b 10), .ref (b 11), .ref (b 12), .ref (b 13), .ref (b 14), .int tr])), (b 13, .inl (cI, 240, .inl sh))] H := hP
      have hD : va_D A [(b 0, .inr (5, [.int fa, .int (nI h), .int (nI w), .int pc, .int br, .ref (b 1), .ref (b 2), .int ra, .int q1, .int q2, .int q3, .int q4, .ref (b 3), .int y, .int p, .int s, .ref (b 4), .ref (b 5), .ref (b 6), .int mo, .int (nI rc), .ref (b 7), .ref (b 8), .ref (b 9), .ref (b 10), .ref (b 11), .ref (b 12), .ref (b 13), .ref (b 14), .int tr])), (b 13, .inl (cI, 240, .inl sh))] := hD
      refine lv_iload hx hb dX5_goPath_21 (lv_at hl 4 rfl) ?_
      refine lv_iload hx hb dX5_goPath_23 (lv_at hl 3 rfl) ?_
      refine lv_icmp_ge (tgt := 109) hx hb dX5_goPath_25 (by decide) (fun c_4 => ?_) (fun c_4 => ?_)
      · have c_4 : m ≤ x := (nI_leI (a := m) (b := x) (by omega) (by omega)).mp c_4
        refine mv_ret hx hb hr hlk hP hD hS dX5_goPath_109 ?_
        have hE := pth_end hF (Or.inl (by omega))
        rw [← hE]
        exact ⟨hy, by rw [bs_back hsu]⟩
      · have c_4 : x < m := Nat.lt_of_not_le (fun z => c_4 ((nI_leI (a := m) (b := x) (by omega) (by omega)).mpr z))
        refine lv_aload_n hx hb dX5_goPath_28 rfl (lv_at hl 0 rfl) ?_
        refine va_get (D := D) (ci := 5) (v := .int y) (C := RX5) (T := TX5) (N := 30) hx hb hts hin5 hown hK.1 hP 0 rfl rfl 13 (by decide) (hts _ (List.mem_of_getElem? (i := 1) rfl)) (fun _ h9 => h9) rfl dX5_goPath_29 ?_
        refine lv_if_ge (tgt := 109) hx hb dX5_goPath_32 (by decide) (fun c_5 => ?_) (fun c_5 => ?_)
        · have hy9 := c_5
          refine mv_ret hx hb hr hlk hP hD hS dX5_goPath_109 ?_
          have hE := pth_end hF (Or.inr (fun z => by rw [z] at hy9; exact absurd hy9 (by decide)))
          rw [← hE]
          exact ⟨hy, by rw [bs_back hsu]⟩
        · have hym : y = -9 := hy.resolve_right (fun z => z (Int32.not_le.mp c_5))
          refine lv_aload_n hx hb dX5_goPath_35 rfl (lv_at hl 0 rfl) ?_
          refine lv_aload_n hx hb dX5_goPath_36 rfl (lv_at hl 0 rfl) ?_
          refine va_get (D := D) (ci := 5) (v := .int p) (C := RX5) (T := TX5) (N := 30) hx hb hts hin5 hown hK.1 hP 0 rfl rfl 14 (by decide) (hts _ (List.mem_of_getElem? (i := 2) rfl)) (fun _ h9 => h9) rfl dX5_goPath_37 ?_
          refine k_top (y := (nI p.toNatClampNeg)) hpn.eq ?_
          refine lv_aload_n hx hb dX5_goPath_40 rfl (lv_at hl 0 rfl) ?_
          refine va_get (D := D) (ci := 5) (v := .ref (b 13)) (C := RX5) (T := TX5) (N := 30) hx hb hts hin5 hown hK.1 hP 0 rfl rfl 27 (by decide) (hts _ (List.mem_of_getElem? (i := 4) rfl)) (fun _ h9 => h9) rfl dX5_goPath_41 ?_
          refine lv_iload_n hx hb dX5_goPath_44 rfl (lv_at hl 2 rfl) ?_
          refine lv_iload hx hb dX5_goPath_45 (lv_at hl 4 rfl) ?_
          refine lv_iadd hx hb dX5_goPath_47 ?_
          refine k_top (y := (nI (f + x))) (nI_add _ _) ?_
          refine k_iald hx hb hK hP 1 0 rfl rfl (j := f + x) (vp_in_nI (show f + x < 240 by omega) (by decide)) (nI_clamp (by omega)) dX5_goPath_48 ?_
          refine k_top (y := (nI ((tx (ii + x)).toNatClampNeg))) ((htx x (by omega)).trans (hst x (by omega)).eq) ?_
          refine k_ri (run_RV (As := [.int (nI p.toNatClampNeg), .int (nI ((tx (ii + x)).toNatClampNeg))]) (rest := []) ⟨hx, hb, hml, hown, hts⟩ (c_X5_beside l D cI cJ cO b fa h w pc br ra q1 q2 q3 q4 y p s mo rc tr p.toNatClampNeg ((tx (ii + x)).toNatClampNeg) hn hpn.lt (hst x (by omega)).lt) (cwV 2 hts gX5_goPath_X5_beside rfl rfl rfl (by decide +kernel) ⟨Nat.le_of_ble_eq_true rfl, Nat.le_of_ble_eq_true rfl⟩) hP hK [0] rfl rfl rfl rfl rfl hl.1 rfl (Nat.le_of_ble_eq_true rfl) dX5_goPath_49 ⟨Nat.le_refl _, Nat.le_refl _⟩) (fun r_6 q_7 => ?_)
          obtain rfl := q_7
          refine lv_istore (lv' := [(6, .int (nbF h w p.toNatClampNeg ((tx (ii + x)).toNatClampNeg))), (0, .ref (b 0)), (1, .int u), (3, .int (nI f)), (4, .int (nI m)), (5, .int (nI x))]) hx hb dX5_goPath_52 hl (by decide) rfl (fun ls hl => ?_)
          refine lv_iload hx hb dX5_goPath_54 (lv_at hl 0 rfl) ?_
          refine lv_if_lt (tgt := 75) hx hb dX5_goPath_56 (by decide) (fun c_8 => ?_) (fun c_8 => ?_)
          · refine lv_aload_n hx hb dX5_goPath_75 rfl (lv_at hl 1 rfl) ?_
            refine lv_iload hx hb dX5_goPath_76 (lv_at hl 5 rfl) ?_
            refine va_put (D := D) (ci := 5) (v := .int (nI x)) (ty := .int) (C := RX5) (T := TX5) (N := 30) hx hb hts hin5 tyX5 tyX5_ok nmX5 hown hK.1 hP hD hS 0 rfl rfl 13 (by decide) (hts _ (List.mem_of_getElem? (i := 1) rfl)) (fun _ h9 => h9) rfl (by decide +kernel) rfl rfl (Nat.le_of_ble_eq_true rfl) dX5_goPath_78 (fun H locs hP hD hS => ?_)
            have hP : va_P D vwCl [(b 0, .inr (5, [.int fa, .int (nI h), .int (nI w), .int pc, .int br, .ref (b 1), .ref (b 2), .int ra, .int q1, .int q2, .int q3, .int q4, .ref (b 3), .int (nI x), .int p, .int s, .ref (b 4), .ref (b 5), .ref (b 6), .int mo, .int (nI rc), .ref (b 7), .ref (b 8), .ref (b 9), .ref (b 10), .ref (b 11), .ref (b 12), .ref (b 13), .ref (b 14), .int tr])), (b 13, .inl (cI, 240, .inl sh))] H := hP
            have hD : va_D A [(b 0, .inr (5, [.int fa, .int (nI h), .int (nI w), .int pc, .int br, .ref (b 1), .ref (b 2), .int ra, .int q1, .int q2, .int q3, .int q4, .ref (b 3), .int (nI x), .int p, .int s, .ref (b 4), .ref (b 5), .ref (b 6), .int mo, .int (nI rc), .ref (b 7), .ref (b 8), .ref (b 9), .ref (b 10), .ref (b 11), .ref (b 12), .ref (b 13), .ref (b 14), .int tr])), (b 13, .inl (cI, 240, .inl sh))] := hD
            refine lv_goto (tgt := 103) hx hb dX5_goPath_81 (by decide) ?_
            refine lv_iinc (v := (nI (x + 1))) (lv' := [(5, .int (nI (x + 1))), (6, .int (nbF h w p.toNatClampNeg ((tx (ii + x)).toNatClampNeg))), (0, .ref (b 0)), (1, .int u), (3, .int (nI f)), (4, .int (nI m))]) hx hb dX5_goPath_103 hl (k := 5) rfl (nI_add _ 1) (by decide) rfl (fun ls hl => ?_)
            refine lv_goto (tgt := 21) hx hb dX5_goPath_106 (by decide) ?_
            exact ih_3 (x + 1) (nI x) p s (by omega) hpn hsu (Or.inr (nI_nn (by omega))) (pth_f (by omega) (by omega) hym hF (nb_lt c_8)) (by omega) _ _ hP hD hS ls (lv_sub hl [2, 3, 4, 5, 0] rfl)
          · refine lv_iload_n hx hb dX5_goPath_59 rfl (lv_at hl 2 rfl) ?_
            refine lv_aload_n hx hb dX5_goPath_60 rfl (lv_at hl 1 rfl) ?_
            refine va_get (D := D) (ci := 5) (v := .int s) (C := RX5) (T := TX5) (N := 30) hx hb hts hin5 hown hK.1 hP 0 rfl rfl 15 (by decide) (hts _ (List.mem_of_getElem? (i := 3) rfl)) (fun _ h9 => h9) rfl dX5_goPath_61 ?_
            refine lv_iconst (v := (-1)) hx hb dX5_goPath_64 (by decide) ?_
            refine lv_ixor hx hb dX5_goPath_65 ?_
            refine lv_iand hx hb dX5_goPath_66 ?_
            refine lv_iload hx hb dX5_goPath_67 (lv_at hl 0 rfl) ?_
            refine k_ri (run_RS (As := [.int (u &&& (s ^^^ (-1))), .int (nbF h w p.toNatClampNeg ((tx (ii + x)).toNatClampNeg))]) (rest := []) ⟨hx, hb, hml, hown, hts⟩ (c_X5_isIn l D cI cJ cO (u &&& (s ^^^ (-1))) (nbF h w p.toNatClampNeg ((tx (ii + x)).toNatClampNeg)) (inN_mono (nb_0le hpn.lt hn (by assumption)) (by omega))) (va_cwS 2 hts gX5_goPath_X5_isIn rfl rfl rfl (by decide +kernel) ⟨Nat.le_of_ble_eq_true rfl, Nat.le_of_ble_eq_true rfl⟩) hP hK [] rfl rfl hl.1 rfl (Nat.le_of_ble_eq_true rfl) dX5_goPath_69 ⟨Nat.le_refl _, Nat.le_refl _⟩) (fun r_9 q_10 => ?_)
            obtain rfl := q_10
            refine lv_if_ne (tgt := 84) hx hb dX5_goPath_72 (by decide) (fun c_11 => ?_) (fun c_11 => ?_)
            · have c_11 := b2_t c_11
              refine lv_aload_n hx hb dX5_goPath_84 rfl (lv_at hl 1 rfl) ?_
              refine lv_iload hx hb dX5_goPath_85 (lv_at hl 0 rfl) ?_
              refine va_put (D := D) (ci := 5) (v := .int (nbF h w p.toNatClampNeg ((tx (ii + x)).toNatClampNeg))) (ty := .int) (C := RX5) (T := TX5) (N := 30) hx hb hts hin5 tyX5 tyX5_ok nmX5 hown hK.1 hP hD hS 0 rfl rfl 14 (by decide) (hts _ (List.mem_of_getElem? (i := 2) rfl)) (fun _ h9 => h9) rfl (by decide +kernel) rfl rfl (Nat.le_of_ble_eq_true rfl) dX5_goPath_87 (fun H locs hP hD hS => ?_)
              have hP : va_P D vwCl [(b 0, .inr (5, [.int fa, .int (nI h), .int (nI w), .int pc, .int br, .ref (b 1), .ref (b 2), .int ra, .int q1, .int q2, .int q3, .int q4, .ref (b 3), .int y, .int (nbF h w p.toNatClampNeg ((tx (ii + x)).toNatClampNeg)), .int s, .ref (b 4), .ref (b 5), .ref (b 6), .int mo, .int (nI rc), .ref (b 7), .ref (b 8), .ref (b 9), .ref (b 10), .ref (b 11), .ref (b 12), .ref (b 13), .ref (b 14), .int tr])), (b 13, .inl (cI, 240, .inl sh))] H := hP
              have hD : va_D A [(b 0, .inr (5, [.int fa, .int (nI h), .int (nI w), .int pc, .int br, .ref (b 1), .ref (b 2), .int ra, .int q1, .int q2, .int q3, .int q4, .ref (b 3), .int y, .int (nbF h w p.toNatClampNeg ((tx (ii + x)).toNatClampNeg)), .int s, .ref (b 4), .ref (b 5), .ref (b 6), .int mo, .int (nI rc), .ref (b 7), .ref (b 8), .ref (b 9), .ref (b 10), .ref (b 11), .ref (b 12), .ref (b 13), .ref (b 14), .int tr])), (b 13, .inl (cI, 240, .inl sh))] := hD
              refine lv_aload_n hx hb dX5_goPath_90 rfl (lv_at hl 1 rfl) ?_
              refine lv_dup hx hb dX5_goPath_91 rfl ?_
              refine va_get (D := D) (ci := 5) (v := .int s) (C := RX5) (T := TX5) (N := 30) hx hb hts hin5 hown hK.1 hP 0 rfl rfl 15 (by decide) (hts _ (List.mem_of_getElem? (i := 3) rfl)) (fun _ h9 => h9) rfl dX5_goPath_92 ?_
              refine lv_iconst (v := 1) hx hb dX5_goPath_95 (by decide) ?_
              refine lv_iload hx hb dX5_goPath_96 (lv_at hl 0 rfl) ?_
              refine lv_ishl hx hb dX5_goPath_98 ?_
              refine lv_ior hx hb dX5_goPath_99 ?_
              refine va_put (D := D) (ci := 5) (v := .int (s ||| (1 <<< ((nbF h w p.toNatClampNeg ((tx (ii + x)).toNatClampNeg)) &&& 31)))) (ty := .int) (C := RX5) (T := TX5) (N := 30) hx hb hts hin5 tyX5 tyX5_ok nmX5 hown hK.1 hP hD hS 0 rfl rfl 15 (by decide) (hts _ (List.mem_of_getElem? (i := 3) rfl)) (fun _ h9 => h9) rfl (by decide +kernel) rfl rfl (Nat.le_of_ble_eq_true rfl) dX5_goPath_100 (fun H locs hP hD hS => ?_)
              have hP : va_P D vwCl [(b 0, .inr (5, [.int fa, .int (nI h), .int (nI w), .int pc, .int br, .ref (b 1), .ref (b 2), .int ra, .int q1, .int q2, .int q3, .int q4, .ref (b 3), .int y, .int (nbF h w p.toNatClampNeg ((tx (ii + x)).toNatClampNeg)), .int (s ||| (1 <<< ((nbF h w p.toNatClampNeg ((tx (ii + x)).toNatClampNeg)) &&& 31))), .ref (b 4), .ref (b 5), .ref (b 6), .int mo, .int (nI rc), .ref (b 7), .ref (b 8), .ref (b 9), .ref (b 10), .ref (b 11), .ref (b 12), .ref (b 13), .ref (b 14), .int tr])), (b 13, .inl (cI, 240, .inl sh))] H := hP
              have hD : va_D A [(b 0, .inr (5, [.int fa, .int (nI h), .int (nI w), .int pc, .int br, .ref (b 1), .ref (b 2), .int ra, .int q1, .int q2, .int q3, .int q4, .ref (b 3), .int y, .int (nbF h w p.toNatClampNeg ((tx (ii + x)).toNatClampNeg)), .int (s ||| (1 <<< ((nbF h w p.toNatClampNeg ((tx (ii + x)).toNatClampNeg)) &&& 31))), .ref (b 4), .ref (b 5), .ref (b 6), .int mo, .int (nI rc), .ref (b 7), .ref (b 8), .ref (b 9), .ref (b 10), .ref (b 11), .ref (b 12), .ref (b 13), .ref (b 14), .int tr])), (b 13, .inl (cI, 240, .inl sh))] := hD
              refine lv_iinc (v := (nI (x + 1))) (lv' := [(5, .int (nI (x + 1))), (6, .int (nbF h w p.toNatClampNeg ((tx (ii + x)).toNatClampNeg))), (0, .ref (b 0)), (1, .int u), (3, .int (nI f)), (4, .int (nI m))]) hx hb dX5_goPath_103 hl (k := 5) rfl (nI_add _ 1) (by decide) rfl (fun ls hl => ?_)
              refine lv_goto (tgt := 21) hx hb dX5_goPath_106 (by decide) ?_
              exact ih_3 (x + 1) y (nbF h w p.toNatClampNeg ((tx (ii + x)).toNatClampNeg)) (s ||| (1 <<< ((nbF h w p.toNatClampNeg ((tx (ii + x)).toNatClampNeg)) &&& 31))) (by omega) (nb_0le hpn.lt hn c_8) (bs_or hsu (bi_sub (inN_mono (nb_0le hpn.lt hn c_8) (by omega)) c_11)) hy (pth_ok (p := p) (pth_t (by omega) hym hF c_11)) (by omega) _ _ hP hD hS ls (lv_sub hl [2, 3, 4, 5, 0] rfl)
            · have c_11 := b2_f c_11
              refine lv_aload_n hx hb dX5_goPath_75 rfl (lv_at hl 1 rfl) ?_
              refine lv_iload hx hb dX5_goPath_76 (lv_at hl 5 rfl) ?_
              refine va_put (D := D) (ci := 5) (v := .int (nI x)) (ty := .int) (C := RX5) (T := TX5) (N := 30) hx hb hts hin5 tyX5 tyX5_ok nmX5 hown hK.1 hP hD hS 0 rfl rfl 13 (by decide) (hts _ (List.mem_of_getElem? (i := 1) rfl)) (fun _ h9 => h9) rfl (by decide +kernel) rfl rfl (Nat.le_of_ble_eq_true rfl) dX5_goPath_78 (fun H locs hP hD hS => ?_)
              have hP : va_P D vwCl [(b 0, .inr (5, [.int fa, .int (nI h), .int (nI w), .int pc, .int br, .ref (b 1), .ref (b 2), .int ra, .int q1, .int q2, .int q3, .int q4, .ref (b 3), .int (nI x), .int p, .int s, .ref (b 4), .ref (b 5), .ref (b 6), .int mo, .int (nI rc), .ref (b 7), .ref (b 8), .ref (b 9), .ref (b 10), .ref (b 11), .ref (b 12), .ref (b 13), .ref (b 14), .int tr])), (b 13, .inl (cI, 240, .inl sh))] H := hP
              have hD : va_D A [(b 0, .inr (5, [.int fa, .int (nI h), .int (nI w), .int pc, .int br, .ref (b 1), .ref (b 2), .int ra, .int q1, .int q2, .int q3, .int q4, .ref (b 3), .int (nI x), .int p, .int s, .ref (b 4), .ref (b 5), .ref (b 6), .int mo, .int (nI rc), .ref (b 7), .ref (b 8), .ref (b 9), .ref (b 10), .ref (b 11), .ref (b 12), .ref (b 13), .ref (b 14), .int tr])), (b 13, .inl (cI, 240, .inl sh))] := hD
              refine lv_goto (tgt := 103) hx hb dX5_goPath_81 (by decide) ?_
              refine lv_iinc (v := (nI (x + 1))) (lv' := [(5, .int (nI (x + 1))), (6, .int (nbF h w p.toNatClampNeg ((tx (ii + x)).toNatClampNeg))), (0, .ref (b 0)), (1, .int u), (3, .int (nI f)), (4, .int (nI m))]) hx hb dX5_goPath_103 hl (k := 5) rfl (nI_add _ 1) (by decide) rfl (fun ls hl => ?_)
              refine lv_goto (tgt := 21) hx hb dX5_goPath_106 (by decide) ?_
              exact ih_3 (x + 1) (nI x) p s (by omega) hpn hsu (Or.inr (nI_nn (by omega))) (pth_f (by omega) (by omega) hym hF c_11) (by omega) _ _ hP hD hS ls (lv_sub hl [2, 3, 4, 5, 0] rfl)
  exact key_2 _ 0 (-9) c (1 <<< (c &&& 31)) (by omega) hcn (bi_sub0 (inN_mono hcn (by omega)) huc) (Or.inl rfl) (Or.inl ⟨rfl, rfl⟩) (Nat.lt_succ_self _) _ _ hP hD hS ls (lv_sub hl [1, 2, 4, 5, 0] rfl)
