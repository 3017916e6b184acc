theorem iwX5_readsHill_X5 : ∀ x ∈ wsX50, x ∈ wsX5_readsHill := by decide +kernel
set_option maxRecDepth 100000 in
set_option maxHeartbeats 4000000 in
/-- X5_readsHill -/
theorem c_X5_readsHill (l : Launch) (D : va_G) (cI cJ cO : ClassId) (b : Nat → Nat) (fa : Int32) (h : Nat) (w : Nat) (pc : Int32) (br : Int32) (ra : Int32) (q1 : Int32) (q2 : Int32) (q3 : Int32) (q4 : Int32) (fw : Int32) (ea : Int32) (sn : Int32) (mo : Int32) (rc : Nat) (tr : Int32) (sh : Nat → Int32) (tx : Nat → Int32) (f : Nat) (ii : Nat) (m : Nat) (rk : Nat → Int32) (hfm : f + m ≤ 240) (hm60 : m ≤ 60) (htx : ∀ q, q < m → sh (f + q) = tx (ii + q)) : MG l yX5_readsHill wsX5_readsHill 2 51 0 0 D [(cI, .int), (cJ, .long), (cO, .object "ShornHill$Sheet")] [.ref (b 0), .int (nI f), .int (nI m)] [(b 0, .inr (5, [.int fa, .int (nI h), .int (nI w), .int pc, .int br, .ref (b 1), .ref (b 2), .int ra, .int q1, .int q2, .int q3, .int q4, .ref (b 3), .int fw, .int ea, .int sn, .ref (b 4), .ref (b 5), .ref (b 6), .int mo, .int (nI rc), .ref (b 7), .ref (b 8), .ref (b 9), .ref (b 10), .ref (b 11), .ref (b 12), .ref (b 13), .ref (b 14), .int tr])), (b 3, .inl (cI, 16, .inl rk)), (b 13, .inl (cI, 240, .inl sh))] (QI D (fun (r : Int32) (w1 : va_W) => ∃ (p2 : Nat) (u1 : Int32) (u2 : Int32) (u3 : Int32) (u4 : Int32) (rk2 : Nat → Int32), r = (b2 (ffR tx ii m = -9)) ∧ (¬ ffR tx ii m = -9 → nI p2 = ffR tx ii m) ∧ (ffR tx ii m = -9 → u1 = nI (hN (tx (ii + 1))) ∧ u2 = nI (hN (tx (ii + 2))) ∧ u3 = tx (ii + 3) - 48 ∧ u4 = tx (ii + 4) - 48 ∧ ∀ q, q < hN (tx (ii + 1)) * hN (tx (ii + 2)) → rk2 q = kdT tx ii (hN (tx (ii + 2))) q) ∧ w1 = [(b 0, .inr (5, [.int fa, .int (nI h), .int (nI w), .int pc, .int br, .ref (b 1), .ref (b 2), .int (nI p2), .int u1, .int u2, .int u3, .int u4, .ref (b 3), .int fw, .int ea, .int sn, .ref (b 4), .ref (b 5), .ref (b 6), .int mo, .int (nI rc), .ref (b 7), .ref (b 8), .ref (b 9), .ref (b 10), .ref (b 11), .ref (b 12), .ref (b 13), .ref (b 14), .int tr])), (b 3, .inl (cI, 16, .inl rk2)), (b 13, .inl (cI, 240, .inl sh))])) := by
  refine MG.of (cc := cX5_readsHill) (maxL := 5) (ret := (some .boolean)) (by decide) rfl (Nat.le_of_ble_eq_true rfl) ?_
  intro P_ E_ S_ M_ B_ T_ K_ hx hb hml hr hts hown hlk hnm A hA hP hK hD hS ls hl
  have hl : lv_has ls 5 [(0, .ref (b 0)), (1, .int (nI f)), (2, .int (nI m))] := hl
  have hin5 : ∀ x ∈ u_ws RX5 TX5 30, x ∈ wsX5_readsHill := iwX5_readsHill_X5
  refine lv_aload_n hx hb dX5_readsHill_0 rfl (lv_at hl 0 rfl) ?_
  refine lv_iconst (v := 0) hx hb dX5_readsHill_1 (by decide) ?_
  refine va_put (D := D) (ci := 5) (v := .int 0) (ty := .int) (C := RX5) (T := TX5) (N := 30) hx hb hts hin5 tyX5 tyX5_ok nmX5 hown hK.1 hP hD hS 0 rfl rfl 7 (by decide) (hts _ (List.mem_of_getElem? (i := 1) rfl)) (fun _ h9 => h9) rfl (by decide +kernel) rfl rfl (Nat.le_of_ble_eq_true rfl) dX5_readsHill_2 (fun H locs hP hD hS => ?_)
  have hP : va_P D vwCl [(b 0, .inr (5, [.int fa, .int (nI h), .int (nI w), .int pc, .int br, .ref (b 1), .ref (b 2), .int 0, .int q1, .int q2, .int q3, .int q4, .ref (b 3), .int fw, .int ea, .int sn, .ref (b 4), .ref (b 5), .ref (b 6), .int mo, .int (nI rc), .ref (b 7), .ref (b 8), .ref (b 9), .ref (b 10), .ref (b 11), .ref (b 12), .ref (b 13), .ref (b 14), .int tr])), (b 3, .inl (cI, 16, .inl rk)), (b 13, .inl (cI, 240, .inl sh))] H := hP
  have hD : va_D A [(b 0, .inr (5, [.int fa, .int (nI h), .int (nI w), .int pc, .int br, .ref (b 1), .ref (b 2), .int 0, .int q1, .int q2, .int q3, .int q4, .ref (b 3), .int fw, .int ea, .int sn, .ref (b 4), .ref (b 5), .ref (b 6), .int mo, .int (nI rc), .ref (b 7), .ref (b 8), .ref (b 9), .ref (b 10), .ref (b 11), .ref (b 12), .ref (b 13), .ref (b 14), .int tr])), (b 3, .inl (cI, 16, .inl rk)), (b 13, .inl (cI, 240, .inl sh))] := hD
  refine lv_aload_n hx hb dX5_readsHill_5 rfl (lv_at hl 0 rfl) ?_
  refine lv_iload_n hx hb dX5_readsHill_6 rfl (lv_at hl 1 rfl) ?_
  refine lv_iload_n hx hb dX5_readsHill_7 rfl (lv_at hl 2 rfl) ?_
  refine k_ri (run_RV (As := [.int (nI f), .int (nI m)]) (rest := []) ⟨hx, hb, hml, hown, hts⟩ (c_X5_codeAt l D cI cJ cO b fa h w pc br q1 q2 q3 q4 fw ea sn mo rc tr sh tx f ii m 0 hfm hm60 htx (by decide)) (cwV 2 hts gX5_readsHill_X5_codeAt rfl rfl rfl (by decide +kernel) ⟨Nat.le_of_ble_eq_true rfl, Nat.le_of_ble_eq_true rfl⟩) hP hK [0, 2] rfl rfl rfl rfl rfl hl.1 rfl (Nat.le_of_ble_eq_true rfl) dX5_readsHill_8 ⟨Nat.le_refl _, Nat.le_refl _⟩) (fun r_1 q_2 => ?_)
  obtain rfl := q_2
  refine lv_bipush (v := 104) hx hb dX5_readsHill_11 (by decide) ?_
  refine lv_icmp_ne (tgt := 20) hx hb dX5_readsHill_13 (by decide) (fun c_3 => ?_) (fun c_3 => ?_)
  · have hok0 : ∀ q, q < 0 → okT tx ii q := fun q z => absurd z (Nat.not_lt_zero q)
    have hno9 : 0 < m → ¬ okT tx ii 0 := fun z => hd_no (by decide) (fun y => by rcases y with ⟨a, b⟩ | ⟨a, b⟩ | ⟨a, b⟩ | ⟨a, b⟩ | ⟨a, b⟩ <;> first | exact absurd a (by decide) | exact c_3 (by rw [cd_lt z]; exact b))
    refine lv_iconst (v := 0) hx hb dX5_readsHill_20 (by decide) ?_
    refine lv_istore_n (lv' := [(3, .int 0), (0, .ref (b 0)), (1, .int (nI f)), (2, .int (nI m))]) hx hb dX5_readsHill_21 rfl hl (by decide) rfl (fun ls hl => ?_)
    refine lv_aload_n hx hb dX5_readsHill_22 rfl (lv_at hl 1 rfl) ?_
    refine lv_dup hx hb dX5_readsHill_23 rfl ?_
    refine va_get (D := D) (ci := 5) (v := .int 0) (C := RX5) (T := TX5) (N := 30) hx hb hts hin5 hown hK.1 hP 0 rfl rfl 7 (by decide) (hts _ (List.mem_of_getElem? (i := 1) rfl)) (fun _ h9 => h9) rfl dX5_readsHill_24 ?_
    refine lv_iload_n hx hb dX5_readsHill_27 rfl (lv_at hl 0 rfl) ?_
    refine lv_if_eq (tgt := 35) hx hb dX5_readsHill_28 (by decide) (fun c_4 => ?_) (fun c_4 => ?_)
    · refine lv_iconst (v := 0) hx hb dX5_readsHill_35 (by decide) ?_
      refine lv_iadd hx hb dX5_readsHill_36 ?_
      refine k_top (y := (nI 0)) rfl ?_
      refine va_put (D := D) (ci := 5) (v := .int (nI 0)) (ty := .int) (C := RX5) (T := TX5) (N := 30) hx hb hts hin5 tyX5 tyX5_ok nmX5 hown hK.1 hP hD hS 0 rfl rfl 7 (by decide) (hts _ (List.mem_of_getElem? (i := 1) rfl)) (fun _ h9 => h9) rfl (by decide +kernel) rfl rfl (Nat.le_of_ble_eq_true rfl) dX5_readsHill_37 (fun H locs hP hD hS => ?_)
      have hP : va_P D vwCl [(b 0, .inr (5, [.int fa, .int (nI h), .int (nI w), .int pc, .int br, .ref (b 1), .ref (b 2), .int (nI 0), .int q1, .int q2, .int q3, .int q4, .ref (b 3), .int fw, .int ea, .int sn, .ref (b 4), .ref (b 5), .ref (b 6), .int mo, .int (nI rc), .ref (b 7), .ref (b 8), .ref (b 9), .ref (b 10), .ref (b 11), .ref (b 12), .ref (b 13), .ref (b 14), .int tr])), (b 3, .inl (cI, 16, .inl rk)), (b 13, .inl (cI, 240, .inl sh))] H := hP
      have hD : va_D A [(b 0, .inr (5, [.int fa, .int (nI h), .int (nI w), .int pc, .int br, .ref (b 1), .ref (b 2), .int (nI 0), .int q1, .int q2, .int q3, .int q4, .ref (b 3), .int fw, .int ea, .int sn, .ref (b 4), .ref (b 5), .ref (b 6), .int mo, .int (nI rc), .ref (b 7), .ref (b 8), .ref (b 9), .ref (b 10), .ref (b 11), .ref (b 12), .ref (b 13), .ref (b 14), .int tr])), (b 3, .inl (cI, 16, .inl rk)), (b 13, .inl (cI, 240, .inl sh))] := hD
      refine lv_aload_n hx hb dX5_readsHill_40 rfl (lv_at hl 1 rfl) ?_
      refine lv_iload_n hx hb dX5_readsHill_41 rfl (lv_at hl 0 rfl) ?_
      refine lv_if_eq (tgt := 56) hx hb dX5_readsHill_42 (by decide) (fun c_5 => ?_) (fun c_5 => ?_)
      · refine lv_bipush (v := (-9)) hx hb dX5_readsHill_56 (by decide) ?_
        refine va_put (D := D) (ci := 5) (v := .int (-9)) (ty := .int) (C := RX5) (T := TX5) (N := 30) hx hb hts hin5 tyX5 tyX5_ok nmX5 hown hK.1 hP hD hS 0 rfl rfl 8 (by decide) (hts _ (List.mem_of_getElem? (i := 2) rfl)) (fun _ h9 => h9) rfl (by decide +kernel) rfl rfl (Nat.le_of_ble_eq_true rfl) dX5_readsHill_58 (fun H locs hP hD hS => ?_)
        have hP : va_P D vwCl [(b 0, .inr (5, [.int fa, .int (nI h), .int (nI w), .int pc, .int br, .ref (b 1), .ref (b 2), .int (nI 0), .int (-9), .int q2, .int q3, .int q4, .ref (b 3), .int fw, .int ea, .int sn, .ref (b 4), .ref (b 5), .ref (b 6), .int mo, .int (nI rc), .ref (b 7), .ref (b 8), .ref (b 9), .ref (b 10), .ref (b 11), .ref (b 12), .ref (b 13), .ref (b 14), .int tr])), (b 3, .inl (cI, 16, .inl rk)), (b 13, .inl (cI, 240, .inl sh))] H := hP
        have hD : va_D A [(b 0, .inr (5, [.int fa, .int (nI h), .int (nI w), .int pc, .int br, .ref (b 1), .ref (b 2), .int (nI 0), .int (-9), .int q2, .int q3, .int q4, .ref (b 3), .int fw, .int ea, .int sn, .ref (b 4), .ref (b 5), .ref (b 6), .int mo, .int (nI rc), .ref (b 7), .ref (b 8), .ref (b 9), .ref (b 10), .ref (b 11), .ref (b 12), .ref (b 13), .ref (b 14), .int tr])), (b 3, .inl (cI, 16, .inl rk)), (b 13, .inl (cI, 240, .inl sh))] := hD
        refine lv_aload_n hx hb dX5_readsHill_61 rfl (lv_at hl 1 rfl) ?_
        refine lv_aload_n hx hb dX5_readsHill_62 rfl (lv_at hl 1 rfl) ?_
        refine va_get (D := D) (ci := 5) (v := .int (-9)) (C := RX5) (T := TX5) (N := 30) hx hb hts hin5 hown hK.1 hP 0 rfl rfl 8 (by decide) (hts _ (List.mem_of_getElem? (i := 2) rfl)) (fun _ h9 => h9) rfl dX5_readsHill_63 ?_
        refine lv_if_le (tgt := 80) hx hb dX5_readsHill_66 (by decide) (fun c_6 => ?_) (fun c_6 => ?_)
        · refine lv_bipush (v := (-9)) hx hb dX5_readsHill_80 (by decide) ?_
          refine va_put (D := D) (ci := 5) (v := .int (-9)) (ty := .int) (C := RX5) (T := TX5) (N := 30) hx hb hts hin5 tyX5 tyX5_ok nmX5 hown hK.1 hP hD hS 0 rfl rfl 9 (by decide) (hts _ (List.mem_of_getElem? (i := 3) rfl)) (fun _ h9 => h9) rfl (by decide +kernel) rfl rfl (Nat.le_of_ble_eq_true rfl) dX5_readsHill_82 (fun H locs hP hD hS => ?_)
          have hP : va_P D vwCl [(b 0, .inr (5, [.int fa, .int (nI h), .int (nI w), .int pc, .int br, .ref (b 1), .ref (b 2), .int (nI 0), .int (-9), .int (-9), .int q3, .int q4, .ref (b 3), .int fw, .int ea, .int sn, .ref (b 4), .ref (b 5), .ref (b 6), .int mo, .int (nI rc), .ref (b 7), .ref (b 8), .ref (b 9), .ref (b 10), .ref (b 11), .ref (b 12), .ref (b 13), .ref (b 14), .int tr])), (b 3, .inl (cI, 16, .inl rk)), (b 13, .inl (cI, 240, .inl sh))] H := hP
          have hD : va_D A [(b 0, .inr (5, [.int fa, .int (nI h), .int (nI w), .int pc, .int br, .ref (b 1), .ref (b 2), .int (nI 0), .int (-9), .int (-9), .int q3, .int q4, .ref (b 3), .int fw, .int ea, .int sn, .ref (b 4), .ref (b 5), .ref (b 6), .int mo, .int (nI rc), .ref (b 7), .ref (b 8), .ref (b 9), .ref (b 10), .ref (b 11), .ref (b 12), .ref (b 13), .ref (b 14), .int tr])), (b 3, .inl (cI, 16, .inl rk)), (b 13, .inl (cI, 240, .inl sh))] := hD
          refine lv_aload_n hx hb dX5_readsHill_85 rfl (lv_at hl 1 rfl) ?_
          refine lv_aload_n hx hb dX5_readsHill_86 rfl (lv_at hl 1 rfl) ?_
          refine va_get (D := D) (ci := 5) (v := .int (-9)) (C := RX5) (T := TX5) (N := 30) hx hb hts hin5 hown hK.1 hP 0 rfl rfl 9 (by decide) (hts _ (List.mem_of_getElem? (i := 3) rfl)) (fun _ h9 => h9) rfl dX5_readsHill_87 ?_
          refine lv_if_le (tgt := 104) hx hb dX5_readsHill_90 (by decide) (fun c_7 => ?_) (fun c_7 => ?_)
          · refine lv_bipush (v := (-9)) hx hb dX5_readsHill_104 (by decide) ?_
            refine va_put (D := D) (ci := 5) (v := .int (-9)) (ty := .int) (C := RX5) (T := TX5) (N := 30) hx hb hts hin5 tyX5 tyX5_ok nmX5 hown hK.1 hP hD hS 0 rfl rfl 10 (by decide) (hts _ (List.mem_of_getElem? (i := 4) rfl)) (fun _ h9 => h9) rfl (by decide +kernel) rfl rfl (Nat.le_of_ble_eq_true rfl) dX5_readsHill_106 (fun H locs hP hD hS => ?_)
            have hP : va_P D vwCl [(b 0, .inr (5, [.int fa, .int (nI h), .int (nI w), .int pc, .int br, .ref (b 1), .ref (b 2), .int (nI 0), .int (-9), .int (-9), .int (-9), .int q4, .ref (b 3), .int fw, .int ea, .int sn, .ref (b 4), .ref (b 5), .ref (b 6), .int mo, .int (nI rc), .ref (b 7), .ref (b 8), .ref (b 9), .ref (b 10), .ref (b 11), .ref (b 12), .ref (b 13), .ref (b 14), .int tr])), (b 3, .inl (cI, 16, .inl rk)), (b 13, .inl (cI, 240, .inl sh))] H := hP
            have hD : va_D A [(b 0, .inr (5, [.int fa, .int (nI h), .int (nI w), .int pc, .int br, .ref (b 1), .ref (b 2), .int (nI 0), .int (-9), .int (-9), .int (-9), .int q4, .ref (b 3), .int fw, .int ea, .int sn, .ref (b 4), .ref (b 5), .ref (b 6), .int mo, .int (nI rc), .ref (b 7), .ref (b 8), .ref (b 9), .ref (b 10), .ref (b 11), .ref (b 12), .ref (b 13), .ref (b 14), .int tr])), (b 3, .inl (cI, 16, .inl rk)), (b 13, .inl (cI, 240, .inl sh))] := hD
            refine lv_aload_n hx hb dX5_readsHill_109 rfl (lv_at hl 1 rfl) ?_
            refine lv_aload_n hx hb dX5_readsHill_110 rfl (lv_at hl 1 rfl) ?_
            refine va_get (D := D) (ci := 5) (v := .int (-9)) (C := RX5) (T := TX5) (N := 30) hx hb hts hin5 hown hK.1 hP 0 rfl rfl 10 (by decide) (hts _ (List.mem_of_getElem? (i := 4) rfl)) (fun _ h9 => h9) rfl dX5_readsHill_111 ?_
            refine lv_if_le (tgt := 129) hx hb dX5_readsHill_114 (by decide) (fun c_8 => ?_) (fun c_8 => ?_)
            · refine lv_bipush (v := (-9)) hx hb dX5_readsHill_129 (by decide) ?_
              refine va_put (D := D) (ci := 5) (v := .int (-9)) (ty := .int) (C := RX5) (T := TX5) (N := 30) hx hb hts hin5 tyX5 tyX5_ok nmX5 hown hK.1 hP hD hS 0 rfl rfl 11 (by decide) (hts _ (List.mem_of_getElem? (i := 5) rfl)) (fun _ h9 => h9) rfl (by decide +kernel) rfl rfl (Nat.le_of_ble_eq_true rfl) dX5_readsHill_131 (fun H locs hP hD hS => ?_)
              have hP : va_P D vwCl [(b 0, .inr (5, [.int fa, .int (nI h), .int (nI w), .int pc, .int br, .ref (b 1), .ref (b 2), .int (nI 0), .int (-9), .int (-9), .int (-9), .int (-9), .ref (b 3), .int fw, .int ea, .int sn, .ref (b 4), .ref (b 5), .ref (b 6), .int mo, .int (nI rc), .ref (b 7), .ref (b 8), .ref (b 9), .ref (b 10), .ref (b 11), .ref (b 12), .ref (b 13), .ref (b 14), .int tr])), (b 3, .inl (cI, 16, .inl rk)), (b 13, .inl (cI, 240, .inl sh))] H := hP
              have hD : va_D A [(b 0, .inr (5, [.int fa, .int (nI h), .int (nI w), .int pc, .int br, .ref (b 1), .ref (b 2), .int (nI 0), .int (-9), .int (-9), .int (-9), .int (-9), .ref (b 3), .int fw, .int ea, .int sn, .ref (b 4), .ref (b 5), .ref (b 6), .int mo, .int (nI rc), .ref (b 7), .ref (b 8), .ref (b 9), .ref (b 10), .ref (b 11), .ref (b 12), .ref (b 13), .ref (b 14), .int tr])), (b 3, .inl (cI, 16, .inl rk)), (b 13, .inl (cI, 240, .inl sh))] := hD
              refine lv_aload_n hx hb dX5_readsHill_134 rfl (lv_at hl 1 rfl) ?_
              refine va_get (D := D) (ci := 5) (v := .int (-9)) (C := RX5) (T := TX5) (N := 30) hx hb hts hin5 hown hK.1 hP 0 rfl rfl 11 (by decide) (hts _ (List.mem_of_getElem? (i := 5) rfl)) (fun _ h9 => h9) rfl dX5_readsHill_135 ?_
              refine lv_if_le (tgt := 145) hx hb dX5_readsHill_138 (by decide) (fun c_9 => ?_) (fun c_9 => ?_)
              · refine lv_iconst (v := 0) hx hb dX5_readsHill_145 (by decide) ?_
                refine lv_istore_n (lv' := [(3, .int 0), (0, .ref (b 0)), (1, .int (nI f)), (2, .int (nI m))]) hx hb dX5_readsHill_146 rfl hl (by decide) rfl (fun ls hl => ?_)
                refine lv_iconst (v := 0) hx hb dX5_readsHill_147 (by decide) ?_
                refine lv_istore (lv' := [(4, .int 0), (3, .int 0), (0, .ref (b 0)), (1, .int (nI f)), (2, .int (nI m))]) hx hb dX5_readsHill_148 hl (by decide) rfl (fun ls hl => ?_)
                refine lv_iload_n hx hb dX5_readsHill_150 rfl (lv_at hl 1 rfl) ?_
                refine lv_if_eq (tgt := 183) hx hb dX5_readsHill_151 (by decide) (fun c_10 => ?_) (fun c_10 => ?_)
                · refine lv_iload_n hx hb dX5_readsHill_183 rfl (lv_at hl 1 rfl) ?_
                  refine lv_if_eq (tgt := 199) hx hb dX5_readsHill_184 (by decide) (fun c_11 => ?_) (fun c_11 => ?_)
                  · refine lv_iconst (v := 0) hx hb dX5_readsHill_199 (by decide) ?_
                    refine mz_ret (v := 0) hx hb hr hlk hP hD hS dX5_readsHill_200 (by decide) ?_
                    obtain ⟨he1, he2⟩ := ff_at hm60 (show 0 ≤ m by omega) hok0 hno9 (fun z => absurd z.2.1 (by have := z.1; omega))
                    exact ⟨0, (-9), (-9), (-9), (-9), rk, b2_0 he2, fun _ => he1.symm, fun z => absurd z he2, rfl⟩
                  · exact absurd c_11 (by decide)
                · exact absurd c_10 (by decide)
              · exact absurd c_9 (by decide)
            · exact absurd c_8 (by decide)
          · exact absurd c_7 (by decide)
        · exact absurd c_6 (by decide)
      · exact absurd c_5 (by decide)
    · exact absurd c_4 (by decide)
  · have h104 := c_3
    have hl0 : 0 < m := (Nat.lt_or_ge 0 m).elim id (fun z => by rw [cd_ge (by omega)] at h104; exact absurd h104 (by decide))
    have hok1 : ∀ q, q < 1 → okT tx ii q := ok_s (fun q z => absurd z (Nat.not_lt_zero q)) (hd_ok (by decide) (Or.inl ⟨rfl, by rw [cd_lt hl0] at h104; exact h104⟩))
    refine lv_iconst (v := 1) hx hb dX5_readsHill_16 (by decide) ?_
    refine lv_goto (tgt := 21) hx hb dX5_readsHill_17 (by decide) ?_
    refine lv_istore_n (lv' := [(3, .int 1), (0, .ref (b 0)), (1, .int (nI f)), (2, .int (nI m))]) hx hb dX5_readsHill_21 rfl hl (by decide) rfl (fun ls hl => ?_)
    refine lv_aload_n hx hb dX5_readsHill_22 rfl (lv_at hl 1 rfl) ?_
    refine lv_dup hx hb dX5_readsHill_23 rfl ?_
    refine va_get (D := D) (ci := 5) (v := .int 0) (C := RX5) (T := TX5) (N := 30) hx hb hts hin5 hown hK.1 hP 0 rfl rfl 7 (by decide) (hts _ (List.mem_of_getElem? (i := 1) rfl)) (fun _ h9 => h9) rfl dX5_readsHill_24 ?_
    refine lv_iload_n hx hb dX5_readsHill_27 rfl (lv_at hl 0 rfl) ?_
    refine lv_if_eq (tgt := 35) hx hb dX5_readsHill_28 (by decide) (fun c_12 => ?_) (fun c_12 => ?_)
    · exact absurd c_12 (by decide)
    · refine lv_iconst (v := 1) hx hb dX5_readsHill_31 (by decide) ?_
      refine lv_goto (tgt := 36) hx hb dX5_readsHill_32 (by decide) ?_
      refine lv_iadd hx hb dX5_readsHill_36 ?_
      refine k_top (y := (nI 1)) rfl ?_
      refine va_put (D := D) (ci := 5) (v := .int (nI 1)) (ty := .int) (C := RX5) (T := TX5) (N := 30) hx hb hts hin5 tyX5 tyX5_ok nmX5 hown hK.1 hP hD hS 0 rfl rfl 7 (by decide) (hts _ (List.mem_of_getElem? (i := 1) rfl)) (fun _ h9 => h9) rfl (by decide +kernel) rfl rfl (Nat.le_of_ble_eq_true rfl) dX5_readsHill_37 (fun H locs hP hD hS => ?_)
      have hP : va_P D vwCl [(b 0, .inr (5, [.int fa, .int (nI h), .int (nI w), .int pc, .int br, .ref (b 1), .ref (b 2), .int (nI 1), .int q1, .int q2, .int q3, .int q4, .ref (b 3), .int fw, .int ea, .int sn, .ref (b 4), .ref (b 5), .ref (b 6), .int mo, .int (nI rc), .ref (b 7), .ref (b 8), .ref (b 9), .ref (b 10), .ref (b 11), .ref (b 12), .ref (b 13), .ref (b 14), .int tr])), (b 3, .inl (cI, 16, .inl rk)), (b 13, .inl (cI, 240, .inl sh))] H := hP
      have hD : va_D A [(b 0, .inr (5, [.int fa, .int (nI h), .int (nI w), .int pc, .int br, .ref (b 1), .ref (b 2), .int (nI 1), .int q1, .int q2, .int q3, .int q4, .ref (b 3), .int fw, .int ea, .int sn, .ref (b 4), .ref (b 5), .ref (b 6), .int mo, .int (nI rc), .ref (b 7), .ref (b 8), .ref (b 9), .ref (b 10), .ref (b 11), .ref (b 12), .ref (b 13), .ref (b 14), .int tr])), (b 3, .inl (cI, 16, .inl rk)), (b 13, .inl (cI, 240, .inl sh))] := hD
      refine lv_aload_n hx hb dX5_readsHill_40 rfl (lv_at hl 1 rfl) ?_
      refine lv_iload_n hx hb dX5_readsHill_41 rfl (lv_at hl 0 rfl) ?_
      refine lv_if_eq (tgt := 56) hx hb dX5_readsHill_42 (by decide) (fun c_13 => ?_) (fun c_13 => ?_)
      · exact absurd c_13 (by decide)
      · refine lv_aload_n hx hb dX5_readsHill_45 rfl (lv_at hl 1 rfl) ?_
        refine lv_iload_n hx hb dX5_readsHill_46 rfl (lv_at hl 2 rfl) ?_
        refine lv_iload_n hx hb dX5_readsHill_47 rfl (lv_at hl 3 rfl) ?_
        refine lv_iconst (v := 1) hx hb dX5_readsHill_48 (by decide) ?_
        refine lv_iconst (v := 4) hx hb dX5_readsHill_49 (by decide) ?_
        refine k_mi (wr := [(b 3, .inl (cI, 16, .inl rk))]) [0, 2] [1] (run_MV (As := [.int (nI f), .int (nI m), .int 1, .int 4]) (rest := [.ref (b 0)]) ⟨hx, hb, hml, hown, hts⟩ (c_X5_figure l D cI cJ cO b fa h w pc br q1 q2 q3 q4 fw ea sn mo rc tr sh tx f ii m 1 1 4 hfm hm60 htx (by decide)) (cwV 4 hts gX5_readsHill_X5_figure rfl rfl rfl (by decide +kernel) ⟨Nat.le_of_ble_eq_true rfl, Nat.le_of_ble_eq_true rfl⟩) hP hK hD [0, 2] (by decide) rfl rfl rfl rfl rfl hl.1 rfl (Nat.le_of_ble_eq_true rfl) dX5_readsHill_50 ⟨Nat.le_refl _, Nat.le_refl _⟩) hP hD hS hA rfl rfl (by decide) (by decide) (fun r_14 w_16 H locs q_15 hP hD hS => ?_)
        obtain ⟨rfl, rfl⟩ := q_15
        have hP : va_P D vwCl [(b 0, .inr (5, [.int fa, .int (nI h), .int (nI w), .int pc, .int br, .ref (b 1), .ref (b 2), .int (nI (fgN tx ii m 1 1 4)), .int q1, .int q2, .int q3, .int q4, .ref (b 3), .int fw, .int ea, .int sn, .ref (b 4), .ref (b 5), .ref (b 6), .int mo, .int (nI rc), .ref (b 7), .ref (b 8), .ref (b 9), .ref (b 10), .ref (b 11), .ref (b 12), .ref (b 13), .ref (b 14), .int tr])), (b 3, .inl (cI, 16, .inl rk)), (b 13, .inl (cI, 240, .inl sh))] H := hP.sub [1, 0, 2] rfl
        have hD : va_D A [(b 0, .inr (5, [.int fa, .int (nI h), .int (nI w), .int pc, .int br, .ref (b 1), .ref (b 2), .int (nI (fgN tx ii m 1 1 4)), .int q1, .int q2, .int q3, .int q4, .ref (b 3), .int fw, .int ea, .int sn, .ref (b 4), .ref (b 5), .ref (b 6), .int mo, .int (nI rc), .ref (b 7), .ref (b 8), .ref (b 9), .ref (b 10), .ref (b 11), .ref (b 12), .ref (b 13), .ref (b 14), .int tr])), (b 3, .inl (cI, 16, .inl rk)), (b 13, .inl (cI, 240, .inl sh))] := hD.sub [1, 0, 2] (by decide) rfl
        by_cases hg1 : fgP tx ii m 1 1 4
        · obtain ⟨hl1, hb1, hv1, hlo1, hhi1⟩ := fg_ok (show (1 : Int) ≤ (1 : Int32).toInt by decide) (show (4 : Int32).toInt ≤ 9 by decide) hg1
          have hlo1 : 1 ≤ hN (tx (ii + 1)) := by have z : (1 : Int) ≤ (hN (tx (ii + 1)) : Int) := hlo1; omega
          have hhi1 : hN (tx (ii + 1)) ≤ 4 := by have z : (hN (tx (ii + 1)) : Int) ≤ (4 : Int) := hhi1; omega
          have hok2 : ∀ q, q < 2 → okT tx ii q := ok_s hok1 (hd_ok (by decide) (by exact Or.inr (Or.inl ⟨rfl, hb1⟩)))
          refine k_top (y := nI (hN (tx (ii + 1)))) (by rw [fgR, if_pos hg1]; exact hv1) ?_
          rw [show fgN tx ii m 1 1 4 = 2 from by rw [fgN, if_pos hg1]] at hP hD
          have hP : va_P D vwCl [(b 0, .inr (5, [.int fa, .int (nI h), .int (nI w), .int pc, .int br, .ref (b 1), .ref (b 2), .int (nI 2), .int q1, .int q2, .int q3, .int q4, .ref (b 3), .int fw, .int ea, .int sn, .ref (b 4), .ref (b 5), .ref (b 6), .int mo, .int (nI rc), .ref (b 7), .ref (b 8), .ref (b 9), .ref (b 10), .ref (b 11), .ref (b 12), .ref (b 13), .ref (b 14), .int tr])), (b 3, .inl (cI, 16, .inl rk)), (b 13, .inl (cI, 240, .inl sh))] H := hP
          have hD : va_D A [(b 0, .inr (5, [.int fa, .int (nI h), .int (nI w), .int pc, .int br, .ref (b 1), .ref (b 2), .int (nI 2), .int q1, .int q2, .int q3, .int q4, .ref (b 3), .int fw, .int ea, .int sn, .ref (b 4), .ref (b 5), .ref (b 6), .int mo, .int (nI rc), .ref (b 7), .ref (b 8), .ref (b 9), .ref (b 10), .ref (b 11), .ref (b 12), .ref (b 13), .ref (b 14), .int tr])), (b 3, .inl (cI, 16, .inl rk)), (b 13, .inl (cI, 240, .inl sh))] := hD
          refine lv_goto (tgt := 58) hx hb dX5_readsHill_53 (by decide) ?_
          refine va_put (D := D) (ci := 5) (v := .int (nI (hN (tx (ii + 1))))) (ty := .int) (C := RX5) (T := TX5) (N := 30) hx hb hts hin5 tyX5 tyX5_ok nmX5 hown hK.1 hP hD hS 0 rfl rfl 8 (by decide) (hts _ (List.mem_of_getElem? (i := 2) rfl)) (fun _ h9 => h9) rfl (by decide +kernel) rfl rfl (Nat.le_of_ble_eq_true rfl) dX5_readsHill_58 (fun H locs hP hD hS => ?_)
          have hP : va_P D vwCl [(b 0, .inr (5, [.int fa, .int (nI h), .int (nI w), .int pc, .int br, .ref (b 1), .ref (b 2), .int (nI 2), .int (nI (hN (tx (ii + 1)))), .int q2, .int q3, .int q4, .ref (b 3), .int fw, .int ea, .int sn, .ref (b 4), .ref (b 5), .ref (b 6), .int mo, .int (nI rc), .ref (b 7), .ref (b 8), .ref (b 9), .ref (b 10), .ref (b 11), .ref (b 12), .ref (b 13), .ref (b 14), .int tr])), (b 3, .inl (cI, 16, .inl rk)), (b 13, .inl (cI, 240, .inl sh))] H := hP
          have hD : va_D A [(b 0, .inr (5, [.int fa, .int (nI h), .int (nI w), .int pc, .int br, .ref (b 1), .ref (b 2), .int (nI 2), .int (nI (hN (tx (ii + 1)))), .int q2, .int q3, .int q4, .ref (b 3), .int fw, .int ea, .int sn, .ref (b 4), .ref (b 5), .ref (b 6), .int mo, .int (nI rc), .ref (b 7), .ref (b 8), .ref (b 9), .ref (b 10), .ref (b 11), .ref (b 12), .ref (b 13), .ref (b 14), .int tr])), (b 3, .inl (cI, 16, .inl rk)), (b 13, .inl (cI, 240, .inl sh))] := hD
          refine lv_aload_n hx hb dX5_readsHill_61 rfl (lv_at hl 1 rfl) ?_
          refine lv_aload_n hx hb dX5_readsHill_62 rfl (lv_at hl 1 rfl) ?_
          refine va_get (D := D) (ci := 5) (v := .int (nI (hN (tx (ii + 1))))) (C := RX5) (T := TX5) (N := 30) hx hb hts hin5 hown hK.1 hP 0 rfl rfl 8 (by decide) (hts _ (List.mem_of_getElem? (i := 2) rfl)) (fun _ h9 => h9) rfl dX5_readsHill_63 ?_
          refine lv_if_le (tgt := 80) hx hb dX5_readsHill_66 (by decide) (fun c_17 => ?_) (fun c_17 => ?_)
          · exact absurd ((nI_leI (a := hN (tx (ii + 1))) (b := 0) (by omega) (by decide)).mp c_17) (by omega)
          · have c_17 : 0 < hN (tx (ii + 1)) := Nat.lt_of_not_le (fun z => c_17 ((nI_leI (a := hN (tx (ii + 1))) (b := 0) (by omega) (by omega)).mpr z))
            refine lv_aload_n hx hb dX5_readsHill_69 rfl (lv_at hl 1 rfl) ?_
            refine lv_iload_n hx hb dX5_readsHill_70 rfl (lv_at hl 2 rfl) ?_
            refine lv_iload_n hx hb dX5_readsHill_71 rfl (lv_at hl 3 rfl) ?_
            refine lv_iconst (v := 2) hx hb dX5_readsHill_72 (by decide) ?_
            refine lv_iconst (v := 4) hx hb dX5_readsHill_73 (by decide) ?_
            refine k_mi (wr := [(b 3, .inl (cI, 16, .inl rk))]) [0, 2] [1] (run_MV (As := [.int (nI f), .int (nI m), .int 2, .int 4]) (rest := [.ref (b 0)]) ⟨hx, hb, hml, hown, hts⟩ (c_X5_figure l D cI cJ cO b fa h w pc br (nI (hN (tx (ii + 1)))) q2 q3 q4 fw ea sn mo rc tr sh tx f ii m 2 2 4 hfm hm60 htx (by decide)) (cwV 4 hts gX5_readsHill_X5_figure rfl rfl rfl (by decide +kernel) ⟨Nat.le_of_ble_eq_true rfl, Nat.le_of_ble_eq_true rfl⟩) hP hK hD [0, 2] (by decide) rfl rfl rfl rfl rfl hl.1 rfl (Nat.le_of_ble_eq_true rfl) dX5_readsHill_74 ⟨Nat.le_refl _, Nat.le_refl _⟩) hP hD hS hA rfl rfl (by decide) (by decide) (fun r_18 w_20 H locs q_19 hP hD hS => ?_)
            obtain ⟨rfl, rfl⟩ := q_19
            have hP : va_P D vwCl [(b 0, .inr (5, [.int fa, .int (nI h), .int (nI w), .int pc, .int br, .ref (b 1), .ref (b 2), .int (nI (fgN tx ii m 2 2 4)), .int (nI (hN (tx (ii + 1)))), .int q2, .int q3, .int q4, .ref (b 3), .int fw, .int ea, .int sn, .ref (b 4), .ref (b 5), .ref (b 6), .int mo, .int (nI rc), .ref (b 7), .ref (b 8), .ref (b 9), .ref (b 10), .ref (b 11), .ref (b 12), .ref (b 13), .ref (b 14), .int tr])), (b 3, .inl (cI, 16, .inl rk)), (b 13, .inl (cI, 240, .inl sh))] H := hP.sub [1, 0, 2] rfl
            have hD : va_D A [(b 0, .inr (5, [.int fa, .int (nI h), .int (nI w), .int pc, .int br, .ref (b 1), .ref (b 2), .int (nI (fgN tx ii m 2 2 4)), .int (nI (hN (tx (ii + 1)))), .int q2, .int q3, .int q4, .ref (b 3), .int fw, .int ea, .int sn, .ref (b 4), .ref (b 5), .ref (b 6), .int mo, .int (nI rc), .ref (b 7), .ref (b 8), .ref (b 9), .ref (b 10), .ref (b 11), .ref (b 12), .ref (b 13), .ref (b 14), .int tr])), (b 3, .inl (cI, 16, .inl rk)), (b 13, .inl (cI, 240, .inl sh))] := hD.sub [1, 0, 2] (by decide) rfl
            by_cases hg2 : fgP tx ii m 2 2 4
            · obtain ⟨hl2, hb2, hv2, hlo2, hhi2⟩ := fg_ok (show (1 : Int) ≤ (2 : Int32).toInt by decide) (show (4 : Int32).toInt ≤ 9 by decide) hg2
              have hlo2 : 2 ≤ hN (tx (ii + 2)) := by have z : (2 : Int) ≤ (hN (tx (ii + 2)) : Int) := hlo2; omega
              have hhi2 : hN (tx (ii + 2)) ≤ 4 := by have z : (hN (tx (ii + 2)) : Int) ≤ (4 : Int) := hhi2; omega
              have hok3 : ∀ q, q < 3 → okT tx ii q := ok_s hok2 (hd_ok (by decide) (by exact Or.inr (Or.inr (Or.inl ⟨rfl, hb2⟩))))
              refine k_top (y := nI (hN (tx (ii + 2)))) (by rw [fgR, if_pos hg2]; exact hv2) ?_
              rw [show fgN tx ii m 2 2 4 = 3 from by rw [fgN, if_pos hg2]] at hP hD
              have hP : va_P D vwCl [(b 0, .inr (5, [.int fa, .int (nI h), .int (nI w), .int pc, .int br, .ref (b 1), .ref (b 2), .int (nI 3), .int (nI (hN (tx (ii + 1)))), .int q2, .int q3, .int q4, .ref (b 3), .int fw, .int ea, .int sn, .ref (b 4), .ref (b 5), .ref (b 6), .int mo, .int (nI rc), .ref (b 7), .ref (b 8), .ref (b 9), .ref (b 10), .ref (b 11), .ref (b 12), .ref (b 13), .ref (b 14), .int tr])), (b 3, .inl (cI, 16, .inl rk)), (b 13, .inl (cI, 240, .inl sh))] H := hP
              have hD : va_D A [(b 0, .inr (5, [.int fa, .int (nI h), .int (nI w), .int pc, .int br, .ref (b 1), .ref (b 2), .int (nI 3), .int (nI (hN (tx (ii + 1)))), .int q2, .int q3, .int q4, .ref (b 3), .int fw, .int ea, .int sn, .ref (b 4), .ref (b 5), .ref (b 6), .int mo, .int (nI rc), .ref (b 7), .ref (b 8), .ref (b 9), .ref (b 10), .ref (b 11), .ref (b 12), .ref (b 13), .ref (b 14), .int tr])), (b 3, .inl (cI, 16, .inl rk)), (b 13, .inl (cI, 240, .inl sh))] := hD
              refine lv_goto (tgt := 82) hx hb dX5_readsHill_77 (by decide) ?_
              refine va_put (D := D) (ci := 5) (v := .int (nI (hN (tx (ii + 2))))) (ty := .int) (C := RX5) (T := TX5) (N := 30) hx hb hts hin5 tyX5 tyX5_ok nmX5 hown hK.1 hP hD hS 0 rfl rfl 9 (by decide) (hts _ (List.mem_of_getElem? (i := 3) rfl)) (fun _ h9 => h9) rfl (by decide +kernel) rfl rfl (Nat.le_of_ble_eq_true rfl) dX5_readsHill_82 (fun H locs hP hD hS => ?_)
              have hP : va_P D vwCl [(b 0, .inr (5, [.int fa, .int (nI h), .int (nI w), .int pc, .int br, .ref (b 1), .ref (b 2), .int (nI 3), .int (nI (hN (tx (ii + 1)))), .int (nI (hN (tx (ii + 2)))), .int q3, .int q4, .ref (b 3), .int fw, .int ea, .int sn, .ref (b 4), .ref (b 5), .ref (b 6), .int mo, .int (nI rc), .ref (b 7), .ref (b 8), .ref (b 9), .ref (b 10), .ref (b 11), .ref (b 12), .ref (b 13), .ref (b 14), .int tr])), (b 3, .inl (cI, 16, .inl rk)), (b 13, .inl (cI, 240, .inl sh))] H := hP
              have hD : va_D A [(b 0, .inr (5, [.int fa, .int (nI h), .int (nI w), .int pc, .int br, .ref (b 1), .ref (b 2), .int (nI 3), .int (nI (hN (tx (ii + 1)))), .int (nI (hN (tx (ii + 2)))), .int q3, .int q4, .ref (b 3), .int fw, .int ea, .int sn, .ref (b 4), .ref (b 5), .ref (b 6), .int mo, .int (nI rc), .ref (b 7), .ref (b 8), .ref (b 9), .ref (b 10), .ref (b 11), .ref (b 12), .ref (b 13), .ref (b 14), .int tr])), (b 3, .inl (cI, 16, .inl rk)), (b 13, .inl (cI, 240, .inl sh))] := hD
              refine lv_aload_n hx hb dX5_readsHill_85 rfl (lv_at hl 1 rfl) ?_
              refine lv_aload_n hx hb dX5_readsHill_86 rfl (lv_at hl 1 rfl) ?_
              refine va_get (D := D) (ci := 5) (v := .int (nI (hN (tx (ii + 2))))) (C := RX5) (T := TX5) (N := 30) hx hb hts hin5 hown hK.1 hP 0 rfl rfl 9 (by decide) (hts _ (List.mem_of_getElem? (i := 3) rfl)) (fun _ h9 => h9) rfl dX5_readsHill_87 ?_
              refine lv_if_le (tgt := 104) hx hb dX5_readsHill_90 (by decide) (fun c_21 => ?_) (fun c_21 => ?_)
              · exact absurd ((nI_leI (a := hN (tx (ii + 2))) (b := 0) (by omega) (by decide)).mp c_21) (by omega)
              · have c_21 : 0 < hN (tx (ii + 2)) := Nat.lt_of_not_le (fun z => c_21 ((nI_leI (a := hN (tx (ii + 2))) (b := 0) (by omega) (by omega)).mpr z))
                refine lv_aload_n hx hb dX5_readsHill_93 rfl (lv_at hl 1 rfl) ?_
                refine lv_iload_n hx hb dX5_readsHill_94 rfl (lv_at hl 2 rfl) ?_
                refine lv_iload_n hx hb dX5_readsHill_95 rfl (lv_at hl 3 rfl) ?_
                refine lv_iconst (v := 1) hx hb dX5_readsHill_96 (by decide) ?_
                refine lv_iconst (v := 3) hx hb dX5_readsHill_97 (by decide) ?_
                refine k_mi (wr := [(b 3, .inl (cI, 16, .inl rk))]) [0, 2] [1] (run_MV (As := [.int (nI f), .int (nI m), .int 1, .int 3]) (rest := [.ref (b 0)]) ⟨hx, hb, hml, hown, hts⟩ (c_X5_figure l D cI cJ cO b fa h w pc br (nI (hN (tx (ii + 1)))) (nI (hN (tx (ii + 2)))) q3 q4 fw ea sn mo rc tr sh tx f ii m 3 1 3 hfm hm60 htx (by decide)) (cwV 4 hts gX5_readsHill_X5_figure rfl rfl rfl (by decide +kernel) ⟨Nat.le_of_ble_eq_true rfl, Nat.le_of_ble_eq_true rfl⟩) hP hK hD [0, 2] (by decide) rfl rfl rfl rfl rfl hl.1 rfl (Nat.le_of_ble_eq_true rfl) dX5_readsHill_98 ⟨Nat.le_refl _, Nat.le_refl _⟩) hP hD hS hA rfl rfl (by decide) (by decide) (fun r_22 w_24 H locs q_23 hP hD hS => ?_)
                obtain ⟨rfl, rfl⟩ := q_23
                have hP : va_P D vwCl [(b 0, .inr (5, [.int fa, .int (nI h), .int (nI w), .int pc, .int br, .ref (b 1), .ref (b 2), .int (nI (fgN tx ii m 3 1 3)), .int (nI (hN (tx (ii + 1)))), .int (nI (hN (tx (ii + 2)))), .int q3, .int q4, .ref (b 3), .int fw, .int ea, .int sn, .ref (b 4), .ref (b 5), .ref (b 6), .int mo, .int (nI rc), .ref (b 7), .ref (b 8), .ref (b 9), .ref (b 10), .ref (b 11), .ref (b 12), .ref (b 13), .ref (b 14), .int tr])), (b 3, .inl (cI, 16, .inl rk)), (b 13, .inl (cI, 240, .inl sh))] H := hP.sub [1, 0, 2] rfl
                have hD : va_D A [(b 0, .inr (5, [.int fa, .int (nI h), .int (nI w), .int pc, .int br, .ref (b 1), .ref (b 2), .int (nI (fgN tx ii m 3 1 3)), .int (nI (hN (tx (ii + 1)))), .int (nI (hN (tx (ii + 2)))), .int q3, .int q4, .ref (b 3), .int fw, .int ea, .int sn, .ref (b 4), .ref (b 5), .ref (b 6), .int mo, .int (nI rc), .ref (b 7), .ref (b 8), .ref (b 9), .ref (b 10), .ref (b 11), .ref (b 12), .ref (b 13), .ref (b 14), .int tr])), (b 3, .inl (cI, 16, .inl rk)), (b 13, .inl (cI, 240, .inl sh))] := hD.sub [1, 0, 2] (by decide) rfl
                by_cases hg3 : fgP tx ii m 3 1 3
                · obtain ⟨hl3, hb3, hv3, hlo3, hhi3⟩ := fg_ok (show (1 : Int) ≤ (1 : Int32).toInt by decide) (show (3 : Int32).toInt ≤ 9 by decide) hg3
                  have hlo3 : 1 ≤ hN (tx (ii + 3)) := by have z : (1 : Int) ≤ (hN (tx (ii + 3)) : Int) := hlo3; omega
                  have hhi3 : hN (tx (ii + 3)) ≤ 3 := by have z : (hN (tx (ii + 3)) : Int) ≤ (3 : Int) := hhi3; omega
                  have hok4 : ∀ q, q < 4 → okT tx ii q := ok_s hok3 (hd_ok (by decide) (by exact Or.inr (Or.inr (Or.inr (Or.inl ⟨rfl, hb3⟩)))))
                  refine k_top (y := nI (hN (tx (ii + 3)))) (by rw [fgR, if_pos hg3]; exact hv3) ?_
                  rw [show fgN tx ii m 3 1 3 = 4 from by rw [fgN, if_pos hg3]] at hP hD
                  have hP : va_P D vwCl [(b 0, .inr (5, [.int fa, .int (nI h), .int (nI w), .int pc, .int br, .ref (b 1), .ref (b 2), .int (nI 4), .int (nI (hN (tx (ii + 1)))), .int (nI (hN (tx (ii + 2)))), .int q3, .int q4, .ref (b 3), .int fw, .int ea, .int sn, .ref (b 4), .ref (b 5), .ref (b 6), .int mo, .int (nI rc), .ref (b 7), .ref (b 8), .ref (b 9), .ref (b 10), .ref (b 11), .ref (b 12), .ref (b 13), .ref (b 14), .int tr])), (b 3, .inl (cI, 16, .inl rk)), (b 13, .inl (cI, 240, .inl sh))] H := hP
                  have hD : va_D A [(b 0, .inr (5, [.int fa, .int (nI h), .int (nI w), .int pc, .int br, .ref (b 1), .ref (b 2), .int (nI 4), .int (nI (hN (tx (ii + 1)))), .int (nI (hN (tx (ii + 2)))), .int q3, .int q4, .ref (b 3), .int fw, .int ea, .int sn, .ref (b 4), .ref (b 5), .ref (b 6), .int mo, .int (nI rc), .ref (b 7), .ref (b 8), .ref (b 9), .ref (b 10), .ref (b 11), .ref (b 12), .ref (b 13), .ref (b 14), .int tr])), (b 3, .inl (cI, 16, .inl rk)), (b 13, .inl (cI, 240, .inl sh))] := hD
                  refine lv_goto (tgt := 106) hx hb dX5_readsHill_101 (by decide) ?_
                  refine va_put (D := D) (ci := 5) (v := .int (nI (hN (tx (ii + 3))))) (ty := .int) (C := RX5) (T := TX5) (N := 30) hx hb hts hin5 tyX5 tyX5_ok nmX5 hown hK.1 hP hD hS 0 rfl rfl 10 (by decide) (hts _ (List.mem_of_getElem? (i := 4) rfl)) (fun _ h9 => h9) rfl (by decide +kernel) rfl rfl (Nat.le_of_ble_eq_true rfl) dX5_readsHill_106 (fun H locs hP hD hS => ?_)
                  have hP : va_P D vwCl [(b 0, .inr (5, [.int fa, .int (nI h), .int (nI w), .int pc, .int br, .ref (b 1), .ref (b 2), .int (nI 4), .int (nI (hN (tx (ii + 1)))), .int (nI (hN (tx (ii + 2)))), .int (nI (hN (tx (ii + 3)))), .int q4, .ref (b 3), .int fw, .int ea, .int sn, .ref (b 4), .ref (b 5), .ref (b 6), .int mo, .int (nI rc), .ref (b 7), .ref (b 8), .ref (b 9), .ref (b 10), .ref (b 11), .ref (b 12), .ref (b 13), .ref (b 14), .int tr])), (b 3, .inl (cI, 16, .inl rk)), (b 13, .inl (cI, 240, .inl sh))] H := hP
                  have hD : va_D A [(b 0, .inr (5, [.int fa, .int (nI h), .int (nI w), .int pc, .int br, .ref (b 1), .ref (b 2), .int (nI 4), .int (nI (hN (tx (ii + 1)))), .int (nI (hN (tx (ii + 2)))), .int (nI (hN (tx (ii + 3)))), .int q4, .ref (b 3), .int fw, .int ea, .int sn, .ref (b 4), .ref (b 5), .ref (b 6), .int mo, .int (nI rc), .ref (b 7), .ref (b 8), .ref (b 9), .ref (b 10), .ref (b 11), .ref (b 12), .ref (b 13), .ref (b 14), .int tr])), (b 3, .inl (cI, 16, .inl rk)), (b 13, .inl (cI, 240, .inl sh))] := hD
                  refine lv_aload_n hx hb dX5_readsHill_109 rfl (lv_at hl 1 rfl) ?_
                  refine lv_aload_n hx hb dX5_readsHill_110 rfl (lv_at hl 1 rfl) ?_
                  refine va_get (D := D) (ci := 5) (v := .int (nI (hN (tx (ii + 3))))) (C := RX5) (T := TX5) (N := 30) hx hb hts hin5 hown hK.1 hP 0 rfl rfl 10 (by decide) (hts _ (List.mem_of_getElem? (i := 4) rfl)) (fun _ h9 => h9) rfl dX5_readsHill_111 ?_
                  refine lv_if_le (tgt := 129) hx hb dX5_readsHill_114 (by decide) (fun c_25 => ?_) (fun c_25 => ?_)
                  · exact absurd ((nI_leI (a := hN (tx (ii + 3))) (b := 0) (by omega) (by decide)).mp c_25) (by omega)
                  · have c_25 : 0 < hN (tx (ii + 3)) := Nat.lt_of_not_le (fun z => c_25 ((nI_leI (a := hN (tx (ii + 3))) (b := 0) (by omega) (by omega)).mpr z))
                    refine lv_aload_n hx hb dX5_readsHill_117 rfl (lv_at hl 1 rfl) ?_
                    refine lv_iload_n hx hb dX5_readsHill_118 rfl (lv_at hl 2 rfl) ?_
                    refine lv_iload_n hx hb dX5_readsHill_119 rfl (lv_at hl 3 rfl) ?_
                    refine lv_iconst (v := 1) hx hb dX5_readsHill_120 (by decide) ?_
                    refine lv_bipush (v := 9) hx hb dX5_readsHill_121 (by decide) ?_
                    refine k_mi (wr := [(b 3, .inl (cI, 16, .inl rk))]) [0, 2] [1] (run_MV (As := [.int (nI f), .int (nI m), .int 1, .int 9]) (rest := [.ref (b 0)]) ⟨hx, hb, hml, hown, hts⟩ (c_X5_figure l D cI cJ cO b fa h w pc br (nI (hN (tx (ii + 1)))) (nI (hN (tx (ii + 2)))) (nI (hN (tx (ii + 3)))) q4 fw ea sn mo rc tr sh tx f ii m 4 1 9 hfm hm60 htx (by decide)) (cwV 4 hts gX5_readsHill_X5_figure rfl rfl rfl (by decide +kernel) ⟨Nat.le_of_ble_eq_true rfl, Nat.le_of_ble_eq_true rfl⟩) hP hK hD [0, 2] (by decide) rfl rfl rfl rfl rfl hl.1 rfl (Nat.le_of_ble_eq_true rfl) dX5_readsHill_123 ⟨Nat.le_refl _, Nat.le_refl _⟩) hP hD hS hA rfl rfl (by decide) (by decide) (fun r_26 w_28 H locs q_27 hP hD hS => ?_)
                    obtain ⟨rfl, rfl⟩ := q_27
                    have hP : va_P D vwCl [(b 0, .inr (5, [.int fa, .int (nI h), .int (nI w), .int pc, .int br, .ref (b 1), .ref (b 2), .int (nI (fgN tx ii m 4 1 9)), .int (nI (hN (tx (ii + 1)))), .int (nI (hN (tx (ii + 2)))), .int (nI (hN (tx (ii + 3)))), .int q4, .ref (b 3), .int fw, .int ea, .int sn, .ref (b 4), .ref (b 5), .ref (b 6), .int mo, .int (nI rc), .ref (b 7), .ref (b 8), .ref (b 9), .ref (b 10), .ref (b 11), .ref (b 12), .ref (b 13), .ref (b 14), .int tr])), (b 3, .inl (cI, 16, .inl rk)), (b 13, .inl (cI, 240, .inl sh))] H := hP.sub [1, 0, 2] rfl
                    have hD : va_D A [(b 0, .inr (5, [.int fa, .int (nI h), .int (nI w), .int pc, .int br, .ref (b 1), .ref (b 2), .int (nI (fgN tx ii m 4 1 9)), .int (nI (hN (tx (ii + 1)))), .int (nI (hN (tx (ii + 2)))), .int (nI (hN (tx (ii + 3)))), .int q4, .ref (b 3), .int fw, .int ea, .int sn, .ref (b 4), .ref (b 5), .ref (b 6), .int mo, .int (nI rc), .ref (b 7), .ref (b 8), .ref (b 9), .ref (b 10), .ref (b 11), .ref (b 12), .ref (b 13), .ref (b 14), .int tr])), (b 3, .inl (cI, 16, .inl rk)), (b 13, .inl (cI, 240, .inl sh))] := hD.sub [1, 0, 2] (by decide) rfl
                    by_cases hg4 : fgP tx ii m 4 1 9
                    · obtain ⟨hl4, hb4, hv4, hlo4, hhi4⟩ := fg_ok (show (1 : Int) ≤ (1 : Int32).toInt by decide) (show (9 : Int32).toInt ≤ 9 by decide) hg4
                      have hlo4 : 1 ≤ hN (tx (ii + 4)) := by have z : (1 : Int) ≤ (hN (tx (ii + 4)) : Int) := hlo4; omega
                      have hhi4 : hN (tx (ii + 4)) ≤ 9 := by have z : (hN (tx (ii + 4)) : Int) ≤ (9 : Int) := hhi4; omega
                      have hok5 : ∀ q, q < 5 → okT tx ii q := ok_s hok4 (hd_ok (by decide) (by exact Or.inr (Or.inr (Or.inr (Or.inr ⟨by decide, hb4⟩)))))
                      refine k_top (y := nI (hN (tx (ii + 4)))) (by rw [fgR, if_pos hg4]; exact hv4) ?_
                      rw [show fgN tx ii m 4 1 9 = 5 from by rw [fgN, if_pos hg4]] at hP hD
                      have hP : va_P D vwCl [(b 0, .inr (5, [.int fa, .int (nI h), .int (nI w), .int pc, .int br, .ref (b 1), .ref (b 2), .int (nI 5), .int (nI (hN (tx (ii + 1)))), .int (nI (hN (tx (ii + 2)))), .int (nI (hN (tx (ii + 3)))), .int q4, .ref (b 3), .int fw, .int ea, .int sn, .ref (b 4), .ref (b 5), .ref (b 6), .int mo, .int (nI rc), .ref (b 7), .ref (b 8), .ref (b 9), .ref (b 10), .ref (b 11), .ref (b 12), .ref (b 13), .ref (b 14), .int tr])), (b 3, .inl (cI, 16, .inl rk)), (b 13, .inl (cI, 240, .inl sh))] H := hP
                      have hD : va_D A [(b 0, .inr (5, [.int fa, .int (nI h), .int (nI w), .int pc, .int br, .ref (b 1), .ref (b 2), .int (nI 5), .int (nI (hN (tx (ii + 1)))), .int (nI (hN (tx (ii + 2)))), .int (nI (hN (tx (ii + 3)))), .int q4, .ref (b 3), .int fw, .int ea, .int sn, .ref (b 4), .ref (b 5), .ref (b 6), .int mo, .int (nI rc), .ref (b 7), .ref (b 8), .ref (b 9), .ref (b 10), .ref (b 11), .ref (b 12), .ref (b 13), .ref (b 14), .int tr])), (b 3, .inl (cI, 16, .inl rk)), (b 13, .inl (cI, 240, .inl sh))] := hD
                      refine lv_goto (tgt := 131) hx hb dX5_readsHill_126 (by decide) ?_
                      refine va_put (D := D) (ci := 5) (v := .int (nI (hN (tx (ii + 4))))) (ty := .int) (C := RX5) (T := TX5) (N := 30) hx hb hts hin5 tyX5 tyX5_ok nmX5 hown hK.1 hP hD hS 0 rfl rfl 11 (by decide) (hts _ (List.mem_of_getElem? (i := 5) rfl)) (fun _ h9 => h9) rfl (by decide +kernel) rfl rfl (Nat.le_of_ble_eq_true rfl) dX5_readsHill_131 (fun H locs hP hD hS => ?_)
                      have hP : va_P D vwCl [(b 0, .inr (5, [.int fa, .int (nI h), .int (nI w), .int pc, .int br, .ref (b 1), .ref (b 2), .int (nI 5), .int (nI (hN (tx (ii + 1)))), .int (nI (hN (tx (ii + 2)))), .int (nI (hN (tx (ii + 3)))), .int (nI (hN (tx (ii + 4)))), .ref (b 3), .int fw, .int ea, .int sn, .ref (b 4), .ref (b 5), .ref (b 6), .int mo, .int (nI rc), .ref (b 7), .ref (b 8), .ref (b 9), .ref (b 10), .ref (b 11), .ref (b 12), .ref (b 13), .ref (b 14), .int tr])), (b 3, .inl (cI, 16, .inl rk)), (b 13, .inl (cI, 240, .inl sh))] H := hP
                      have hD : va_D A [(b 0, .inr (5, [.int fa, .int (nI h), .int (nI w), .int pc, .int br, .ref (b 1), .ref (b 2), .int (nI 5), .int (nI (hN (tx (ii + 1)))), .int (nI (hN (tx (ii + 2)))), .int (nI (hN (tx (ii + 3)))), .int (nI (hN (tx (ii + 4)))), .ref (b 3), .int fw, .int ea, .int sn, .ref (b 4), .ref (b 5), .ref (b 6), .int mo, .int (nI rc), .ref (b 7), .ref (b 8), .ref (b 9), .ref (b 10), .ref (b 11), .ref (b 12), .ref (b 13), .ref (b 14), .int tr])), (b 3, .inl (cI, 16, .inl rk)), (b 13, .inl (cI, 240, .inl sh))] := hD
                      refine lv_aload_n hx hb dX5_readsHill_134 rfl (lv_at hl 1 rfl) ?_
                      refine va_get (D := D) (ci := 5) (v := .int (nI (hN (tx (ii + 4))))) (C := RX5) (T := TX5) (N := 30) hx hb hts hin5 hown hK.1 hP 0 rfl rfl 11 (by decide) (hts _ (List.mem_of_getElem? (i := 5) rfl)) (fun _ h9 => h9) rfl dX5_readsHill_135 ?_
                      refine lv_if_le (tgt := 145) hx hb dX5_readsHill_138 (by decide) (fun c_29 => ?_) (fun c_29 => ?_)
                      · exact absurd ((nI_leI (a := hN (tx (ii + 4))) (b := 0) (by omega) (by decide)).mp c_29) (by omega)
                      · have c_29 : 0 < hN (tx (ii + 4)) := Nat.lt_of_not_le (fun z => c_29 ((nI_leI (a := hN (tx (ii + 4))) (b := 0) (by omega) (by omega)).mpr z))
                        refine lv_iconst (v := 1) hx hb dX5_readsHill_141 (by decide) ?_
                        refine lv_goto (tgt := 146) hx hb dX5_readsHill_142 (by decide) ?_
                        refine lv_istore_n (lv' := [(3, .int 1), (0, .ref (b 0)), (1, .int (nI f)), (2, .int (nI m))]) hx hb dX5_readsHill_146 rfl hl (by decide) rfl (fun ls hl => ?_)
                        have hhw : hN (tx (ii + 1)) * hN (tx (ii + 2)) ≤ 16 := Nat.mul_le_mul hhi1 hhi2
                        have hv3' : nI (hN (tx (ii + 3))) = tx (ii + 3) - 48 := by rw [← hv3, cd_lt hl3]
                        have hv4' : nI (hN (tx (ii + 4))) = tx (ii + 4) - 48 := by rw [← hv4, cd_lt hl4]
                        refine lv_iconst (v := 0) hx hb dX5_readsHill_147 (by decide) ?_
                        refine lv_istore (lv' := [(4, .int 0), (3, .int 1), (0, .ref (b 0)), (1, .int (nI f)), (2, .int (nI m))]) hx hb dX5_readsHill_148 hl (by decide) rfl (fun ls hl => ?_)
                        have key_31 : ∀ (n_30 : Nat) (c : Nat) (p : Nat) (o : Nat) (rk : Nat → Int32), (c ≤ hN (tx (ii + 1)) * hN (tx (ii + 2))) → (o ≤ 1) → (rlI tx ii m (hN (tx (ii + 2))) (hN (tx (ii + 1))) c p o rk) → hN (tx (ii + 1)) * hN (tx (ii + 2)) - c < n_30 → ∀ (H : Heap) (locs : List Loc), va_P D vwCl [(b 0, .inr (5, [.int fa, .int (nI h), .int (nI w), .int pc, .int br, .ref (b 1), .ref (b 2), .int (nI p), .int (nI (hN (tx (ii + 1)))), .int (nI (hN (tx (ii + 2)))), .int (nI (hN (tx (ii + 3)))), .int (nI (hN (tx (ii + 4)))), .ref (b 3), .int fw, .int ea, .int sn, .ref (b 4), .ref (b 5), .ref (b 6), .int mo, .int (nI rc), .ref (b 7), .ref (b 8), .ref (b 9), .ref (b 10), .ref (b 11), .ref (b 12), .ref (b 13), .ref (b 14), .int tr])), (b 3, .inl (cI, 16, .inl rk)), (b 13, .inl (cI, 240, .inl sh))] H → va_D A [(b 0, .inr (5, [.int fa, .int (nI h), .int (nI w), .int pc, .int br, .ref (b 1), .ref (b 2), .int (nI p), .int (nI (hN (tx (ii + 1)))), .int (nI (hN (tx (ii + 2)))), .int (nI (hN (tx (ii + 3)))), .int (nI (hN (tx (ii + 4)))), .ref (b 3), .int fw, .int ea, .int sn, .ref (b 4), .ref (b 5), .ref (b 6), .int mo, .int (nI rc), .ref (b 7), .ref (b 8), .ref (b 9), .ref (b 10), .ref (b 11), .ref (b 12), .ref (b 13), .ref (b 14), .int tr])), (b 3, .inl (cI, 16, .inl rk)), (b 13, .inl (cI, 240, .inl sh))] → va_S A S_.heap H locs → ∀ ls : Array Slot, lv_has ls 5 [(0, .ref (b 0)), (1, .int (nI f)), (2, .int (nI m)), (3, .int (nI o)), (4, .int (nI c))] → W P_ l E_ ({ frames := 2, cells := 0, slots := 0, locals := 51 } : Room) S_ M_ (([.ref (b 0), .int (nI f), .int (nI m)] : List Value).toArray) B_ T_ K_ H locs 0 0 (MQ B_ ((QI D (fun (r : Int32) (w1 : va_W) => ∃ (p2 : Nat) (u1 : Int32) (u2 : Int32) (u3 : Int32) (u4 : Int32) (rk2 : Nat → Int32), r = (b2 (ffR tx ii m = -9)) ∧ (¬ ffR tx ii m = -9 → nI p2 = ffR tx ii m) ∧ (ffR tx ii m = -9 → u1 = nI (hN (tx (ii + 1))) ∧ u2 = nI (hN (tx (ii + 2))) ∧ u3 = tx (ii + 3) - 48 ∧ u4 = tx (ii + 4) - 48 ∧ ∀ q, q < hN (tx (ii + 1)) * hN (tx (ii + 2)) → rk2 q = kdT tx ii (hN (tx (ii + 2))) q) ∧ w1 = [(b 0, .inr (5, [.int fa, .int (nI h), .int (nI w), .int pc, .int br, .ref (b 1), .ref (b 2), .int (nI p2), .int u1, .int u2, .int u3, .int u4, .ref (b 3), .int fw, .int ea, .int sn, .ref (b 4), .ref (b 5), .ref (b 6), .int mo, .int (nI rc), .ref (b 7), .ref (b 8), .ref (b 9), .ref (b 10), .ref (b 11), .ref (b 12), .ref (b 13), .ref (b 14), .int tr])), (b 3, .inl (cI, 16, .inl rk2)), (b 13, .inl (cI, 240, .inl sh))])) A) (([.ref (b 0), .int (nI f), .int (nI m)] : List Value).toArray) S_ 0 0 A) (F0 M_ 150 ls []) := by
                          intro n_30
                          induction n_30 with
                          | zero =>
                            intro c p o rk hk ho hI hmu_n_30
                            exact absurd hmu_n_30 (Nat.not_lt_zero _)
                          | succ n_30 ih_32 =>
                            intro c p o rk hk ho hI hmu_n_30 H locs hP hD hS ls hl
                            have hl : lv_has ls 5 [(0, .ref (b 0)), (1, .int (nI f)), (2, .int (nI m)), (3, .int (nI o)), (4, .int (nI c))] := hl
                            have hP : va_P D vwCl [(b 0, .inr (5, [.int fa, .int (nI h), .int (nI w), .int pc, .int br, .ref (b 1), .ref (b 2), .int (nI p), .int (nI (hN (tx (ii + 1)))), .int (nI (hN (tx (ii + 2)))), .int (nI (hN (tx (ii + 3)))), .int (nI (hN (tx (ii + 4)))), .ref (b 3), .int fw, .int ea, .int sn, .ref (b 4), .ref (b 5), .ref (b 6), .int mo, .int (nI rc), .ref (b 7), .ref (b 8), .ref (b 9), .ref (b 10), .ref (b 11), .ref (b 12), .ref (b 13), .ref (b 14), .int tr])), (b 3, .inl (cI, 16, .inl rk)), (b 13, .inl (cI, 240, .inl sh))] H := hP
                            have hD : va_D A [(b 0, .inr (5, [.int fa, .int (nI h), .int (nI w), .int pc, .int br, .ref (b 1), .ref (b 2), .int (nI p), .int (nI (hN (tx (ii + 1)))), .int (nI (hN (tx (ii + 2)))), .int (nI (hN (tx (ii + 3)))), .int (nI (hN (tx (ii + 4)))), .ref (b 3), .int fw, .int ea, .int sn, .ref (b 4), .ref (b 5), .ref (b 6), .int mo, .int (nI rc), .ref (b 7), .ref (b 8), .ref (b 9), .ref (b 10), .ref (b 11), .ref (b 12), .ref (b 13), .ref (b 14), .int tr])), (b 3, .inl (cI, 16, .inl rk)), (b 13, .inl (cI, 240, .inl sh))] := hD
                            refine lv_iload_n hx hb dX5_readsHill_150 rfl (lv_at hl 3 rfl) ?_
                            refine lv_if_eq (tgt := 183) hx hb dX5_readsHill_151 (by decide) (fun c_33 => ?_) (fun c_33 => ?_)
                            · have c_33 : o = 0 := (nI_eq (a := o) (b := 0) (by omega) (by omega)).mp c_33
                              refine lv_iload_n hx hb dX5_readsHill_183 rfl (lv_at hl 3 rfl) ?_
                              refine lv_if_eq (tgt := 199) hx hb dX5_readsHill_184 (by decide) (fun c_34 => ?_) (fun c_34 => ?_)
                              · have c_34 : o = 0 := (nI_eq (a := o) (b := 0) (by omega) (by omega)).mp c_34
                                refine lv_iconst (v := 0) hx hb dX5_readsHill_199 (by decide) ?_
                                refine mz_ret (v := 0) hx hb hr hlk hP hD hS dX5_readsHill_200 (by decide) ?_
                                obtain ⟨-, hp1, hp2, hp3, hp4⟩ := hI.resolve_left (fun z => absurd z.1 (by omega))
                                obtain ⟨he1, he2⟩ := ff_at hm60 hp1 hp2 hp3 (fun z => absurd hp4 (by have z1 := z.1; have z2 := z.2.2; omega))
                                exact ⟨p, (nI (hN (tx (ii + 1)))), (nI (hN (tx (ii + 2)))), (nI (hN (tx (ii + 3)))), (nI (hN (tx (ii + 4)))), rk, b2_0 he2, fun _ => he1.symm, fun z => absurd z he2, rfl⟩
                              · exact absurd (show nI o = 0 by rw [c_33]; rfl) c_34
                            · have c_33 : ¬ o = 0 := fun z => c_33 ((nI_eq (a := o) (b := 0) (by omega) (by omega)).mpr z)
                              refine lv_iload hx hb dX5_readsHill_154 (lv_at hl 4 rfl) ?_
                              refine lv_aload_n hx hb dX5_readsHill_156 rfl (lv_at hl 0 rfl) ?_
                              refine va_get (D := D) (ci := 5) (v := .int (nI (hN (tx (ii + 1))))) (C := RX5) (T := TX5) (N := 30) hx hb hts hin5 hown hK.1 hP 0 rfl rfl 8 (by decide) (hts _ (List.mem_of_getElem? (i := 2) rfl)) (fun _ h9 => h9) rfl dX5_readsHill_157 ?_
                              refine lv_aload_n hx hb dX5_readsHill_160 rfl (lv_at hl 0 rfl) ?_
                              refine va_get (D := D) (ci := 5) (v := .int (nI (hN (tx (ii + 2))))) (C := RX5) (T := TX5) (N := 30) hx hb hts hin5 hown hK.1 hP 0 rfl rfl 9 (by decide) (hts _ (List.mem_of_getElem? (i := 3) rfl)) (fun _ h9 => h9) rfl dX5_readsHill_161 ?_
                              refine lv_imul hx hb dX5_readsHill_164 ?_
                              refine k_top (y := (nI ((hN (tx (ii + 1))) * (hN (tx (ii + 2)))))) (pk_mul _ _) ?_
                              refine lv_icmp_ge (tgt := 183) hx hb dX5_readsHill_165 (by decide) (fun c_35 => ?_) (fun c_35 => ?_)
                              · have c_35 : (hN (tx (ii + 1))) * (hN (tx (ii + 2))) ≤ c := (nI_leI (a := (hN (tx (ii + 1))) * (hN (tx (ii + 2)))) (b := c) (by omega) (by omega)).mp c_35
                                refine lv_iload_n hx hb dX5_readsHill_183 rfl (lv_at hl 3 rfl) ?_
                                refine lv_if_eq (tgt := 199) hx hb dX5_readsHill_184 (by decide) (fun c_36 => ?_) (fun c_36 => ?_)
                                · exact absurd c_36 (nI_nez (by omega) (by omega))
                                · have c_36 : ¬ o = 0 := fun z => c_36 ((nI_eq (a := o) (b := 0) (by omega) (by omega)).mpr z)
                                  have hpm9 : p ≤ m := Or.elim hI (fun z => by rw [z.2.1]; exact z.2.2.2.1) (fun z => z.2.1)
                                  refine lv_aload_n hx hb dX5_readsHill_187 rfl (lv_at hl 0 rfl) ?_
                                  refine va_get (D := D) (ci := 5) (v := .int (nI p)) (C := RX5) (T := TX5) (N := 30) hx hb hts hin5 hown hK.1 hP 0 rfl rfl 7 (by decide) (hts _ (List.mem_of_getElem? (i := 1) rfl)) (fun _ h9 => h9) rfl dX5_readsHill_188 ?_
                                  refine lv_iload_n hx hb dX5_readsHill_191 rfl (lv_at hl 2 rfl) ?_
                                  refine lv_icmp_ne (tgt := 199) hx hb dX5_readsHill_192 (by decide) (fun c_37 => ?_) (fun c_37 => ?_)
                                  · have c_37 : ¬ p = m := fun z => c_37 ((nI_eq (a := p) (b := m) (by omega) (by omega)).mpr z)
                                    refine lv_iconst (v := 0) hx hb dX5_readsHill_199 (by decide) ?_
                                    refine mz_ret (v := 0) hx hb hr hlk hP hD hS dX5_readsHill_200 (by decide) ?_
                                    obtain ⟨-, hp1, hp2, hp3, hp4⟩ := hI.resolve_right (fun z => absurd z.1 (by omega))
                                    obtain rfl : c = hN (tx (ii + 1)) * hN (tx (ii + 2)) := Nat.le_antisymm hk (by assumption)
                                    rw [ps_end (by omega)] at hp1 hp2 hp3
                                    obtain ⟨he1, he2⟩ := ff_at hm60 (show p ≤ m by omega) (by rw [hp1]; exact hp2) (fun z y => by rw [hp1] at y; exact ok_end y) (fun z => absurd z.1 (by assumption))
                                    exact ⟨p, (nI (hN (tx (ii + 1)))), (nI (hN (tx (ii + 2)))), (nI (hN (tx (ii + 3)))), (nI (hN (tx (ii + 4)))), rk, b2_0 he2, fun _ => he1.symm, fun z => absurd z he2, rfl⟩
                                  · have c_37 : p = m := (nI_eq (a := p) (b := m) (by omega) (by omega)).mp c_37
                                    refine lv_iconst (v := 1) hx hb dX5_readsHill_195 (by decide) ?_
                                    refine lv_goto (tgt := 200) hx hb dX5_readsHill_196 (by decide) ?_
                                    refine mz_ret (v := 1) hx hb hr hlk hP hD hS dX5_readsHill_200 (by decide) ?_
                                    obtain ⟨-, hp1, hp2, hp3, hp4⟩ := hI.resolve_right (fun z => absurd z.1 (by omega))
                                    obtain rfl : c = hN (tx (ii + 1)) * hN (tx (ii + 2)) := Nat.le_antisymm hk (by assumption)
                                    rw [ps_end (by omega)] at hp1 hp2 hp3
                                    have he : ffR tx ii m = -9 := ff_full (by rw [← (show p = m by assumption), hp1]; exact hp2) (by omega) (by rw [← hp1]; exact (show p = m by assumption).symm)
                                    exact ⟨p, (nI (hN (tx (ii + 1)))), (nI (hN (tx (ii + 2)))), (nI (hN (tx (ii + 3)))), (nI (hN (tx (ii + 4)))), rk, b2_1 he, fun z => absurd he z, fun _ => ⟨rfl, rfl, hv3', hv4', hp4⟩, rfl⟩
                              · have c_35 : c < (hN (tx (ii + 1))) * (hN (tx (ii + 2))) := Nat.lt_of_not_le (fun z => c_35 ((nI_leI (a := (hN (tx (ii + 1))) * (hN (tx (ii + 2)))) (b := c) (by omega) (by omega)).mpr z))
                                obtain ⟨-, hpp, hokc, hple, hrkd⟩ := hI.resolve_right (fun z => absurd z.1 (by omega))
                                have hcl : c < hN (tx (ii + 1)) * hN (tx (ii + 2)) := by assumption
                                have hcx := lc_lt (show 0 < hN (tx (ii + 2)) by omega) hcl
                                have hp58 : p ≤ 58 := by rw [hpp]; exact ps_58 hcl hhi1 hhi2 (by omega)
                                have hc16 : c < 16 := Nat.lt_of_lt_of_le hcl hhw
                                refine lv_aload_n hx hb dX5_readsHill_168 rfl (lv_at hl 0 rfl) ?_
                                refine lv_iload_n hx hb dX5_readsHill_169 rfl (lv_at hl 1 rfl) ?_
                                refine lv_iload_n hx hb dX5_readsHill_170 rfl (lv_at hl 2 rfl) ?_
                                refine lv_iload hx hb dX5_readsHill_171 (lv_at hl 4 rfl) ?_
                                refine k_mi (wr := []) [0, 1, 2] [] (run_MV (As := [.int (nI f), .int (nI m), .int (nI c)]) (rest := []) ⟨hx, hb, hml, hown, hts⟩ (c_X5_readsPlace l D cI cJ cO b fa h w pc br (nI (hN (tx (ii + 1)))) (nI (hN (tx (ii + 3)))) (nI (hN (tx (ii + 4)))) fw ea sn mo rc tr sh tx f ii m rk p (hN (tx (ii + 2))) c hfm hm60 htx hp58 hc16 (by omega) (by omega)) (cwV 3 hts gX5_readsHill_X5_readsPlace rfl rfl rfl (by decide +kernel) ⟨Nat.le_of_ble_eq_true rfl, Nat.le_of_ble_eq_true rfl⟩) hP hK hD [0, 1, 2] (by decide) rfl rfl rfl rfl rfl hl.1 rfl (Nat.le_of_ble_eq_true rfl) dX5_readsHill_173 ⟨Nat.le_refl _, Nat.le_refl _⟩) hP hD hS hA rfl rfl (by decide) (by decide) (fun r_38 w_40 H locs q_39 hP hD hS => ?_)
                                obtain ⟨rfl, rfl⟩ := q_39
                                have hP : va_P D vwCl [(b 0, .inr (5, [.int fa, .int (nI h), .int (nI w), .int pc, .int br, .ref (b 1), .ref (b 2), .int (nI (rpN tx ii m p (hN (tx (ii + 2))) c)), .int (nI (hN (tx (ii + 1)))), .int (nI (hN (tx (ii + 2)))), .int (nI (hN (tx (ii + 3)))), .int (nI (hN (tx (ii + 4)))), .ref (b 3), .int fw, .int ea, .int sn, .ref (b 4), .ref (b 5), .ref (b 6), .int mo, .int (nI rc), .ref (b 7), .ref (b 8), .ref (b 9), .ref (b 10), .ref (b 11), .ref (b 12), .ref (b 13), .ref (b 14), .int tr])), (b 3, .inl (cI, 16, .inl (rpK tx ii m p (hN (tx (ii + 2))) c rk))), (b 13, .inl (cI, 240, .inl sh))] H := hP.sub [0, 1, 2] rfl
                                have hD : va_D A [(b 0, .inr (5, [.int fa, .int (nI h), .int (nI w), .int pc, .int br, .ref (b 1), .ref (b 2), .int (nI (rpN tx ii m p (hN (tx (ii + 2))) c)), .int (nI (hN (tx (ii + 1)))), .int (nI (hN (tx (ii + 2)))), .int (nI (hN (tx (ii + 3)))), .int (nI (hN (tx (ii + 4)))), .ref (b 3), .int fw, .int ea, .int sn, .ref (b 4), .ref (b 5), .ref (b 6), .int mo, .int (nI rc), .ref (b 7), .ref (b 8), .ref (b 9), .ref (b 10), .ref (b 11), .ref (b 12), .ref (b 13), .ref (b 14), .int tr])), (b 3, .inl (cI, 16, .inl (rpK tx ii m p (hN (tx (ii + 2))) c rk))), (b 13, .inl (cI, 240, .inl sh))] := hD.sub [0, 1, 2] (by decide) rfl
                                subst hpp
                                by_cases hrp : rpP tx ii m (psC (hN (tx (ii + 2))) c) (hN (tx (ii + 2))) c
                                · obtain ⟨hy1, hy2, hy3, hy4⟩ := rp_yes (by omega) rfl rfl hcl hokc hrp
                                  refine k_top (y := nI 1) (b2_1 hrp).symm ?_
                                  rw [hy1, hy4] at hP hD
                                  have hP : va_P D vwCl [(b 0, .inr (5, [.int fa, .int (nI h), .int (nI w), .int pc, .int br, .ref (b 1), .ref (b 2), .int (nI (psC (hN (tx (ii + 2))) (c + 1))), .int (nI (hN (tx (ii + 1)))), .int (nI (hN (tx (ii + 2)))), .int (nI (hN (tx (ii + 3)))), .int (nI (hN (tx (ii + 4)))), .ref (b 3), .int fw, .int ea, .int sn, .ref (b 4), .ref (b 5), .ref (b 6), .int mo, .int (nI rc), .ref (b 7), .ref (b 8), .ref (b 9), .ref (b 10), .ref (b 11), .ref (b 12), .ref (b 13), .ref (b 14), .int tr])), (b 3, .inl (cI, 16, .inl (upd rk c (kdT tx ii (hN (tx (ii + 2))) c)))), (b 13, .inl (cI, 240, .inl sh))] H := hP
                                  have hD : va_D A [(b 0, .inr (5, [.int fa, .int (nI h), .int (nI w), .int pc, .int br, .ref (b 1), .ref (b 2), .int (nI (psC (hN (tx (ii + 2))) (c + 1))), .int (nI (hN (tx (ii + 1)))), .int (nI (hN (tx (ii + 2)))), .int (nI (hN (tx (ii + 3)))), .int (nI (hN (tx (ii + 4)))), .ref (b 3), .int fw, .int ea, .int sn, .ref (b 4), .ref (b 5), .ref (b 6), .int mo, .int (nI rc), .ref (b 7), .ref (b 8), .ref (b 9), .ref (b 10), .ref (b 11), .ref (b 12), .ref (b 13), .ref (b 14), .int tr])), (b 3, .inl (cI, 16, .inl (upd rk c (kdT tx ii (hN (tx (ii + 2))) c)))), (b 13, .inl (cI, 240, .inl sh))] := hD
                                  refine lv_istore_n (lv' := [(3, .int (nI 1)), (0, .ref (b 0)), (1, .int (nI f)), (2, .int (nI m)), (4, .int (nI c))]) hx hb dX5_readsHill_176 rfl hl (by decide) rfl (fun ls hl => ?_)
                                  refine lv_iinc (v := (nI (c + 1))) (lv' := [(4, .int (nI (c + 1))), (3, .int (nI 1)), (0, .ref (b 0)), (1, .int (nI f)), (2, .int (nI m))]) hx hb dX5_readsHill_177 hl (k := 4) rfl (nI_add _ 1) (by decide) rfl (fun ls hl => ?_)
                                  refine lv_goto (tgt := 150) hx hb dX5_readsHill_180 (by decide) ?_
                                  exact ih_32 (c + 1) (psC (hN (tx (ii + 2))) (c + 1)) 1 (upd rk c (kdT tx ii (hN (tx (ii + 2))) c)) (by omega) (by omega) (Or.inl ⟨rfl, rfl, hy2, hy3, up_kd hrkd⟩) (by omega) _ _ hP hD hS ls (lv_sub hl [2, 3, 4, 1, 0] rfl)
                                · obtain ⟨p2, hy1, hy2, hy3, hy4, hy5, hy6⟩ := rp_no (by omega) rfl rfl hcl hokc hple hrp
                                  refine k_top (y := nI 0) (b2_0 hrp).symm ?_
                                  rw [hy1, hy6] at hP hD
                                  have hP : va_P D vwCl [(b 0, .inr (5, [.int fa, .int (nI h), .int (nI w), .int pc, .int br, .ref (b 1), .ref (b 2), .int (nI p2), .int (nI (hN (tx (ii + 1)))), .int (nI (hN (tx (ii + 2)))), .int (nI (hN (tx (ii + 3)))), .int (nI (hN (tx (ii + 4)))), .ref (b 3), .int fw, .int ea, .int sn, .ref (b 4), .ref (b 5), .ref (b 6), .int mo, .int (nI rc), .ref (b 7), .ref (b 8), .ref (b 9), .ref (b 10), .ref (b 11), .ref (b 12), .ref (b 13), .ref (b 14), .int tr])), (b 3, .inl (cI, 16, .inl rk)), (b 13, .inl (cI, 240, .inl sh))] H := hP
                                  have hD : va_D A [(b 0, .inr (5, [.int fa, .int (nI h), .int (nI w), .int pc, .int br, .ref (b 1), .ref (b 2), .int (nI p2), .int (nI (hN (tx (ii + 1)))), .int (nI (hN (tx (ii + 2)))), .int (nI (hN (tx (ii + 3)))), .int (nI (hN (tx (ii + 4)))), .ref (b 3), .int fw, .int ea, .int sn, .ref (b 4), .ref (b 5), .ref (b 6), .int mo, .int (nI rc), .ref (b 7), .ref (b 8), .ref (b 9), .ref (b 10), .ref (b 11), .ref (b 12), .ref (b 13), .ref (b 14), .int tr])), (b 3, .inl (cI, 16, .inl rk)), (b 13, .inl (cI, 240, .inl sh))] := hD
                                  refine lv_istore_n (lv' := [(3, .int (nI 0)), (0, .ref (b 0)), (1, .int (nI f)), (2, .int (nI m)), (4, .int (nI c))]) hx hb dX5_readsHill_176 rfl hl (by decide) rfl (fun ls hl => ?_)
                                  refine lv_iinc (v := (nI (c + 1))) (lv' := [(4, .int (nI (c + 1))), (3, .int (nI 0)), (0, .ref (b 0)), (1, .int (nI f)), (2, .int (nI m))]) hx hb dX5_readsHill_177 hl (k := 4) rfl (nI_add _ 1) (by decide) rfl (fun ls hl => ?_)
                                  refine lv_goto (tgt := 150) hx hb dX5_readsHill_180 (by decide) ?_
                                  exact ih_32 (c + 1) p2 0 rk (by omega) (by omega) (Or.inr ⟨rfl, hy2, hy3, hy4, hy5⟩) (by omega) _ _ hP hD hS ls (lv_sub hl [2, 3, 4, 1, 0] rfl)
                        exact key_31 _ 0 5 1 rk (by omega) (by omega) (Or.inl ⟨rfl, (ps_0 _).symm, by rw [ps_0]; exact hok5, by rw [ps_0]; omega, fun q z => absurd z (Nat.not_lt_zero q)⟩) (Nat.lt_succ_self _) _ _ hP hD hS ls (lv_sub hl [2, 3, 4, 1, 0] rfl)
                    · have hnb4 := fg_no (show (1 : Int) ≤ (1 : Int32).toInt by decide) hg4
                      have hno9 : 4 < m → ¬ okT tx ii 4 := fun z => hd_no (by decide) (fun y => hnb4 z (by rcases y with ⟨a, -⟩ | ⟨a, b⟩ | ⟨a, b⟩ | ⟨a, b⟩ | ⟨a, b⟩ <;> first | exact absurd a (by decide) | exact b))
                      refine k_top (y := -9) (by rw [fgR, if_neg hg4]) ?_
                      rw [show fgN tx ii m 4 1 9 = 4 from by rw [fgN, if_neg hg4]] at hP hD
                      have hP : va_P D vwCl [(b 0, .inr (5, [.int fa, .int (nI h), .int (nI w), .int pc, .int br, .ref (b 1), .ref (b 2), .int (nI 4), .int (nI (hN (tx (ii + 1)))), .int (nI (hN (tx (ii + 2)))), .int (nI (hN (tx (ii + 3)))), .int q4, .ref (b 3), .int fw, .int ea, .int sn, .ref (b 4), .ref (b 5), .ref (b 6), .int mo, .int (nI rc), .ref (b 7), .ref (b 8), .ref (b 9), .ref (b 10), .ref (b 11), .ref (b 12), .ref (b 13), .ref (b 14), .int tr])), (b 3, .inl (cI, 16, .inl rk)), (b 13, .inl (cI, 240, .inl sh))] H := hP
                      have hD : va_D A [(b 0, .inr (5, [.int fa, .int (nI h), .int (nI w), .int pc, .int br, .ref (b 1), .ref (b 2), .int (nI 4), .int (nI (hN (tx (ii + 1)))), .int (nI (hN (tx (ii + 2)))), .int (nI (hN (tx (ii + 3)))), .int q4, .ref (b 3), .int fw, .int ea, .int sn, .ref (b 4), .ref (b 5), .ref (b 6), .int mo, .int (nI rc), .ref (b 7), .ref (b 8), .ref (b 9), .ref (b 10), .ref (b 11), .ref (b 12), .ref (b 13), .ref (b 14), .int tr])), (b 3, .inl (cI, 16, .inl rk)), (b 13, .inl (cI, 240, .inl sh))] := hD
                      refine lv_goto (tgt := 131) hx hb dX5_readsHill_126 (by decide) ?_
                      refine va_put (D := D) (ci := 5) (v := .int (-9)) (ty := .int) (C := RX5) (T := TX5) (N := 30) hx hb hts hin5 tyX5 tyX5_ok nmX5 hown hK.1 hP hD hS 0 rfl rfl 11 (by decide) (hts _ (List.mem_of_getElem? (i := 5) rfl)) (fun _ h9 => h9) rfl (by decide +kernel) rfl rfl (Nat.le_of_ble_eq_true rfl) dX5_readsHill_131 (fun H locs hP hD hS => ?_)
                      have hP : va_P D vwCl [(b 0, .inr (5, [.int fa, .int (nI h), .int (nI w), .int pc, .int br, .ref (b 1), .ref (b 2), .int (nI 4), .int (nI (hN (tx (ii + 1)))), .int (nI (hN (tx (ii + 2)))), .int (nI (hN (tx (ii + 3)))), .int (-9), .ref (b 3), .int fw, .int ea, .int sn, .ref (b 4), .ref (b 5), .ref (b 6), .int mo, .int (nI rc), .ref (b 7), .ref (b 8), .ref (b 9), .ref (b 10), .ref (b 11), .ref (b 12), .ref (b 13), .ref (b 14), .int tr])), (b 3, .inl (cI, 16, .inl rk)), (b 13, .inl (cI, 240, .inl sh))] H := hP
                      have hD : va_D A [(b 0, .inr (5, [.int fa, .int (nI h), .int (nI w), .int pc, .int br, .ref (b 1), .ref (b 2), .int (nI 4), .int (nI (hN (tx (ii + 1)))), .int (nI (hN (tx (ii + 2)))), .int (nI (hN (tx (ii + 3)))), .int (-9), .ref (b 3), .int fw, .int ea, .int sn, .ref (b 4), .ref (b 5), .ref (b 6), .int mo, .int (nI rc), .ref (b 7), .ref (b 8), .ref (b 9), .ref (b 10), .ref (b 11), .ref (b 12), .ref (b 13), .ref (b 14), .int tr])), (b 3, .inl (cI, 16, .inl rk)), (b 13, .inl (cI, 240, .inl sh))] := hD
                      refine lv_aload_n hx hb dX5_readsHill_134 rfl (lv_at hl 1 rfl) ?_
                      refine va_get (D := D) (ci := 5) (v := .int (-9)) (C := RX5) (T := TX5) (N := 30) hx hb hts hin5 hown hK.1 hP 0 rfl rfl 11 (by decide) (hts _ (List.mem_of_getElem? (i := 5) rfl)) (fun _ h9 => h9) rfl dX5_readsHill_135 ?_
                      refine lv_if_le (tgt := 145) hx hb dX5_readsHill_138 (by decide) (fun c_41 => ?_) (fun c_41 => ?_)
                      · refine lv_iconst (v := 0) hx hb dX5_readsHill_145 (by decide) ?_
                        refine lv_istore_n (lv' := [(3, .int 0), (0, .ref (b 0)), (1, .int (nI f)), (2, .int (nI m))]) hx hb dX5_readsHill_146 rfl hl (by decide) rfl (fun ls hl => ?_)
                        refine lv_iconst (v := 0) hx hb dX5_readsHill_147 (by decide) ?_
                        refine lv_istore (lv' := [(4, .int 0), (3, .int 0), (0, .ref (b 0)), (1, .int (nI f)), (2, .int (nI m))]) hx hb dX5_readsHill_148 hl (by decide) rfl (fun ls hl => ?_)
                        refine lv_iload_n hx hb dX5_readsHill_150 rfl (lv_at hl 1 rfl) ?_
                        refine lv_if_eq (tgt := 183) hx hb dX5_readsHill_151 (by decide) (fun c_42 => ?_) (fun c_42 => ?_)
                        · refine lv_iload_n hx hb dX5_readsHill_183 rfl (lv_at hl 1 rfl) ?_
                          refine lv_if_eq (tgt := 199) hx hb dX5_readsHill_184 (by decide) (fun c_43 => ?_) (fun c_43 => ?_)
                          · refine lv_iconst (v := 0) hx hb dX5_readsHill_199 (by decide) ?_
                            refine mz_ret (v := 0) hx hb hr hlk hP hD hS dX5_readsHill_200 (by decide) ?_
                            obtain ⟨he1, he2⟩ := ff_at hm60 (show 4 ≤ m by omega) hok4 hno9 (fun z => absurd z.2.1 (by have := z.1; omega))
                            exact ⟨4, (nI (hN (tx (ii + 1)))), (nI (hN (tx (ii + 2)))), (nI (hN (tx (ii + 3)))), (-9), rk, b2_0 he2, fun _ => he1.symm, fun z => absurd z he2, rfl⟩
                          · exact absurd c_43 (by decide)
                        · exact absurd c_42 (by decide)
                      · exact absurd c_41 (by decide)
                · have hnb3 := fg_no (show (1 : Int) ≤ (1 : Int32).toInt by decide) hg3
                  have hno9 : 3 < m → ¬ okT tx ii 3 := fun z => hd_no (by decide) (fun y => hnb3 z (by rcases y with ⟨a, -⟩ | ⟨a, b⟩ | ⟨a, b⟩ | ⟨a, b⟩ | ⟨a, b⟩ <;> first | exact absurd a (by decide) | exact b))
                  refine k_top (y := -9) (by rw [fgR, if_neg hg3]) ?_
                  rw [show fgN tx ii m 3 1 3 = 3 from by rw [fgN, if_neg hg3]] at hP hD
                  have hP : va_P D vwCl [(b 0, .inr (5, [.int fa, .int (nI h), .int (nI w), .int pc, .int br, .ref (b 1), .ref (b 2), .int (nI 3), .int (nI (hN (tx (ii + 1)))), .int (nI (hN (tx (ii + 2)))), .int q3, .int q4, .ref (b 3), .int fw, .int ea, .int sn, .ref (b 4), .ref (b 5), .ref (b 6), .int mo, .int (nI rc), .ref (b 7), .ref (b 8), .ref (b 9), .ref (b 10), .ref (b 11), .ref (b 12), .ref (b 13), .ref (b 14), .int tr])), (b 3, .inl (cI, 16, .inl rk)), (b 13, .inl (cI, 240, .inl sh))] H := hP
                  have hD : va_D A [(b 0, .inr (5, [.int fa, .int (nI h), .int (nI w), .int pc, .int br, .ref (b 1), .ref (b 2), .int (nI 3), .int (nI (hN (tx (ii + 1)))), .int (nI (hN (tx (ii + 2)))), .int q3, .int q4, .ref (b 3), .int fw, .int ea, .int sn, .ref (b 4), .ref (b 5), .ref (b 6), .int mo, .int (nI rc), .ref (b 7), .ref (b 8), .ref (b 9), .ref (b 10), .ref (b 11), .ref (b 12), .ref (b 13), .ref (b 14), .int tr])), (b 3, .inl (cI, 16, .inl rk)), (b 13, .inl (cI, 240, .inl sh))] := hD
                  refine lv_goto (tgt := 106) hx hb dX5_readsHill_101 (by decide) ?_
                  refine va_put (D := D) (ci := 5) (v := .int (-9)) (ty := .int) (C := RX5) (T := TX5) (N := 30) hx hb hts hin5 tyX5 tyX5_ok nmX5 hown hK.1 hP hD hS 0 rfl rfl 10 (by decide) (hts _ (List.mem_of_getElem? (i := 4) rfl)) (fun _ h9 => h9) rfl (by decide +kernel) rfl rfl (Nat.le_of_ble_eq_true rfl) dX5_readsHill_106 (fun H locs hP hD hS => ?_)
                  have hP : va_P D vwCl [(b 0, .inr (5, [.int fa, .int (nI h), .int (nI w), .int pc, .int br, .ref (b 1), .ref (b 2), .int (nI 3), .int (nI (hN (tx (ii + 1)))), .int (nI (hN (tx (ii + 2)))), .int (-9), .int q4, .ref (b 3), .int fw, .int ea, .int sn, .ref (b 4), .ref (b 5), .ref (b 6), .int mo, .int (nI rc), .ref (b 7), .ref (b 8), .ref (b 9), .ref (b 10), .ref (b 11), .ref (b 12), .ref (b 13), .ref (b 14), .int tr])), (b 3, .inl (cI, 16, .inl rk)), (b 13, .inl (cI, 240, .inl sh))] H := hP
                  have hD : va_D A [(b 0, .inr (5, [.int fa, .int (nI h), .int (nI w), .int pc, .int br, .ref (b 1), .ref (b 2), .int (nI 3), .int (nI (hN (tx (ii + 1)))), .int (nI (hN (tx (ii + 2)))), .int (-9), .int q4, .ref (b 3), .int fw, .int ea, .int sn, .ref (b 4), .ref (b 5), .ref (b 6), .int mo, .int (nI rc), .ref (b 7), .ref (b 8), .ref (b 9), .ref (b 10), .ref (b 11), .ref (b 12), .ref (b 13), .ref (b 14), .int tr])), (b 3, .inl (cI, 16, .inl rk)), (b 13, .inl (cI, 240, .inl sh))] := hD
                  refine lv_aload_n hx hb dX5_readsHill_109 rfl (lv_at hl 1 rfl) ?_
                  refine lv_aload_n hx hb dX5_readsHill_110 rfl (lv_at hl 1 rfl) ?_
                  refine va_get (D := D) (ci := 5) (v := .int (-9)) (C := RX5) (T := TX5) (N := 30) hx hb hts hin5 hown hK.1 hP 0 rfl rfl 10 (by decide) (hts _ (List.mem_of_getElem? (i := 4) rfl)) (fun _ h9 => h9) rfl dX5_readsHill_111 ?_
                  refine lv_if_le (tgt := 129) hx hb dX5_readsHill_114 (by decide) (fun c_44 => ?_) (fun c_44 => ?_)
                  · refine lv_bipush (v := (-9)) hx hb dX5_readsHill_129 (by decide) ?_
                    refine va_put (D := D) (ci := 5) (v := .int (-9)) (ty := .int) (C := RX5) (T := TX5) (N := 30) hx hb hts hin5 tyX5 tyX5_ok nmX5 hown hK.1 hP hD hS 0 rfl rfl 11 (by decide) (hts _ (List.mem_of_getElem? (i := 5) rfl)) (fun _ h9 => h9) rfl (by decide +kernel) rfl rfl (Nat.le_of_ble_eq_true rfl) dX5_readsHill_131 (fun H locs hP hD hS => ?_)
                    have hP : va_P D vwCl [(b 0, .inr (5, [.int fa, .int (nI h), .int (nI w), .int pc, .int br, .ref (b 1), .ref (b 2), .int (nI 3), .int (nI (hN (tx (ii + 1)))), .int (nI (hN (tx (ii + 2)))), .int (-9), .int (-9), .ref (b 3), .int fw, .int ea, .int sn, .ref (b 4), .ref (b 5), .ref (b 6), .int mo, .int (nI rc), .ref (b 7), .ref (b 8), .ref (b 9), .ref (b 10), .ref (b 11), .ref (b 12), .ref (b 13), .ref (b 14), .int tr])), (b 3, .inl (cI, 16, .inl rk)), (b 13, .inl (cI, 240, .inl sh))] H := hP
                    have hD : va_D A [(b 0, .inr (5, [.int fa, .int (nI h), .int (nI w), .int pc, .int br, .ref (b 1), .ref (b 2), .int (nI 3), .int (nI (hN (tx (ii + 1)))), .int (nI (hN (tx (ii + 2)))), .int (-9), .int (-9), .ref (b 3), .int fw, .int ea, .int sn, .ref (b 4), .ref (b 5), .ref (b 6), .int mo, .int (nI rc), .ref (b 7), .ref (b 8), .ref (b 9), .ref (b 10), .ref (b 11), .ref (b 12), .ref (b 13), .ref (b 14), .int tr])), (b 3, .inl (cI, 16, .inl rk)), (b 13, .inl (cI, 240, .inl sh))] := hD
                    refine lv_aload_n hx hb dX5_readsHill_134 rfl (lv_at hl 1 rfl) ?_
                    refine va_get (D := D) (ci := 5) (v := .int (-9)) (C := RX5) (T := TX5) (N := 30) hx hb hts hin5 hown hK.1 hP 0 rfl rfl 11 (by decide) (hts _ (List.mem_of_getElem? (i := 5) rfl)) (fun _ h9 => h9) rfl dX5_readsHill_135 ?_
                    refine lv_if_le (tgt := 145) hx hb dX5_readsHill_138 (by decide) (fun c_45 => ?_) (fun c_45 => ?_)
                    · refine lv_iconst (v := 0) hx hb dX5_readsHill_145 (by decide) ?_
                      refine lv_istore_n (lv' := [(3, .int 0), (0, .ref (b 0)), (1, .int (nI f)), (2, .int (nI m))]) hx hb dX5_readsHill_146 rfl hl (by decide) rfl (fun ls hl => ?_)
                      refine lv_iconst (v := 0) hx hb dX5_readsHill_147 (by decide) ?_
                      refine lv_istore (lv' := [(4, .int 0), (3, .int 0), (0, .ref (b 0)), (1, .int (nI f)), (2, .int (nI m))]) hx hb dX5_readsHill_148 hl (by decide) rfl (fun ls hl => ?_)
                      refine lv_iload_n hx hb dX5_readsHill_150 rfl (lv_at hl 1 rfl) ?_
                      refine lv_if_eq (tgt := 183) hx hb dX5_readsHill_151 (by decide) (fun c_46 => ?_) (fun c_46 => ?_)
                      · refine lv_iload_n hx hb dX5_readsHill_183 rfl (lv_at hl 1 rfl) ?_
                        refine lv_if_eq (tgt := 199) hx hb dX5_readsHill_184 (by decide) (fun c_47 => ?_) (fun c_47 => ?_)
                        · refine lv_iconst (v := 0) hx hb dX5_readsHill_199 (by decide) ?_
                          refine mz_ret (v := 0) hx hb hr hlk hP hD hS dX5_readsHill_200 (by decide) ?_
                          obtain ⟨he1, he2⟩ := ff_at hm60 (show 3 ≤ m by omega) hok3 hno9 (fun z => absurd z.2.1 (by have := z.1; omega))
                          exact ⟨3, (nI (hN (tx (ii + 1)))), (nI (hN (tx (ii + 2)))), (-9), (-9), rk, b2_0 he2, fun _ => he1.symm, fun z => absurd z he2, rfl⟩
                        · exact absurd c_47 (by decide)
                      · exact absurd c_46 (by decide)
                    · exact absurd c_45 (by decide)
                  · exact absurd c_44 (by decide)
            · have hnb2 := fg_no (show (1 : Int) ≤ (2 : Int32).toInt by decide) hg2
              have hno9 : 2 < m → ¬ okT tx ii 2 := fun z => hd_no (by decide) (fun y => hnb2 z (by rcases y with ⟨a, -⟩ | ⟨a, b⟩ | ⟨a, b⟩ | ⟨a, b⟩ | ⟨a, b⟩ <;> first | exact absurd a (by decide) | exact b))
              refine k_top (y := -9) (by rw [fgR, if_neg hg2]) ?_
              rw [show fgN tx ii m 2 2 4 = 2 from by rw [fgN, if_neg hg2]] at hP hD
              have hP : va_P D vwCl [(b 0, .inr (5, [.int fa, .int (nI h), .int (nI w), .int pc, .int br, .ref (b 1), .ref (b 2), .int (nI 2), .int (nI (hN (tx (ii + 1)))), .int q2, .int q3, .int q4, .ref (b 3), .int fw, .int ea, .int sn, .ref (b 4), .ref (b 5), .ref (b 6), .int mo, .int (nI rc), .ref (b 7), .ref (b 8), .ref (b 9), .ref (b 10), .ref (b 11), .ref (b 12), .ref (b 13), .ref (b 14), .int tr])), (b 3, .inl (cI, 16, .inl rk)), (b 13, .inl (cI, 240, .inl sh))] H := hP
              have hD : va_D A [(b 0, .inr (5, [.int fa, .int (nI h), .int (nI w), .int pc, .int br, .ref (b 1), .ref (b 2), .int (nI 2), .int (nI (hN (tx (ii + 1)))), .int q2, .int q3, .int q4, .ref (b 3), .int fw, .int ea, .int sn, .ref (b 4), .ref (b 5), .ref (b 6), .int mo, .int (nI rc), .ref (b 7), .ref (b 8), .ref (b 9), .ref (b 10), .ref (b 11), .ref (b 12), .ref (b 13), .ref (b 14), .int tr])), (b 3, .inl (cI, 16, .inl rk)), (b 13, .inl (cI, 240, .inl sh))] := hD
              refine lv_goto (tgt := 82) hx hb dX5_readsHill_77 (by decide) ?_
              refine va_put (D := D) (ci := 5) (v := .int (-9)) (ty := .int) (C := RX5) (T := TX5) (N := 30) hx hb hts hin5 tyX5 tyX5_ok nmX5 hown hK.1 hP hD hS 0 rfl rfl 9 (by decide) (hts _ (List.mem_of_getElem? (i := 3) rfl)) (fun _ h9 => h9) rfl (by decide +kernel) rfl rfl (Nat.le_of_ble_eq_true rfl) dX5_readsHill_82 (fun H locs hP hD hS => ?_)
              have hP : va_P D vwCl [(b 0, .inr (5, [.int fa, .int (nI h), .int (nI w), .int pc, .int br, .ref (b 1), .ref (b 2), .int (nI 2), .int (nI (hN (tx (ii + 1)))), .int (-9), .int q3, .int q4, .ref (b 3), .int fw, .int ea, .int sn, .ref (b 4), .ref (b 5), .ref (b 6), .int mo, .int (nI rc), .ref (b 7), .ref (b 8), .ref (b 9), .ref (b 10), .ref (b 11), .ref (b 12), .ref (b 13), .ref (b 14), .int tr])), (b 3, .inl (cI, 16, .inl rk)), (b 13, .inl (cI, 240, .inl sh))] H := hP
              have hD : va_D A [(b 0, .inr (5, [.int fa, .int (nI h), .int (nI w), .int pc, .int br, .ref (b 1), .ref (b 2), .int (nI 2), .int (nI (hN (tx (ii + 1)))), .int (-9), .int q3, .int q4, .ref (b 3), .int fw, .int ea, .int sn, .ref (b 4), .ref (b 5), .ref (b 6), .int mo, .int (nI rc), .ref (b 7), .ref (b 8), .ref (b 9), .ref (b 10), .ref (b 11), .ref (b 12), .ref (b 13), .ref (b 14), .int tr])), (b 3, .inl (cI, 16, .inl rk)), (b 13, .inl (cI, 240, .inl sh))] := hD
              refine lv_aload_n hx hb dX5_readsHill_85 rfl (lv_at hl 1 rfl) ?_
              refine lv_aload_n hx hb dX5_readsHill_86 rfl (lv_at hl 1 rfl) ?_
              refine va_get (D := D) (ci := 5) (v := .int (-9)) (C := RX5) (T := TX5) (N := 30) hx hb hts hin5 hown hK.1 hP 0 rfl rfl 9 (by decide) (hts _ (List.mem_of_getElem? (i := 3) rfl)) (fun _ h9 => h9) rfl dX5_readsHill_87 ?_
              refine lv_if_le (tgt := 104) hx hb dX5_readsHill_90 (by decide) (fun c_48 => ?_) (fun c_48 => ?_)
              · refine lv_bipush (v := (-9)) hx hb dX5_readsHill_104 (by decide) ?_
                refine va_put (D := D) (ci := 5) (v := .int (-9)) (ty := .int) (C := RX5) (T := TX5) (N := 30) hx hb hts hin5 tyX5 tyX5_ok nmX5 hown hK.1 hP hD hS 0 rfl rfl 10 (by decide) (hts _ (List.mem_of_getElem? (i := 4) rfl)) (fun _ h9 => h9) rfl (by decide +kernel) rfl rfl (Nat.le_of_ble_eq_true rfl) dX5_readsHill_106 (fun H locs hP hD hS => ?_)
                have hP : va_P D vwCl [(b 0, .inr (5, [.int fa, .int (nI h), .int (nI w), .int pc, .int br, .ref (b 1), .ref (b 2), .int (nI 2), .int (nI (hN (tx (ii + 1)))), .int (-9), .int (-9), .int q4, .ref (b 3), .int fw, .int ea, .int sn, .ref (b 4), .ref (b 5), .ref (b 6), .int mo, .int (nI rc), .ref (b 7), .ref (b 8), .ref (b 9), .ref (b 10), .ref (b 11), .ref (b 12), .ref (b 13), .ref (b 14), .int tr])), (b 3, .inl (cI, 16, .inl rk)), (b 13, .inl (cI, 240, .inl sh))] H := hP
                have hD : va_D A [(b 0, .inr (5, [.int fa, .int (nI h), .int (nI w), .int pc, .int br, .ref (b 1), .ref (b 2), .int (nI 2), .int (nI (hN (tx (ii + 1)))), .int (-9), .int (-9), .int q4, .ref (b 3), .int fw, .int ea, .int sn, .ref (b 4), .ref (b 5), .ref (b 6), .int mo, .int (nI rc), .ref (b 7), .ref (b 8), .ref (b 9), .ref (b 10), .ref (b 11), .ref (b 12), .ref (b 13), .ref (b 14), .int tr])), (b 3, .inl (cI, 16, .inl rk)), (b 13, .inl (cI, 240, .inl sh))] := hD
                refine lv_aload_n hx hb dX5_readsHill_109 rfl (lv_at hl 1 rfl) ?_
                refine lv_aload_n hx hb dX5_readsHill_110 rfl (lv_at hl 1 rfl) ?_
                refine va_get (D := D) (ci := 5) (v := .int (-9)) (C := RX5) (T := TX5) (N := 30) hx hb hts hin5 hown hK.1 hP 0 rfl rfl 10 (by decide) (hts _ (List.mem_of_getElem? (i := 4) rfl)) (fun _ h9 => h9) rfl dX5_readsHill_111 ?_
                refine lv_if_le (tgt := 129) hx hb dX5_readsHill_114 (by decide) (fun c_49 => ?_) (fun c_49 => ?_)
                · refine lv_bipush (v := (-9)) hx hb dX5_readsHill_129 (by decide) ?_
                  refine va_put (D := D) (ci := 5) (v := .int (-9)) (ty := .int) (C := RX5) (T := TX5) (N := 30) hx hb hts hin5 tyX5 tyX5_ok nmX5 hown hK.1 hP hD hS 0 rfl rfl 11 (by decide) (hts _ (List.mem_of_getElem? (i := 5) rfl)) (fun _ h9 => h9) rfl (by decide +kernel) rfl rfl (Nat.le_of_ble_eq_true rfl) dX5_readsHill_131 (fun H locs hP hD hS => ?_)
                  have hP : va_P D vwCl [(b 0, .inr (5, [.int fa, .int (nI h), .int (nI w), .int pc, .int br, .ref (b 1), .ref (b 2), .int (nI 2), .int (nI (hN (tx (ii + 1)))), .int (-9), .int (-9), .int (-9), .ref (b 3), .int fw, .int ea, .int sn, .ref (b 4), .ref (b 5), .ref (b 6), .int mo, .int (nI rc), .ref (b 7), .ref (b 8), .ref (b 9), .ref (b 10), .ref (b 11), .ref (b 12), .ref (b 13), .ref (b 14), .int tr])), (b 3, .inl (cI, 16, .inl rk)), (b 13, .inl (cI, 240, .inl sh))] H := hP
                  have hD : va_D A [(b 0, .inr (5, [.int fa, .int (nI h), .int (nI w), .int pc, .int br, .ref (b 1), .ref (b 2), .int (nI 2), .int (nI (hN (tx (ii + 1)))), .int (-9), .int (-9), .int (-9), .ref (b 3), .int fw, .int ea, .int sn, .ref (b 4), .ref (b 5), .ref (b 6), .int mo, .int (nI rc), .ref (b 7), .ref (b 8), .ref (b 9), .ref (b 10), .ref (b 11), .ref (b 12), .ref (b 13), .ref (b 14), .int tr])), (b 3, .inl (cI, 16, .inl rk)), (b 13, .inl (cI, 240, .inl sh))] := hD
                  refine lv_aload_n hx hb dX5_readsHill_134 rfl (lv_at hl 1 rfl) ?_
                  refine va_get (D := D) (ci := 5) (v := .int (-9)) (C := RX5) (T := TX5) (N := 30) hx hb hts hin5 hown hK.1 hP 0 rfl rfl 11 (by decide) (hts _ (List.mem_of_getElem? (i := 5) rfl)) (fun _ h9 => h9) rfl dX5_readsHill_135 ?_
                  refine lv_if_le (tgt := 145) hx hb dX5_readsHill_138 (by decide) (fun c_50 => ?_) (fun c_50 => ?_)
                  · refine lv_iconst (v := 0) hx hb dX5_readsHill_145 (by decide) ?_
                    refine lv_istore_n (lv' := [(3, .int 0), (0, .ref (b 0)), (1, .int (nI f)), (2, .int (nI m))]) hx hb dX5_readsHill_146 rfl hl (by decide) rfl (fun ls hl => ?_)
                    refine lv_iconst (v := 0) hx hb dX5_readsHill_147 (by decide) ?_
                    refine lv_istore (lv' := [(4, .int 0), (3, .int 0), (0, .ref (b 0)), (1, .int (nI f)), (2, .int (nI m))]) hx hb dX5_readsHill_148 hl (by decide) rfl (fun ls hl => ?_)
                    refine lv_iload_n hx hb dX5_readsHill_150 rfl (lv_at hl 1 rfl) ?_
                    refine lv_if_eq (tgt := 183) hx hb dX5_readsHill_151 (by decide) (fun c_51 => ?_) (fun c_51 => ?_)
                    · refine lv_iload_n hx hb dX5_readsHill_183 rfl (lv_at hl 1 rfl) ?_
                      refine lv_if_eq (tgt := 199) hx hb dX5_readsHill_184 (by decide) (fun c_52 => ?_) (fun c_52 => ?_)
                      · refine lv_iconst (v := 0) hx hb dX5_readsHill_199 (by decide) ?_
                        refine mz_ret (v := 0) hx hb hr hlk hP hD hS dX5_readsHill_200 (by decide) ?_
                        obtain ⟨he1, he2⟩ := ff_at hm60 (show 2 ≤ m by omega) hok2 hno9 (fun z => absurd z.2.1 (by have := z.1; omega))
                        exact ⟨2, (nI (hN (tx (ii + 1)))), (-9), (-9), (-9), rk, b2_0 he2, fun _ => he1.symm, fun z => absurd z he2, rfl⟩
                      · exact absurd c_52 (by decide)
                    · exact absurd c_51 (by decide)
                  · exact absurd c_50 (by decide)
                · exact absurd c_49 (by decide)
              · exact absurd c_48 (by decide)
        · have hnb1 := fg_no (show (1 : Int) ≤ (1 : Int32).toInt by decide) hg1
          have hno9 : 1 < m → ¬ okT tx ii 1 := fun z => hd_no (by decide) (fun y => hnb1 z (by rcases y with ⟨a, -⟩ | ⟨a, b⟩ | ⟨a, b⟩ | ⟨a, b⟩ | ⟨a, b⟩ <;> first | exact absurd a (by decide) | exact b))
          refine k_top (y := -9) (by rw [fgR, if_neg hg1]) ?_
          rw [show fgN tx ii m 1 1 4 = 1 from by rw [fgN, if_neg hg1]] at hP hD
          have hP : va_P D vwCl [(b 0, .inr (5, [.int fa, .int (nI h), .int (nI w), .int pc, .int br, .ref (b 1), .ref (b 2), .int (nI 1), .int q1, .int q2, .int q3, .int q4, .ref (b 3), .int fw, .int ea, .int sn, .ref (b 4), .ref (b 5), .ref (b 6), .int mo, .int (nI rc), .ref (b 7), .ref (b 8), .ref (b 9), .ref (b 10), .ref (b 11), .ref (b 12), .ref (b 13), .ref (b 14), .int tr])), (b 3, .inl (cI, 16, .inl rk)), (b 13, .inl (cI, 240, .inl sh))] H := hP
          have hD : va_D A [(b 0, .inr (5, [.int fa, .int (nI h), .int (nI w), .int pc, .int br, .ref (b 1), .ref (b 2), .int (nI 1), .int q1, .int q2, .int q3, .int q4, .ref (b 3), .int fw, .int ea, .int sn, .ref (b 4), .ref (b 5), .ref (b 6), .int mo, .int (nI rc), .ref (b 7), .ref (b 8), .ref (b 9), .ref (b 10), .ref (b 11), .ref (b 12), .ref (b 13), .ref (b 14), .int tr])), (b 3, .inl (cI, 16, .inl rk)), (b 13, .inl (cI, 240, .inl sh))] := hD
          refine lv_goto (tgt := 58) hx hb dX5_readsHill_53 (by decide) ?_
          refine va_put (D := D) (ci := 5) (v := .int (-9)) (ty := .int) (C := RX5) (T := TX5) (N := 30) hx hb hts hin5 tyX5 tyX5_ok nmX5 hown hK.1 hP hD hS 0 rfl rfl 8 (by decide) (hts _ (List.mem_of_getElem? (i := 2) rfl)) (fun _ h9 => h9) rfl (by decide +kernel) rfl rfl (Nat.le_of_ble_eq_true rfl) dX5_readsHill_58 (fun H locs hP hD hS => ?_)
          have hP : va_P D vwCl [(b 0, .inr (5, [.int fa, .int (nI h), .int (nI w), .int pc, .int br, .ref (b 1), .ref (b 2), .int (nI 1), .int (-9), .int q2, .int q3, .int q4, .ref (b 3), .int fw, .int ea, .int sn, .ref (b 4), .ref (b 5), .ref (b 6), .int mo, .int (nI rc), .ref (b 7), .ref (b 8), .ref (b 9), .ref (b 10), .ref (b 11), .ref (b 12), .ref (b 13), .ref (b 14), .int tr])), (b 3, .inl (cI, 16, .inl rk)), (b 13, .inl (cI, 240, .inl sh))] H := hP
          have hD : va_D A [(b 0, .inr (5, [.int fa, .int (nI h), .int (nI w), .int pc, .int br, .ref (b 1), .ref (b 2), .int (nI 1), .int (-9), .int q2, .int q3, .int q4, .ref (b 3), .int fw, .int ea, .int sn, .ref (b 4), .ref (b 5), .ref (b 6), .int mo, .int (nI rc), .ref (b 7), .ref (b 8), .ref (b 9), .ref (b 10), .ref (b 11), .ref (b 12), .ref (b 13), .ref (b 14), .int tr])), (b 3, .inl (cI, 16, .inl rk)), (b 13, .inl (cI, 240, .inl sh))] := hD
          refine lv_aload_n hx hb dX5_readsHill_61 rfl (lv_at hl 1 rfl) ?_
          refine lv_aload_n hx hb dX5_readsHill_62 rfl (lv_at hl 1 rfl) ?_
          refine va_get (D := D) (ci := 5) (v := .int (-9)) (C := RX5) (T := TX5) (N := 30) hx hb hts hin5 hown hK.1 hP 0 rfl rfl 8 (by decide) (hts _ (List.mem_of_getElem? (i := 2) rfl)) (fun _ h9 => h9) rfl dX5_readsHill_63 ?_
          refine lv_if_le (tgt := 80) hx hb dX5_readsHill_66 (by decide) (fun c_53 => ?_) (fun c_53 => ?_)
          · refine lv_bipush (v := (-9)) hx hb dX5_readsHill_80 (by decide) ?_
            refine va_put (D := D) (ci := 5) (v := .int (-9)) (ty := .int) (C := RX5) (T := TX5) (N := 30) hx hb hts hin5 tyX5 tyX5_ok nmX5 hown hK.1 hP hD hS 0 rfl rfl 9 (by decide) (hts _ (List.mem_of_getElem? (i := 3) rfl)) (fun _ h9 => h9) rfl (by decide +kernel) rfl rfl (Nat.le_of_ble_eq_true rfl) dX5_readsHill_82 (fun H locs hP hD hS => ?_)
            have hP : va_P D vwCl [(b 0, .inr (5, [.int fa, .int (nI h), .int (nI w), .int pc, .int br, .ref (b 1), .ref (b 2), .int (nI 1), .int (-9), .int (-9), .int q3, .int q4, .ref (b 3), .int fw, .int ea, .int sn, .ref (b 4), .ref (b 5), .ref (b 6), .int mo, .int (nI rc), .ref (b 7), .ref (b 8), .ref (b 9), .ref (b 10), .ref (b 11), .ref (b 12), .ref (b 13), .ref (b 14), .int tr])), (b 3, .inl (cI, 16, .inl rk)), (b 13, .inl (cI, 240, .inl sh))] H := hP
            have hD : va_D A [(b 0, .inr (5, [.int fa, .int (nI h), .int (nI w), .int pc, .int br, .ref (b 1), .ref (b 2), .int (nI 1), .int (-9), .int (-9), .int q3, .int q4, .ref (b 3), .int fw, .int ea, .int sn, .ref (b 4), .ref (b 5), .ref (b 6), .int mo, .int (nI rc), .ref (b 7), .ref (b 8), .ref (b 9), .ref (b 10), .ref (b 11), .ref (b 12), .ref (b 13), .ref (b 14), .int tr])), (b 3, .inl (cI, 16, .inl rk)), (b 13, .inl (cI, 240, .inl sh))] := hD
            refine lv_aload_n hx hb dX5_readsHill_85 rfl (lv_at hl 1 rfl) ?_
            refine lv_aload_n hx hb dX5_readsHill_86 rfl (lv_at hl 1 rfl) ?_
            refine va_get (D := D) (ci := 5) (v := .int (-9)) (C := RX5) (T := TX5) (N := 30) hx hb hts hin5 hown hK.1 hP 0 rfl rfl 9 (by decide) (hts _ (List.mem_of_getElem? (i := 3) rfl)) (fun _ h9 => h9) rfl dX5_readsHill_87 ?_
            refine lv_if_le (tgt := 104) hx hb dX5_readsHill_90 (by decide) (fun c_54 => ?_) (fun c_54 => ?_)
            · refine lv_bipush (v := (-9)) hx hb dX5_readsHill_104 (by decide) ?_
              refine va_put (D := D) (ci := 5) (v := .int (-9)) (ty := .int) (C := RX5) (T := TX5) (N := 30) hx hb hts hin5 tyX5 tyX5_ok nmX5 hown hK.1 hP hD hS 0 rfl rfl 10 (by decide) (hts _ (List.mem_of_getElem? (i := 4) rfl)) (fun _ h9 => h9) rfl (by decide +kernel) rfl rfl (Nat.le_of_ble_eq_true rfl) dX5_readsHill_106 (fun H locs hP hD hS => ?_)
              have hP : va_P D vwCl [(b 0, .inr (5, [.int fa, .int (nI h), .int (nI w), .int pc, .int br, .ref (b 1), .ref (b 2), .int (nI 1), .int (-9), .int (-9), .int (-9), .int q4, .ref (b 3), .int fw, .int ea, .int sn, .ref (b 4), .ref (b 5), .ref (b 6), .int mo, .int (nI rc), .ref (b 7), .ref (b 8), .ref (b 9), .ref (b 10), .ref (b 11), .ref (b 12), .ref (b 13), .ref (b 14), .int tr])), (b 3, .inl (cI, 16, .inl rk)), (b 13, .inl (cI, 240, .inl sh))] H := hP
              have hD : va_D A [(b 0, .inr (5, [.int fa, .int (nI h), .int (nI w), .int pc, .int br, .ref (b 1), .ref (b 2), .int (nI 1), .int (-9), .int (-9), .int (-9), .int q4, .ref (b 3), .int fw, .int ea, .int sn, .ref (b 4), .ref (b 5), .ref (b 6), .int mo, .int (nI rc), .ref (b 7), .ref (b 8), .ref (b 9), .ref (b 10), .ref (b 11), .ref (b 12), .ref (b 13), .ref (b 14), .int tr])), (b 3, .inl (cI, 16, .inl rk)), (b 13, .inl (cI, 240, .inl sh))] := hD
              refine lv_aload_n hx hb dX5_readsHill_109 rfl (lv_at hl 1 rfl) ?_
              refine lv_aload_n hx hb dX5_readsHill_110 rfl (lv_at hl 1 rfl) ?_
              refine va_get (D := D) (ci := 5) (v := .int (-9)) (C := RX5) (T := TX5) (N := 30) hx hb hts hin5 hown hK.1 hP 0 rfl rfl 10 (by decide) (hts _ (List.mem_of_getElem? (i := 4) rfl)) (fun _ h9 => h9) rfl dX5_readsHill_111 ?_
              refine lv_if_le (tgt := 129) hx hb dX5_readsHill_114 (by decide) (fun c_55 => ?_) (fun c_55 => ?_)
              · refine lv_bipush (v := (-9)) hx hb dX5_readsHill_129 (by decide) ?_
                refine va_put (D := D) (ci := 5) (v := .int (-9)) (ty := .int) (C := RX5) (T := TX5) (N := 30) hx hb hts hin5 tyX5 tyX5_ok nmX5 hown hK.1 hP hD hS 0 rfl rfl 11 (by decide) (hts _ (List.mem_of_getElem? (i := 5) rfl)) (fun _ h9 => h9) rfl (by decide +kernel) rfl rfl (Nat.le_of_ble_eq_true rfl) dX5_readsHill_131 (fun H locs hP hD hS => ?_)
                have hP : va_P D vwCl [(b 0, .inr (5, [.int fa, .int (nI h), .int (nI w), .int pc, .int br, .ref (b 1), .ref (b 2), .int (nI 1), .int (-9), .int (-9), .int (-9), .int (-9), .ref (b 3), .int fw, .int ea, .int sn, .ref (b 4), .ref (b 5), .ref (b 6), .int mo, .int (nI rc), .ref (b 7), .ref (b 8), .ref (b 9), .ref (b 10), .ref (b 11), .ref (b 12), .ref (b 13), .ref (b 14), .int tr])), (b 3, .inl (cI, 16, .inl rk)), (b 13, .inl (cI, 240, .inl sh))] H := hP
                have hD : va_D A [(b 0, .inr (5, [.int fa, .int (nI h), .int (nI w), .int pc, .int br, .ref (b 1), .ref (b 2), .int (nI 1), .int (-9), .int (-9), .int (-9), .int (-9), .ref (b 3), .int fw, .int ea, .int sn, .ref (b 4), .ref (b 5), .ref (b 6), .int mo, .int (nI rc), .ref (b 7), .ref (b 8), .ref (b 9), .ref (b 10), .ref (b 11), .ref (b 12), .ref (b 13), .ref (b 14), .int tr])), (b 3, .inl (cI, 16, .inl rk)), (b 13, .inl (cI, 240, .inl sh))] := hD
                refine lv_aload_n hx hb dX5_readsHill_134 rfl (lv_at hl 1 rfl) ?_
                refine va_get (D := D) (ci := 5) (v := .int (-9)) (C := RX5) (T := TX5) (N := 30) hx hb hts hin5 hown hK.1 hP 0 rfl rfl 11 (by decide) (hts _ (List.mem_of_getElem? (i := 5) rfl)) (fun _ h9 => h9) rfl dX5_readsHill_135 ?_
                refine lv_if_le (tgt := 145) hx hb dX5_readsHill_138 (by decide) (fun c_56 => ?_) (fun c_56 => ?_)
                · refine lv_iconst (v := 0) hx hb dX5_readsHill_145 (by decide) ?_
                  refine lv_istore_n (lv' := [(3, .int 0), (0, .ref (b 0)), (1, .int (nI f)), (2, .int (nI m))]) hx hb dX5_readsHill_146 rfl hl (by decide) rfl (fun ls hl => ?_)
                  refine lv_iconst (v := 0) hx hb dX5_readsHill_147 (by decide) ?_
                  refine lv_istore (lv' := [(4, .int 0), (3, .int 0), (0, .ref (b 0)), (1, .int (nI f)), (2, .int (nI m))]) hx hb dX5_readsHill_148 hl (by decide) rfl (fun ls hl => ?_)
                  refine lv_iload_n hx hb dX5_readsHill_150 rfl (lv_at hl 1 rfl) ?_
                  refine lv_if_eq (tgt := 183) hx hb dX5_readsHill_151 (by decide) (fun c_57 => ?_) (fun c_57 => ?_)
                  · refine lv_iload_n hx hb dX5_readsHill_183 rfl (lv_at hl 1 rfl) ?_
                    refine lv_if_eq (tgt := 199) hx hb dX5_readsHill_184 (by decide) (fun c_58 => ?_) (fun c_58 => ?_)
                    · refine lv_iconst (v := 0) hx hb dX5_readsHill_199 (by decide) ?_
                      refine mz_ret (v := 0) hx hb hr hlk hP hD hS dX5_readsHill_200 (by decide) ?_
                      obtain ⟨he1, he2⟩ := ff_at hm60 (show 1 ≤ m by omega) hok1 hno9 (fun z => absurd z.2.1 (by have := z.1; omega))
                      exact ⟨1, (-9), (-9), (-9), (-9), rk, b2_0 he2, fun _ => he1.symm, fun z => absurd z he2, rfl⟩
                    · exact absurd c_58 (by decide)
                  · exact absurd c_57 (by decide)
                · exact absurd c_56 (by decide)
              · exact absurd c_55 (by decide)
            · exact absurd c_54 (by decide)
          · exact absurd c_53 (by decide)
