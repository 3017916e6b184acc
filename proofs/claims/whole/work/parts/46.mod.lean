theorem iwX5_copy_X5 : ∀ x ∈ wsX50, x ∈ wsX5_copy := by decide +kernel
set_option maxRecDepth 100000 in
set_option maxHeartbeats 4000000 in
/-- X5_copy -/
theorem c_X5_copy (l : Launch) (D : va_G) (cI cJ cO : ClassId) (b : Nat → Nat) (fa : Int32) (h : Nat) (w : Nat) (pc : Int32) (br : Int32) (ra : Int32) (q1 : Int32) (q2 : Int32) (q3 : Int32) (q4 : Int32) (fw : Int32) (ea : Int32) (sn : Int32) (mo : Int32) (rc : Nat) (tr : Int32) (hs : Nat → Int32) (ln : Nat → Int32) (le : Nat → Nat) (rr : Nat → Nat → Int32) (ha : Nat → Int32) (k : Int32) (i : Int32) (o : Int32) (j : Int32) (n : Int32) (kj : Nat) (oj : Nat) (hle : ∀ z, z < 4 → le z ≤ 60) (hkj : k.toNatClampNeg = kj) (hoj : o.toNatClampNeg = oj) : MG l yX5_copy wsX5_copy 2 45 0 0 D [(cI, .int), (cJ, .long), (cO, .object "ShornHill$Sheet")] [.ref (b 0), .int k, .int i, .int o, .int j, .int n] [(b 0, .inr (5, [.int fa, .int (nI h), .int (nI w), .int pc, .int br, .ref (b 1), .ref (b 2), .int ra, .int q1, .int q2, .int q3, .int q4, .ref (b 3), .int fw, .int ea, .int sn, .ref (b 4), .ref (b 5), .ref (b 6), .int mo, .int (nI rc), .ref (b 7), .ref (b 8), .ref (b 9), .ref (b 10), .ref (b 11), .ref (b 12), .ref (b 13), .ref (b 14), .int tr])), (b 11, .inl (cI, 4, .inl (zsF hs le))), (b 12, .inl (cI, 4, .inl ln)), (b 13, .inl (cI, 240, .inl (rwF rr))), (b 14, .inl (cI, 60, .inl ha))] (QI D (fun (r : Int32) (w1 : va_W) => ∃ (ha2 : Nat → Int32), r = (cyR hs ln le k i o j n kj oj) ∧ w1 = [(b 0, .inr (5, [.int (cyF hs ln le k i o j n kj oj), .int (nI h), .int (nI w), .int pc, .int br, .ref (b 1), .ref (b 2), .int ra, .int q1, .int q2, .int q3, .int q4, .ref (b 3), .int fw, .int ea, .int sn, .ref (b 4), .ref (b 5), .ref (b 6), .int mo, .int (nI rc), .ref (b 7), .ref (b 8), .ref (b 9), .ref (b 10), .ref (b 11), .ref (b 12), .ref (b 13), .ref (b 14), .int tr])), (b 11, .inl (cI, 4, .inl (zsF hs le))), (b 12, .inl (cI, 4, .inl ln)), (b 13, .inl (cI, 240, .inl (rwF (cyS hs ln le rr k i o j n kj oj)))), (b 14, .inl (cI, 60, .inl ha2))])) := by
  refine MG.of (cc := cX5_copy) (maxL := 7) (ret := (some .int)) (by decide) rfl (Nat.le_of_ble_eq_true rfl) ?_
  intro P_ E_ S_ M_ B_ T_ K_ hx hb hml hr hts hown hlk hnm A hA hP hK hD hS ls hl
  have hl : lv_has ls 7 [(0, .ref (b 0)), (1, .int k), (2, .int i), (3, .int o), (4, .int j), (5, .int n)] := hl
  have hin5 : ∀ x ∈ u_ws RX5 TX5 30, x ∈ wsX5_copy := iwX5_copy_X5
  refine lv_iload_n hx hb dX5_copy_0 rfl (lv_at hl 1 rfl) ?_
  refine k_ri (run_RS (As := [.int k]) (rest := []) ⟨hx, hb, hml, hown, hts⟩ (c_X5_noSheet l D cI cJ cO k) (va_cwS 1 hts gX5_copy_X5_noSheet rfl rfl rfl (by decide +kernel) ⟨Nat.le_of_ble_eq_true rfl, Nat.le_of_ble_eq_true rfl⟩) hP hK [] rfl rfl hl.1 rfl (Nat.le_of_ble_eq_true rfl) dX5_copy_1 ⟨Nat.le_refl _, Nat.le_refl _⟩) (fun r_1 q_2 => ?_)
  obtain rfl := q_2
  refine lv_if_ne (tgt := 14) hx hb dX5_copy_4 (by decide) (fun c_3 => ?_) (fun c_3 => ?_)
  · have c_3 := b2_t c_3
    refine lv_aload_n hx hb dX5_copy_14 rfl (lv_at hl 0 rfl) ?_
    refine lv_iconst (v := (-1)) hx hb dX5_copy_15 (by decide) ?_
    refine k_mi (wr := [(b 11, .inl (cI, 4, .inl (zsF hs le))), (b 12, .inl (cI, 4, .inl ln)), (b 13, .inl (cI, 240, .inl (rwF rr))), (b 14, .inl (cI, 60, .inl ha))]) [0] [1, 2, 3, 4] (run_MV (As := [.int (-1)]) (rest := []) ⟨hx, hb, hml, hown, hts⟩ (c_X5_refused l D cI cJ cO b fa h w pc br ra q1 q2 q3 q4 fw ea sn mo rc tr (-1)) (cwV 1 hts gX5_copy_X5_refused rfl rfl rfl (by decide +kernel) ⟨Nat.le_of_ble_eq_true rfl, Nat.le_of_ble_eq_true rfl⟩) hP hK hD [0] (by decide) rfl rfl rfl rfl rfl hl.1 rfl (Nat.le_of_ble_eq_true rfl) dX5_copy_16 ⟨Nat.le_refl _, Nat.le_refl _⟩) hP hD hS hA rfl rfl (by decide) (by decide) (fun r_4 w_6 H locs q_5 hP hD hS => ?_)
    obtain ⟨rfl, rfl⟩ := q_5
    have hP : va_P D vwCl [(b 0, .inr (5, [.int 0, .int (nI h), .int (nI w), .int pc, .int br, .ref (b 1), .ref (b 2), .int ra, .int q1, .int q2, .int q3, .int q4, .ref (b 3), .int fw, .int ea, .int sn, .ref (b 4), .ref (b 5), .ref (b 6), .int mo, .int (nI rc), .ref (b 7), .ref (b 8), .ref (b 9), .ref (b 10), .ref (b 11), .ref (b 12), .ref (b 13), .ref (b 14), .int tr])), (b 11, .inl (cI, 4, .inl (zsF hs le))), (b 12, .inl (cI, 4, .inl ln)), (b 13, .inl (cI, 240, .inl (rwF rr))), (b 14, .inl (cI, 60, .inl ha))] H := hP.sub [4, 0, 1, 2, 3] rfl
    have hD : va_D A [(b 0, .inr (5, [.int 0, .int (nI h), .int (nI w), .int pc, .int br, .ref (b 1), .ref (b 2), .int ra, .int q1, .int q2, .int q3, .int q4, .ref (b 3), .int fw, .int ea, .int sn, .ref (b 4), .ref (b 5), .ref (b 6), .int mo, .int (nI rc), .ref (b 7), .ref (b 8), .ref (b 9), .ref (b 10), .ref (b 11), .ref (b 12), .ref (b 13), .ref (b 14), .int tr])), (b 11, .inl (cI, 4, .inl (zsF hs le))), (b 12, .inl (cI, 4, .inl ln)), (b 13, .inl (cI, 240, .inl (rwF rr))), (b 14, .inl (cI, 60, .inl ha))] := hD.sub [4, 0, 1, 2, 3] (by decide) rfl
    refine mi_ret (v := (-1)) hx hb hr hlk hP hD hS dX5_copy_19 ?_
    rw [show cyF hs ln le k i o j n kj oj = _ from by rw [cyF, if_neg (fun z => c_3 z.1)]]
    rw [show cyS hs ln le rr k i o j n kj oj = _ from by rw [cyS, if_neg (fun z => c_3 z.1)]]
    refine ⟨ha, ?_, rfl⟩
    rw [cyR, if_neg (fun z => c_3 z.1)] <;> rfl
  · have c_3 := Decidable.not_not.mp (b2_f c_3)
    refine lv_iload_n hx hb dX5_copy_7 rfl (lv_at hl 3 rfl) ?_
    refine k_ri (run_RS (As := [.int o]) (rest := []) ⟨hx, hb, hml, hown, hts⟩ (c_X5_noSheet l D cI cJ cO o) (va_cwS 1 hts gX5_copy_X5_noSheet rfl rfl rfl (by decide +kernel) ⟨Nat.le_of_ble_eq_true rfl, Nat.le_of_ble_eq_true rfl⟩) hP hK [] rfl rfl hl.1 rfl (Nat.le_of_ble_eq_true rfl) dX5_copy_8 ⟨Nat.le_refl _, Nat.le_refl _⟩) (fun r_7 q_8 => ?_)
    obtain rfl := q_8
    refine lv_if_eq (tgt := 20) hx hb dX5_copy_11 (by decide) (fun c_9 => ?_) (fun c_9 => ?_)
    · have c_9 := Decidable.not_not.mp (b2_f c_9)
      have h4_kj : kj < 4 := by rw [← hkj]; exact (show inN k 4 by assumption).lt
      have h60_kj := hle kj h4_kj
      have e_kj : k = nI kj := by rw [← hkj]; exact (show inN k 4 by assumption).eq
      have h4_oj : oj < 4 := by rw [← hoj]; exact (show inN o 4 by assumption).lt
      have h60_oj := hle oj h4_oj
      have e_oj : o = nI oj := by rw [← hoj]; exact (show inN o 4 by assumption).eq
      refine lv_aload_n hx hb dX5_copy_20 rfl (lv_at hl 0 rfl) ?_
      refine va_get (D := D) (ci := 5) (v := .ref (b 11)) (C := RX5) (T := TX5) (N := 30) hx hb hts hin5 hown hK.1 hP 0 rfl rfl 25 (by decide) (hts _ (List.mem_of_getElem? (i := 1) rfl)) (fun _ h9 => h9) rfl dX5_copy_21 ?_
      refine lv_iload_n hx hb dX5_copy_24 rfl (lv_at hl 1 rfl) ?_
      refine k_iald hx hb hK hP 1 0 rfl rfl (j := kj) (inN.vp c_3 (by omega)) hkj dX5_copy_25 ?_
      refine lv_if_lt (tgt := 38) hx hb dX5_copy_26 (by decide) (fun c_10 => ?_) (fun c_10 => ?_)
      · have c0_kj : hs kj = 0 := (zs_lt h60_kj).mp c_10
        refine lv_aload_n hx hb dX5_copy_38 rfl (lv_at hl 0 rfl) ?_
        refine lv_iconst (v := 1) hx hb dX5_copy_39 (by decide) ?_
        refine k_mi (wr := [(b 11, .inl (cI, 4, .inl (zsF hs le))), (b 12, .inl (cI, 4, .inl ln)), (b 13, .inl (cI, 240, .inl (rwF rr))), (b 14, .inl (cI, 60, .inl ha))]) [0] [1, 2, 3, 4] (run_MV (As := [.int 1]) (rest := []) ⟨hx, hb, hml, hown, hts⟩ (c_X5_failed l D cI cJ cO b fa h w pc br ra q1 q2 q3 q4 fw ea sn mo rc tr 1) (cwV 1 hts gX5_copy_X5_failed rfl rfl rfl (by decide +kernel) ⟨Nat.le_of_ble_eq_true rfl, Nat.le_of_ble_eq_true rfl⟩) hP hK hD [0] (by decide) rfl rfl rfl rfl rfl hl.1 rfl (Nat.le_of_ble_eq_true rfl) dX5_copy_40 ⟨Nat.le_refl _, Nat.le_refl _⟩) hP hD hS hA rfl rfl (by decide) (by decide) (fun r_11 w_13 H locs q_12 hP hD hS => ?_)
        obtain ⟨rfl, rfl⟩ := q_12
        have hP : va_P D vwCl [(b 0, .inr (5, [.int 1, .int (nI h), .int (nI w), .int pc, .int br, .ref (b 1), .ref (b 2), .int ra, .int q1, .int q2, .int q3, .int q4, .ref (b 3), .int fw, .int ea, .int sn, .ref (b 4), .ref (b 5), .ref (b 6), .int mo, .int (nI rc), .ref (b 7), .ref (b 8), .ref (b 9), .ref (b 10), .ref (b 11), .ref (b 12), .ref (b 13), .ref (b 14), .int tr])), (b 11, .inl (cI, 4, .inl (zsF hs le))), (b 12, .inl (cI, 4, .inl ln)), (b 13, .inl (cI, 240, .inl (rwF rr))), (b 14, .inl (cI, 60, .inl ha))] H := hP.sub [4, 0, 1, 2, 3] rfl
        have hD : va_D A [(b 0, .inr (5, [.int 1, .int (nI h), .int (nI w), .int pc, .int br, .ref (b 1), .ref (b 2), .int ra, .int q1, .int q2, .int q3, .int q4, .ref (b 3), .int fw, .int ea, .int sn, .ref (b 4), .ref (b 5), .ref (b 6), .int mo, .int (nI rc), .ref (b 7), .ref (b 8), .ref (b 9), .ref (b 10), .ref (b 11), .ref (b 12), .ref (b 13), .ref (b 14), .int tr])), (b 11, .inl (cI, 4, .inl (zsF hs le))), (b 12, .inl (cI, 4, .inl ln)), (b 13, .inl (cI, 240, .inl (rwF rr))), (b 14, .inl (cI, 60, .inl ha))] := hD.sub [4, 0, 1, 2, 3] (by decide) rfl
        refine mi_ret (v := (-10 - 1)) hx hb hr hlk hP hD hS dX5_copy_43 ?_
        rw [show cyF hs ln le k i o j n kj oj = _ from by rw [cyF, if_pos ⟨c_3, c_9⟩, if_neg (fun z => (fun z => z c0_kj) z.1)]]
        rw [show cyS hs ln le rr k i o j n kj oj = _ from by rw [cyS, if_pos ⟨c_3, c_9⟩, if_neg (fun z => (fun z => z c0_kj) z.1)]]
        refine ⟨ha, ?_, rfl⟩
        rw [cyR, if_pos ⟨c_3, c_9⟩, if_neg (fun z => (fun z => z c0_kj) z.1)] <;> rfl
      · have c0_kj : ¬ hs kj = 0 := fun z => c_10 ((zs_lt h60_kj).mpr z)
        refine lv_aload_n hx hb dX5_copy_29 rfl (lv_at hl 0 rfl) ?_
        refine va_get (D := D) (ci := 5) (v := .ref (b 11)) (C := RX5) (T := TX5) (N := 30) hx hb hts hin5 hown hK.1 hP 0 rfl rfl 25 (by decide) (hts _ (List.mem_of_getElem? (i := 1) rfl)) (fun _ h9 => h9) rfl dX5_copy_30 ?_
        refine lv_iload_n hx hb dX5_copy_33 rfl (lv_at hl 3 rfl) ?_
        refine k_iald hx hb hK hP 1 0 rfl rfl (j := oj) (inN.vp c_9 (by omega)) hoj dX5_copy_34 ?_
        refine lv_if_ge (tgt := 44) hx hb dX5_copy_35 (by decide) (fun c_14 => ?_) (fun c_14 => ?_)
        · have c0_oj : ¬ hs oj = 0 := fun z => absurd c_14 (by rw [zs_0 z]; decide)
          refine lv_aload_n hx hb dX5_copy_44 rfl (lv_at hl 0 rfl) ?_
          refine va_get (D := D) (ci := 5) (v := .ref (b 12)) (C := RX5) (T := TX5) (N := 30) hx hb hts hin5 hown hK.1 hP 0 rfl rfl 26 (by decide) (hts _ (List.mem_of_getElem? (i := 2) rfl)) (fun _ h9 => h9) rfl dX5_copy_45 ?_
          refine lv_iload_n hx hb dX5_copy_48 rfl (lv_at hl 1 rfl) ?_
          refine k_iald hx hb hK hP 2 0 rfl rfl (j := kj) (inN.vp c_3 (by omega)) hkj dX5_copy_49 ?_
          refine lv_aload_n hx hb dX5_copy_50 rfl (lv_at hl 0 rfl) ?_
          refine va_get (D := D) (ci := 5) (v := .ref (b 12)) (C := RX5) (T := TX5) (N := 30) hx hb hts hin5 hown hK.1 hP 0 rfl rfl 26 (by decide) (hts _ (List.mem_of_getElem? (i := 2) rfl)) (fun _ h9 => h9) rfl dX5_copy_51 ?_
          refine lv_iload_n hx hb dX5_copy_54 rfl (lv_at hl 3 rfl) ?_
          refine k_iald hx hb hK hP 2 0 rfl rfl (j := oj) (inN.vp c_9 (by omega)) hoj dX5_copy_55 ?_
          refine lv_icmp_eq (tgt := 65) hx hb dX5_copy_56 (by decide) (fun c_15 => ?_) (fun c_15 => ?_)
          · refine lv_iload_n hx hb dX5_copy_65 rfl (lv_at hl 2 rfl) ?_
            refine lv_iload hx hb dX5_copy_66 (lv_at hl 5 rfl) ?_
            refine lv_i2l (v := n.toInt64) hx hb dX5_copy_68 rfl ?_
            refine lv_aload_n hx hb dX5_copy_69 rfl (lv_at hl 0 rfl) ?_
            refine va_get (D := D) (ci := 5) (v := .ref (b 11)) (C := RX5) (T := TX5) (N := 30) hx hb hts hin5 hown hK.1 hP 0 rfl rfl 25 (by decide) (hts _ (List.mem_of_getElem? (i := 1) rfl)) (fun _ h9 => h9) rfl dX5_copy_70 ?_
            refine lv_iload_n hx hb dX5_copy_73 rfl (lv_at hl 1 rfl) ?_
            refine k_iald hx hb hK hP 1 0 rfl rfl (j := kj) (inN.vp c_3 (by omega)) hkj dX5_copy_74 ?_
            refine k_top (y := (nI (le kj))) (zs_1 c0_kj) ?_
            refine k_ri (run_RS (As := [.int i, .long n.toInt64, .int (nI (le kj))]) (rest := []) ⟨hx, hb, hml, hown, hts⟩ (c_X5_isBeyond l D cI cJ cO i n (le kj) h60_kj) (va_cwS 3 hts gX5_copy_X5_isBeyond rfl rfl rfl (by decide +kernel) ⟨Nat.le_of_ble_eq_true rfl, Nat.le_of_ble_eq_true rfl⟩) hP hK [] rfl rfl hl.1 rfl (Nat.le_of_ble_eq_true rfl) dX5_copy_75 ⟨Nat.le_refl _, Nat.le_refl _⟩) (fun r_16 q_17 => ?_)
            obtain rfl := q_17
            refine lv_if_ne (tgt := 98) hx hb dX5_copy_78 (by decide) (fun c_18 => ?_) (fun c_18 => ?_)
            · have c_18 := b2_t c_18
              refine lv_aload_n hx hb dX5_copy_98 rfl (lv_at hl 0 rfl) ?_
              refine lv_iconst (v := 3) hx hb dX5_copy_99 (by decide) ?_
              refine k_mi (wr := [(b 11, .inl (cI, 4, .inl (zsF hs le))), (b 12, .inl (cI, 4, .inl ln)), (b 13, .inl (cI, 240, .inl (rwF rr))), (b 14, .inl (cI, 60, .inl ha))]) [0] [1, 2, 3, 4] (run_MV (As := [.int 3]) (rest := []) ⟨hx, hb, hml, hown, hts⟩ (c_X5_failed l D cI cJ cO b fa h w pc br ra q1 q2 q3 q4 fw ea sn mo rc tr 3) (cwV 1 hts gX5_copy_X5_failed rfl rfl rfl (by decide +kernel) ⟨Nat.le_of_ble_eq_true rfl, Nat.le_of_ble_eq_true rfl⟩) hP hK hD [0] (by decide) rfl rfl rfl rfl rfl hl.1 rfl (Nat.le_of_ble_eq_true rfl) dX5_copy_100 ⟨Nat.le_refl _, Nat.le_refl _⟩) hP hD hS hA rfl rfl (by decide) (by decide) (fun r_19 w_21 H locs q_20 hP hD hS => ?_)
              obtain ⟨rfl, rfl⟩ := q_20
              have hP : va_P D vwCl [(b 0, .inr (5, [.int 3, .int (nI h), .int (nI w), .int pc, .int br, .ref (b 1), .ref (b 2), .int ra, .int q1, .int q2, .int q3, .int q4, .ref (b 3), .int fw, .int ea, .int sn, .ref (b 4), .ref (b 5), .ref (b 6), .int mo, .int (nI rc), .ref (b 7), .ref (b 8), .ref (b 9), .ref (b 10), .ref (b 11), .ref (b 12), .ref (b 13), .ref (b 14), .int tr])), (b 11, .inl (cI, 4, .inl (zsF hs le))), (b 12, .inl (cI, 4, .inl ln)), (b 13, .inl (cI, 240, .inl (rwF rr))), (b 14, .inl (cI, 60, .inl ha))] H := hP.sub [4, 0, 1, 2, 3] rfl
              have hD : va_D A [(b 0, .inr (5, [.int 3, .int (nI h), .int (nI w), .int pc, .int br, .ref (b 1), .ref (b 2), .int ra, .int q1, .int q2, .int q3, .int q4, .ref (b 3), .int fw, .int ea, .int sn, .ref (b 4), .ref (b 5), .ref (b 6), .int mo, .int (nI rc), .ref (b 7), .ref (b 8), .ref (b 9), .ref (b 10), .ref (b 11), .ref (b 12), .ref (b 13), .ref (b 14), .int tr])), (b 11, .inl (cI, 4, .inl (zsF hs le))), (b 12, .inl (cI, 4, .inl ln)), (b 13, .inl (cI, 240, .inl (rwF rr))), (b 14, .inl (cI, 60, .inl ha))] := hD.sub [4, 0, 1, 2, 3] (by decide) rfl
              refine mi_ret (v := (-10 - 3)) hx hb hr hlk hP hD hS dX5_copy_103 ?_
              rw [show cyF hs ln le k i o j n kj oj = _ from by rw [cyF, if_pos ⟨c_3, c_9⟩, if_pos ⟨c0_kj, c0_oj⟩, if_pos c_15, if_neg (fun z => c_18 z.1)]]
              rw [show cyS hs ln le rr k i o j n kj oj = _ from by rw [cyS, if_pos ⟨c_3, c_9⟩, if_pos ⟨c0_kj, c0_oj⟩, if_pos c_15, if_neg (fun z => c_18 z.1)]]
              refine ⟨ha, ?_, rfl⟩
              rw [cyR, if_pos ⟨c_3, c_9⟩, if_pos ⟨c0_kj, c0_oj⟩, if_pos c_15, if_neg (fun z => c_18 z.1)] <;> rfl
            · have c_18 := Decidable.not_not.mp (b2_f c_18)
              refine lv_iload hx hb dX5_copy_81 (lv_at hl 4 rfl) ?_
              refine lv_iload hx hb dX5_copy_83 (lv_at hl 5 rfl) ?_
              refine lv_i2l (v := n.toInt64) hx hb dX5_copy_85 rfl ?_
              refine lv_aload_n hx hb dX5_copy_86 rfl (lv_at hl 0 rfl) ?_
              refine va_get (D := D) (ci := 5) (v := .ref (b 11)) (C := RX5) (T := TX5) (N := 30) hx hb hts hin5 hown hK.1 hP 0 rfl rfl 25 (by decide) (hts _ (List.mem_of_getElem? (i := 1) rfl)) (fun _ h9 => h9) rfl dX5_copy_87 ?_
              refine lv_iload_n hx hb dX5_copy_90 rfl (lv_at hl 3 rfl) ?_
              refine k_iald hx hb hK hP 1 0 rfl rfl (j := oj) (inN.vp c_9 (by omega)) hoj dX5_copy_91 ?_
              refine k_top (y := (nI (le oj))) (zs_1 c0_oj) ?_
              refine k_ri (run_RS (As := [.int j, .long n.toInt64, .int (nI (le oj))]) (rest := []) ⟨hx, hb, hml, hown, hts⟩ (c_X5_isBeyond l D cI cJ cO j n (le oj) h60_oj) (va_cwS 3 hts gX5_copy_X5_isBeyond rfl rfl rfl (by decide +kernel) ⟨Nat.le_of_ble_eq_true rfl, Nat.le_of_ble_eq_true rfl⟩) hP hK [] rfl rfl hl.1 rfl (Nat.le_of_ble_eq_true rfl) dX5_copy_92 ⟨Nat.le_refl _, Nat.le_refl _⟩) (fun r_22 q_23 => ?_)
              obtain rfl := q_23
              refine lv_if_eq (tgt := 104) hx hb dX5_copy_95 (by decide) (fun c_24 => ?_) (fun c_24 => ?_)
              · have c_24 := Decidable.not_not.mp (b2_f c_24)
                obtain ⟨ei, en, l1⟩ := sp_nat ((show spP i n (le kj) by assumption).imp id (fun z => ⟨z.1, by have := z.2; omega⟩))
                obtain ⟨ej, -, l2⟩ := sp_nat ((show spP j n (le oj) by assumption).imp id (fun z => ⟨z.1, by have := z.2; omega⟩))
                refine lv_iconst (v := 0) hx hb dX5_copy_104 (by decide) ?_
                refine lv_istore (lv' := [(6, .int 0), (0, .ref (b 0)), (1, .int k), (2, .int i), (3, .int o), (4, .int j), (5, .int n)]) hx hb dX5_copy_105 hl (by decide) rfl (fun ls hl => ?_)
                have key_26 : ∀ (n_25 : Nat) (q : Nat) (g : Nat → Int32), (q ≤ n.toNatClampNeg) → g = (fil (fun z => rr kj (i.toNatClampNeg + z)) ha q) → n.toNatClampNeg - q < n_25 → ∀ (H : Heap) (locs : List Loc), va_P D vwCl [(b 0, .inr (5, [.int fa, .int (nI h), .int (nI w), .int pc, .int br, .ref (b 1), .ref (b 2), .int ra, .int q1, .int q2, .int q3, .int q4, .ref (b 3), .int fw, .int ea, .int sn, .ref (b 4), .ref (b 5), .ref (b 6), .int mo, .int (nI rc), .ref (b 7), .ref (b 8), .ref (b 9), .ref (b 10), .ref (b 11), .ref (b 12), .ref (b 13), .ref (b 14), .int tr])), (b 11, .inl (cI, 4, .inl (zsF hs le))), (b 12, .inl (cI, 4, .inl ln)), (b 13, .inl (cI, 240, .inl (rwF rr))), (b 14, .inl (cI, 60, .inl g))] H → va_D A [(b 0, .inr (5, [.int fa, .int (nI h), .int (nI w), .int pc, .int br, .ref (b 1), .ref (b 2), .int ra, .int q1, .int q2, .int q3, .int q4, .ref (b 3), .int fw, .int ea, .int sn, .ref (b 4), .ref (b 5), .ref (b 6), .int mo, .int (nI rc), .ref (b 7), .ref (b 8), .ref (b 9), .ref (b 10), .ref (b 11), .ref (b 12), .ref (b 13), .ref (b 14), .int tr])), (b 11, .inl (cI, 4, .inl (zsF hs le))), (b 12, .inl (cI, 4, .inl ln)), (b 13, .inl (cI, 240, .inl (rwF rr))), (b 14, .inl (cI, 60, .inl g))] → va_S A S_.heap H locs → ∀ ls : Array Slot, lv_has ls 7 [(0, .ref (b 0)), (1, .int k), (2, .int i), (3, .int o), (4, .int j), (5, .int n), (6, .int (nI q))] → W P_ l E_ ({ frames := 2, cells := 0, slots := 0, locals := 45 } : Room) S_ M_ (([.ref (b 0), .int k, .int i, .int o, .int j, .int n] : List Value).toArray) B_ T_ K_ H locs 0 0 (MQ B_ ((QI D (fun (r : Int32) (w1 : va_W) => ∃ (ha2 : Nat → Int32), r = (cyR hs ln le k i o j n kj oj) ∧ w1 = [(b 0, .inr (5, [.int (cyF hs ln le k i o j n kj oj), .int (nI h), .int (nI w), .int pc, .int br, .ref (b 1), .ref (b 2), .int ra, .int q1, .int q2, .int q3, .int q4, .ref (b 3), .int fw, .int ea, .int sn, .ref (b 4), .ref (b 5), .ref (b 6), .int mo, .int (nI rc), .ref (b 7), .ref (b 8), .ref (b 9), .ref (b 10), .ref (b 11), .ref (b 12), .ref (b 13), .ref (b 14), .int tr])), (b 11, .inl (cI, 4, .inl (zsF hs le))), (b 12, .inl (cI, 4, .inl ln)), (b 13, .inl (cI, 240, .inl (rwF (cyS hs ln le rr k i o j n kj oj)))), (b 14, .inl (cI, 60, .inl ha2))])) A) (([.ref (b 0), .int k, .int i, .int o, .int j, .int n] : List Value).toArray) S_ 0 0 A) (F0 M_ 107 ls []) := by
                  intro n_25
                  induction n_25 with
                  | zero =>
                    intro q g hq e_g hmu_n_25
                    exact absurd hmu_n_25 (Nat.not_lt_zero _)
                  | succ n_25 ih_27 =>
                    intro q g hq e_g hmu_n_25 H locs hP hD hS ls hl
                    subst e_g
                    have hl : lv_has ls 7 [(0, .ref (b 0)), (1, .int k), (2, .int i), (3, .int o), (4, .int j), (5, .int n), (6, .int (nI q))] := hl
                    have hP : va_P D vwCl [(b 0, .inr (5, [.int fa, .int (nI h), .int (nI w), .int pc, .int br, .ref (b 1), .ref (b 2), .int ra, .int q1, .int q2, .int q3, .int q4, .ref (b 3), .int fw, .int ea, .int sn, .ref (b 4), .ref (b 5), .ref (b 6), .int mo, .int (nI rc), .ref (b 7), .ref (b 8), .ref (b 9), .ref (b 10), .ref (b 11), .ref (b 12), .ref (b 13), .ref (b 14), .int tr])), (b 11, .inl (cI, 4, .inl (zsF hs le))), (b 12, .inl (cI, 4, .inl ln)), (b 13, .inl (cI, 240, .inl (rwF rr))), (b 14, .inl (cI, 60, .inl (fil (fun z => rr kj (i.toNatClampNeg + z)) ha q)))] H := hP
                    have hD : va_D A [(b 0, .inr (5, [.int fa, .int (nI h), .int (nI w), .int pc, .int br, .ref (b 1), .ref (b 2), .int ra, .int q1, .int q2, .int q3, .int q4, .ref (b 3), .int fw, .int ea, .int sn, .ref (b 4), .ref (b 5), .ref (b 6), .int mo, .int (nI rc), .ref (b 7), .ref (b 8), .ref (b 9), .ref (b 10), .ref (b 11), .ref (b 12), .ref (b 13), .ref (b 14), .int tr])), (b 11, .inl (cI, 4, .inl (zsF hs le))), (b 12, .inl (cI, 4, .inl ln)), (b 13, .inl (cI, 240, .inl (rwF rr))), (b 14, .inl (cI, 60, .inl (fil (fun z => rr kj (i.toNatClampNeg + z)) ha q)))] := hD
                    refine lv_iload hx hb dX5_copy_107 (lv_at hl 6 rfl) ?_
                    refine lv_iload hx hb dX5_copy_109 (lv_at hl 5 rfl) ?_
                    refine k_top (y := (nI n.toNatClampNeg)) en ?_
                    refine lv_icmp_ge (tgt := 141) hx hb dX5_copy_111 (by decide) (fun c_28 => ?_) (fun c_28 => ?_)
                    · have c_28 : n.toNatClampNeg ≤ q := (nI_leI (a := n.toNatClampNeg) (b := q) (by omega) (by omega)).mp c_28
                      refine lv_iconst (v := 0) hx hb dX5_copy_141 (by decide) ?_
                      refine lv_istore (lv' := [(6, .int 0), (0, .ref (b 0)), (1, .int k), (2, .int i), (3, .int o), (4, .int j), (5, .int n)]) hx hb dX5_copy_142 hl (by decide) rfl (fun ls hl => ?_)
                      have key_30 : ∀ (n_29 : Nat) (u : Nat) (ha3 : Nat → Int32) (g2 : Nat → Int32), (u ≤ n.toNatClampNeg) → (∀ z, z < n.toNatClampNeg → ha3 z = rr kj (i.toNatClampNeg + z)) → g2 = (rwF (va_up rr oj (va_cpy (rr kj) (rr oj) i.toNatClampNeg j.toNatClampNeg u))) → n.toNatClampNeg - u < n_29 → ∀ (H : Heap) (locs : List Loc), va_P D vwCl [(b 0, .inr (5, [.int fa, .int (nI h), .int (nI w), .int pc, .int br, .ref (b 1), .ref (b 2), .int ra, .int q1, .int q2, .int q3, .int q4, .ref (b 3), .int fw, .int ea, .int sn, .ref (b 4), .ref (b 5), .ref (b 6), .int mo, .int (nI rc), .ref (b 7), .ref (b 8), .ref (b 9), .ref (b 10), .ref (b 11), .ref (b 12), .ref (b 13), .ref (b 14), .int tr])), (b 11, .inl (cI, 4, .inl (zsF hs le))), (b 12, .inl (cI, 4, .inl ln)), (b 13, .inl (cI, 240, .inl g2)), (b 14, .inl (cI, 60, .inl ha3))] H → va_D A [(b 0, .inr (5, [.int fa, .int (nI h), .int (nI w), .int pc, .int br, .ref (b 1), .ref (b 2), .int ra, .int q1, .int q2, .int q3, .int q4, .ref (b 3), .int fw, .int ea, .int sn, .ref (b 4), .ref (b 5), .ref (b 6), .int mo, .int (nI rc), .ref (b 7), .ref (b 8), .ref (b 9), .ref (b 10), .ref (b 11), .ref (b 12), .ref (b 13), .ref (b 14), .int tr])), (b 11, .inl (cI, 4, .inl (zsF hs le))), (b 12, .inl (cI, 4, .inl ln)), (b 13, .inl (cI, 240, .inl g2)), (b 14, .inl (cI, 60, .inl ha3))] → va_S A S_.heap H locs → ∀ ls : Array Slot, lv_has ls 7 [(0, .ref (b 0)), (3, .int o), (4, .int j), (5, .int n), (6, .int (nI u))] → W P_ l E_ ({ frames := 2, cells := 0, slots := 0, locals := 45 } : Room) S_ M_ (([.ref (b 0), .int k, .int i, .int o, .int j, .int n] : List Value).toArray) B_ T_ K_ H locs 0 0 (MQ B_ ((QI D (fun (r : Int32) (w1 : va_W) => ∃ (ha2 : Nat → Int32), r = (cyR hs ln le k i o j n kj oj) ∧ w1 = [(b 0, .inr (5, [.int (cyF hs ln le k i o j n kj oj), .int (nI h), .int (nI w), .int pc, .int br, .ref (b 1), .ref (b 2), .int ra, .int q1, .int q2, .int q3, .int q4, .ref (b 3), .int fw, .int ea, .int sn, .ref (b 4), .ref (b 5), .ref (b 6), .int mo, .int (nI rc), .ref (b 7), .ref (b 8), .ref (b 9), .ref (b 10), .ref (b 11), .ref (b 12), .ref (b 13), .ref (b 14), .int tr])), (b 11, .inl (cI, 4, .inl (zsF hs le))), (b 12, .inl (cI, 4, .inl ln)), (b 13, .inl (cI, 240, .inl (rwF (cyS hs ln le rr k i o j n kj oj)))), (b 14, .inl (cI, 60, .inl ha2))])) A) (([.ref (b 0), .int k, .int i, .int o, .int j, .int n] : List Value).toArray) S_ 0 0 A) (F0 M_ 144 ls []) := by
                        intro n_29
                        induction n_29 with
                        | zero =>
                          intro u ha3 g2 hu hh3 e_g2 hmu_n_29
                          exact absurd hmu_n_29 (Nat.not_lt_zero _)
                        | succ n_29 ih_31 =>
                          intro u ha3 g2 hu hh3 e_g2 hmu_n_29 H locs hP hD hS ls hl
                          subst e_g2
                          have hl : lv_has ls 7 [(0, .ref (b 0)), (3, .int o), (4, .int j), (5, .int n), (6, .int (nI u))] := hl
                          have hP : va_P D vwCl [(b 0, .inr (5, [.int fa, .int (nI h), .int (nI w), .int pc, .int br, .ref (b 1), .ref (b 2), .int ra, .int q1, .int q2, .int q3, .int q4, .ref (b 3), .int fw, .int ea, .int sn, .ref (b 4), .ref (b 5), .ref (b 6), .int mo, .int (nI rc), .ref (b 7), .ref (b 8), .ref (b 9), .ref (b 10), .ref (b 11), .ref (b 12), .ref (b 13), .ref (b 14), .int tr])), (b 11, .inl (cI, 4, .inl (zsF hs le))), (b 12, .inl (cI, 4, .inl ln)), (b 13, .inl (cI, 240, .inl (rwF (va_up rr oj (va_cpy (rr kj) (rr oj) i.toNatClampNeg j.toNatClampNeg u))))), (b 14, .inl (cI, 60, .inl ha3))] H := hP
                          have hD : va_D A [(b 0, .inr (5, [.int fa, .int (nI h), .int (nI w), .int pc, .int br, .ref (b 1), .ref (b 2), .int ra, .int q1, .int q2, .int q3, .int q4, .ref (b 3), .int fw, .int ea, .int sn, .ref (b 4), .ref (b 5), .ref (b 6), .int mo, .int (nI rc), .ref (b 7), .ref (b 8), .ref (b 9), .ref (b 10), .ref (b 11), .ref (b 12), .ref (b 13), .ref (b 14), .int tr])), (b 11, .inl (cI, 4, .inl (zsF hs le))), (b 12, .inl (cI, 4, .inl ln)), (b 13, .inl (cI, 240, .inl (rwF (va_up rr oj (va_cpy (rr kj) (rr oj) i.toNatClampNeg j.toNatClampNeg u))))), (b 14, .inl (cI, 60, .inl ha3))] := hD
                          refine lv_iload hx hb dX5_copy_144 (lv_at hl 4 rfl) ?_
                          refine lv_iload hx hb dX5_copy_146 (lv_at hl 3 rfl) ?_
                          refine k_top (y := (nI n.toNatClampNeg)) en ?_
                          refine lv_icmp_ge (tgt := 179) hx hb dX5_copy_148 (by decide) (fun c_32 => ?_) (fun c_32 => ?_)
                          · have c_32 : n.toNatClampNeg ≤ u := (nI_leI (a := n.toNatClampNeg) (b := u) (by omega) (by omega)).mp c_32
                            refine lv_aload_n hx hb dX5_copy_179 rfl (lv_at hl 0 rfl) ?_
                            refine lv_iload hx hb dX5_copy_180 (lv_at hl 3 rfl) ?_
                            refine k_mi (wr := [(b 11, .inl (cI, 4, .inl (zsF hs le))), (b 12, .inl (cI, 4, .inl ln)), (b 13, .inl (cI, 240, .inl (rwF (va_up rr oj (va_cpy (rr kj) (rr oj) i.toNatClampNeg j.toNatClampNeg u))))), (b 14, .inl (cI, 60, .inl ha3))]) [0] [1, 2, 3, 4] (run_MV (As := [.int n]) (rest := []) ⟨hx, hb, hml, hown, hts⟩ (c_X5_refused l D cI cJ cO b fa h w pc br ra q1 q2 q3 q4 fw ea sn mo rc tr n) (cwV 1 hts gX5_copy_X5_refused rfl rfl rfl (by decide +kernel) ⟨Nat.le_of_ble_eq_true rfl, Nat.le_of_ble_eq_true rfl⟩) hP hK hD [0] (by decide) rfl rfl rfl rfl rfl hl.1 rfl (Nat.le_of_ble_eq_true rfl) dX5_copy_182 ⟨Nat.le_refl _, Nat.le_refl _⟩) hP hD hS hA rfl rfl (by decide) (by decide) (fun r_33 w_35 H locs q_34 hP hD hS => ?_)
                            obtain ⟨hq_36, rfl⟩ := q_34
                            replace hq_36 := hq_36.symm
                            subst hq_36
                            have hP : va_P D vwCl [(b 0, .inr (5, [.int 0, .int (nI h), .int (nI w), .int pc, .int br, .ref (b 1), .ref (b 2), .int ra, .int q1, .int q2, .int q3, .int q4, .ref (b 3), .int fw, .int ea, .int sn, .ref (b 4), .ref (b 5), .ref (b 6), .int mo, .int (nI rc), .ref (b 7), .ref (b 8), .ref (b 9), .ref (b 10), .ref (b 11), .ref (b 12), .ref (b 13), .ref (b 14), .int tr])), (b 11, .inl (cI, 4, .inl (zsF hs le))), (b 12, .inl (cI, 4, .inl ln)), (b 13, .inl (cI, 240, .inl (rwF (va_up rr oj (va_cpy (rr kj) (rr oj) i.toNatClampNeg j.toNatClampNeg u))))), (b 14, .inl (cI, 60, .inl ha3))] H := hP.sub [4, 0, 1, 2, 3] rfl
                            have hD : va_D A [(b 0, .inr (5, [.int 0, .int (nI h), .int (nI w), .int pc, .int br, .ref (b 1), .ref (b 2), .int ra, .int q1, .int q2, .int q3, .int q4, .ref (b 3), .int fw, .int ea, .int sn, .ref (b 4), .ref (b 5), .ref (b 6), .int mo, .int (nI rc), .ref (b 7), .ref (b 8), .ref (b 9), .ref (b 10), .ref (b 11), .ref (b 12), .ref (b 13), .ref (b 14), .int tr])), (b 11, .inl (cI, 4, .inl (zsF hs le))), (b 12, .inl (cI, 4, .inl ln)), (b 13, .inl (cI, 240, .inl (rwF (va_up rr oj (va_cpy (rr kj) (rr oj) i.toNatClampNeg j.toNatClampNeg u))))), (b 14, .inl (cI, 60, .inl ha3))] := hD.sub [4, 0, 1, 2, 3] (by decide) rfl
                            refine mi_ret (v := n) hx hb hr hlk hP hD hS dX5_copy_185 ?_
                            obtain rfl : u = n.toNatClampNeg := by omega
                            rw [show cyF hs ln le k i o j n kj oj = _ from by rw [cyF, if_pos ⟨c_3, c_9⟩, if_pos ⟨c0_kj, c0_oj⟩, if_pos c_15, if_pos ⟨c_18, c_24⟩]]
                            rw [show cyS hs ln le rr k i o j n kj oj = _ from by rw [cyS, if_pos ⟨c_3, c_9⟩, if_pos ⟨c0_kj, c0_oj⟩, if_pos c_15, if_pos ⟨c_18, c_24⟩]]
                            refine ⟨_, ?_, rfl⟩
                            rw [cyR, if_pos ⟨c_3, c_9⟩, if_pos ⟨c0_kj, c0_oj⟩, if_pos c_15, if_pos ⟨c_18, c_24⟩] <;> rfl
                          · have c_32 : u < n.toNatClampNeg := Nat.lt_of_not_le (fun z => c_32 ((nI_leI (a := n.toNatClampNeg) (b := u) (by omega) (by omega)).mpr z))
                            refine lv_aload_n hx hb dX5_copy_151 rfl (lv_at hl 0 rfl) ?_
                            refine va_get (D := D) (ci := 5) (v := .ref (b 13)) (C := RX5) (T := TX5) (N := 30) hx hb hts hin5 hown hK.1 hP 0 rfl rfl 27 (by decide) (hts _ (List.mem_of_getElem? (i := 4) rfl)) (fun _ h9 => h9) rfl dX5_copy_152 ?_
                            refine lv_bipush (v := 60) hx hb dX5_copy_155 (by decide) ?_
                            refine lv_iload_n hx hb dX5_copy_157 rfl (lv_at hl 1 rfl) ?_
                            refine k_top (y := (nI oj)) e_oj ?_
                            refine lv_imul hx hb dX5_copy_158 ?_
                            refine k_top (y := (nI (60 * oj))) (pk_mul 60 _) ?_
                            refine lv_iload hx hb dX5_copy_159 (lv_at hl 2 rfl) ?_
                            refine k_top (y := (nI j.toNatClampNeg)) ej ?_
                            refine lv_iadd hx hb dX5_copy_161 ?_
                            refine k_top (y := (nI ((60 * oj) + j.toNatClampNeg))) (nI_add _ _) ?_
                            refine lv_iload hx hb dX5_copy_162 (lv_at hl 4 rfl) ?_
                            refine lv_iadd hx hb dX5_copy_164 ?_
                            refine k_top (y := (nI (((60 * oj) + j.toNatClampNeg) + u))) (nI_add _ _) ?_
                            refine lv_aload_n hx hb dX5_copy_165 rfl (lv_at hl 0 rfl) ?_
                            refine va_get (D := D) (ci := 5) (v := .ref (b 14)) (C := RX5) (T := TX5) (N := 30) hx hb hts hin5 hown hK.1 hP 0 rfl rfl 28 (by decide) (hts _ (List.mem_of_getElem? (i := 3) rfl)) (fun _ h9 => h9) rfl dX5_copy_166 ?_
                            refine lv_iload hx hb dX5_copy_169 (lv_at hl 4 rfl) ?_
                            refine k_iald hx hb hK hP 4 0 rfl rfl (j := u) (vp_in_nI (show u < 60 by omega) (by decide)) (nI_clamp (by omega)) dX5_copy_171 ?_
                            refine k_top (y := (rr kj (i.toNatClampNeg + u))) (hh3 u (by omega)) ?_
                            refine k_iast hx hb hK hP hD hS 3 0 rfl rfl (j := ((60 * oj) + j.toNatClampNeg) + u) (vp_in_nI (show ((60 * oj) + j.toNatClampNeg) + u < 240 by omega) (by decide)) (nI_clamp (by omega)) dX5_copy_172 (fun H locs hP hD hS => ?_)
                            have hP : va_P D vwCl [(b 0, .inr (5, [.int fa, .int (nI h), .int (nI w), .int pc, .int br, .ref (b 1), .ref (b 2), .int ra, .int q1, .int q2, .int q3, .int q4, .ref (b 3), .int fw, .int ea, .int sn, .ref (b 4), .ref (b 5), .ref (b 6), .int mo, .int (nI rc), .ref (b 7), .ref (b 8), .ref (b 9), .ref (b 10), .ref (b 11), .ref (b 12), .ref (b 13), .ref (b 14), .int tr])), (b 11, .inl (cI, 4, .inl (zsF hs le))), (b 12, .inl (cI, 4, .inl ln)), (b 13, .inl (cI, 240, .inl (upd (rwF (va_up rr oj (va_cpy (rr kj) (rr oj) i.toNatClampNeg j.toNatClampNeg u))) (((60 * oj) + j.toNatClampNeg) + u) (rr kj (i.toNatClampNeg + u))))), (b 14, .inl (cI, 60, .inl ha3))] H := hP
                            have hD : va_D A [(b 0, .inr (5, [.int fa, .int (nI h), .int (nI w), .int pc, .int br, .ref (b 1), .ref (b 2), .int ra, .int q1, .int q2, .int q3, .int q4, .ref (b 3), .int fw, .int ea, .int sn, .ref (b 4), .ref (b 5), .ref (b 6), .int mo, .int (nI rc), .ref (b 7), .ref (b 8), .ref (b 9), .ref (b 10), .ref (b 11), .ref (b 12), .ref (b 13), .ref (b 14), .int tr])), (b 11, .inl (cI, 4, .inl (zsF hs le))), (b 12, .inl (cI, 4, .inl ln)), (b 13, .inl (cI, 240, .inl (upd (rwF (va_up rr oj (va_cpy (rr kj) (rr oj) i.toNatClampNeg j.toNatClampNeg u))) (((60 * oj) + j.toNatClampNeg) + u) (rr kj (i.toNatClampNeg + u))))), (b 14, .inl (cI, 60, .inl ha3))] := hD
                            refine lv_iinc (v := (nI (u + 1))) (lv' := [(6, .int (nI (u + 1))), (0, .ref (b 0)), (3, .int o), (4, .int j), (5, .int n)]) hx hb dX5_copy_173 hl (k := 4) rfl (nI_add _ 1) (by decide) rfl (fun ls hl => ?_)
                            refine lv_goto (tgt := 144) hx hb dX5_copy_176 (by decide) ?_
                            exact ih_31 (u + 1) ha3 (upd (rwF (va_up rr oj (va_cpy (rr kj) (rr oj) i.toNatClampNeg j.toNatClampNeg u))) (((60 * oj) + j.toNatClampNeg) + u) (rr kj (i.toNatClampNeg + u))) (by omega) hh3 (rw_cpy rr (rr kj) (by omega) rfl) (by omega) _ _ hP hD hS ls (lv_sub hl [1, 2, 3, 4, 0] rfl)
                      exact key_30 _ 0 (fil (fun z => rr kj (i.toNatClampNeg + z)) ha q) (rwF rr) (by omega) (fun z hz => fil_in (by omega)) (by rw [cpy_0, up_self]) (Nat.lt_succ_self _) _ _ hP hD hS ls (lv_sub hl [1, 4, 5, 6, 0] rfl)
                    · have c_28 : q < n.toNatClampNeg := Nat.lt_of_not_le (fun z => c_28 ((nI_leI (a := n.toNatClampNeg) (b := q) (by omega) (by omega)).mpr z))
                      refine lv_aload_n hx hb dX5_copy_114 rfl (lv_at hl 0 rfl) ?_
                      refine va_get (D := D) (ci := 5) (v := .ref (b 14)) (C := RX5) (T := TX5) (N := 30) hx hb hts hin5 hown hK.1 hP 0 rfl rfl 28 (by decide) (hts _ (List.mem_of_getElem? (i := 3) rfl)) (fun _ h9 => h9) rfl dX5_copy_115 ?_
                      refine lv_iload hx hb dX5_copy_118 (lv_at hl 6 rfl) ?_
                      refine lv_aload_n hx hb dX5_copy_120 rfl (lv_at hl 0 rfl) ?_
                      refine va_get (D := D) (ci := 5) (v := .ref (b 13)) (C := RX5) (T := TX5) (N := 30) hx hb hts hin5 hown hK.1 hP 0 rfl rfl 27 (by decide) (hts _ (List.mem_of_getElem? (i := 4) rfl)) (fun _ h9 => h9) rfl dX5_copy_121 ?_
                      refine lv_bipush (v := 60) hx hb dX5_copy_124 (by decide) ?_
                      refine lv_iload_n hx hb dX5_copy_126 rfl (lv_at hl 1 rfl) ?_
                      refine k_top (y := (nI kj)) e_kj ?_
                      refine lv_imul hx hb dX5_copy_127 ?_
                      refine k_top (y := (nI (60 * kj))) (pk_mul 60 _) ?_
                      refine lv_iload_n hx hb dX5_copy_128 rfl (lv_at hl 2 rfl) ?_
                      refine k_top (y := (nI i.toNatClampNeg)) ei ?_
                      refine lv_iadd hx hb dX5_copy_129 ?_
                      refine k_top (y := (nI ((60 * kj) + i.toNatClampNeg))) (nI_add _ _) ?_
                      refine lv_iload hx hb dX5_copy_130 (lv_at hl 6 rfl) ?_
                      refine lv_iadd hx hb dX5_copy_132 ?_
                      refine k_top (y := (nI (((60 * kj) + i.toNatClampNeg) + q))) (nI_add _ _) ?_
                      refine k_iald hx hb hK hP 3 0 rfl rfl (j := ((60 * kj) + i.toNatClampNeg) + q) (vp_in_nI (show ((60 * kj) + i.toNatClampNeg) + q < 240 by omega) (by decide)) (nI_clamp (by omega)) dX5_copy_133 ?_
                      refine k_top (y := (rr kj (i.toNatClampNeg + q))) (by rw [Nat.add_assoc]; exact rw_at rr (by omega)) ?_
                      refine k_iast hx hb hK hP hD hS 4 0 rfl rfl (j := q) (vp_in_nI (show q < 60 by omega) (by decide)) (nI_clamp (by omega)) dX5_copy_134 (fun H locs hP hD hS => ?_)
                      have hP : va_P D vwCl [(b 0, .inr (5, [.int fa, .int (nI h), .int (nI w), .int pc, .int br, .ref (b 1), .ref (b 2), .int ra, .int q1, .int q2, .int q3, .int q4, .ref (b 3), .int fw, .int ea, .int sn, .ref (b 4), .ref (b 5), .ref (b 6), .int mo, .int (nI rc), .ref (b 7), .ref (b 8), .ref (b 9), .ref (b 10), .ref (b 11), .ref (b 12), .ref (b 13), .ref (b 14), .int tr])), (b 11, .inl (cI, 4, .inl (zsF hs le))), (b 12, .inl (cI, 4, .inl ln)), (b 13, .inl (cI, 240, .inl (rwF rr))), (b 14, .inl (cI, 60, .inl (upd (fil (fun z => rr kj (i.toNatClampNeg + z)) ha q) q (rr kj (i.toNatClampNeg + q)))))] H := hP
                      have hD : va_D A [(b 0, .inr (5, [.int fa, .int (nI h), .int (nI w), .int pc, .int br, .ref (b 1), .ref (b 2), .int ra, .int q1, .int q2, .int q3, .int q4, .ref (b 3), .int fw, .int ea, .int sn, .ref (b 4), .ref (b 5), .ref (b 6), .int mo, .int (nI rc), .ref (b 7), .ref (b 8), .ref (b 9), .ref (b 10), .ref (b 11), .ref (b 12), .ref (b 13), .ref (b 14), .int tr])), (b 11, .inl (cI, 4, .inl (zsF hs le))), (b 12, .inl (cI, 4, .inl ln)), (b 13, .inl (cI, 240, .inl (rwF rr))), (b 14, .inl (cI, 60, .inl (upd (fil (fun z => rr kj (i.toNatClampNeg + z)) ha q) q (rr kj (i.toNatClampNeg + q)))))] := hD
                      refine lv_iinc (v := (nI (q + 1))) (lv' := [(6, .int (nI (q + 1))), (0, .ref (b 0)), (1, .int k), (2, .int i), (3, .int o), (4, .int j), (5, .int n)]) hx hb dX5_copy_135 hl (k := 6) rfl (nI_add _ 1) (by decide) rfl (fun ls hl => ?_)
                      refine lv_goto (tgt := 107) hx hb dX5_copy_138 (by decide) ?_
                      exact ih_27 (q + 1) (upd (fil (fun z => rr kj (i.toNatClampNeg + z)) ha q) q (rr kj (i.toNatClampNeg + q))) (by omega) (fil_upd (fun z => rr kj (i.toNatClampNeg + z)) ha q rfl) (by omega) _ _ hP hD hS ls (lv_sub hl [1, 2, 3, 4, 5, 6, 0] rfl)
                exact key_26 _ 0 ha (by omega) (fil_0 _ _).symm (Nat.lt_succ_self _) _ _ hP hD hS ls (lv_sub hl [1, 2, 3, 4, 5, 6, 0] rfl)
              · have c_24 := b2_t c_24
                refine lv_aload_n hx hb dX5_copy_98 rfl (lv_at hl 0 rfl) ?_
                refine lv_iconst (v := 3) hx hb dX5_copy_99 (by decide) ?_
                refine k_mi (wr := [(b 11, .inl (cI, 4, .inl (zsF hs le))), (b 12, .inl (cI, 4, .inl ln)), (b 13, .inl (cI, 240, .inl (rwF rr))), (b 14, .inl (cI, 60, .inl ha))]) [0] [1, 2, 3, 4] (run_MV (As := [.int 3]) (rest := []) ⟨hx, hb, hml, hown, hts⟩ (c_X5_failed l D cI cJ cO b fa h w pc br ra q1 q2 q3 q4 fw ea sn mo rc tr 3) (cwV 1 hts gX5_copy_X5_failed rfl rfl rfl (by decide +kernel) ⟨Nat.le_of_ble_eq_true rfl, Nat.le_of_ble_eq_true rfl⟩) hP hK hD [0] (by decide) rfl rfl rfl rfl rfl hl.1 rfl (Nat.le_of_ble_eq_true rfl) dX5_copy_100 ⟨Nat.le_refl _, Nat.le_refl _⟩) hP hD hS hA rfl rfl (by decide) (by decide) (fun r_37 w_39 H locs q_38 hP hD hS => ?_)
                obtain ⟨rfl, rfl⟩ := q_38
                have hP : va_P D vwCl [(b 0, .inr (5, [.int 3, .int (nI h), .int (nI w), .int pc, .int br, .ref (b 1), .ref (b 2), .int ra, .int q1, .int q2, .int q3, .int q4, .ref (b 3), .int fw, .int ea, .int sn, .ref (b 4), .ref (b 5), .ref (b 6), .int mo, .int (nI rc), .ref (b 7), .ref (b 8), .ref (b 9), .ref (b 10), .ref (b 11), .ref (b 12), .ref (b 13), .ref (b 14), .int tr])), (b 11, .inl (cI, 4, .inl (zsF hs le))), (b 12, .inl (cI, 4, .inl ln)), (b 13, .inl (cI, 240, .inl (rwF rr))), (b 14, .inl (cI, 60, .inl ha))] H := hP.sub [4, 0, 1, 2, 3] rfl
                have hD : va_D A [(b 0, .inr (5, [.int 3, .int (nI h), .int (nI w), .int pc, .int br, .ref (b 1), .ref (b 2), .int ra, .int q1, .int q2, .int q3, .int q4, .ref (b 3), .int fw, .int ea, .int sn, .ref (b 4), .ref (b 5), .ref (b 6), .int mo, .int (nI rc), .ref (b 7), .ref (b 8), .ref (b 9), .ref (b 10), .ref (b 11), .ref (b 12), .ref (b 13), .ref (b 14), .int tr])), (b 11, .inl (cI, 4, .inl (zsF hs le))), (b 12, .inl (cI, 4, .inl ln)), (b 13, .inl (cI, 240, .inl (rwF rr))), (b 14, .inl (cI, 60, .inl ha))] := hD.sub [4, 0, 1, 2, 3] (by decide) rfl
                refine mi_ret (v := (-10 - 3)) hx hb hr hlk hP hD hS dX5_copy_103 ?_
                rw [show cyF hs ln le k i o j n kj oj = _ from by rw [cyF, if_pos ⟨c_3, c_9⟩, if_pos ⟨c0_kj, c0_oj⟩, if_pos c_15, if_neg (fun z => c_24 z.2)]]
                rw [show cyS hs ln le rr k i o j n kj oj = _ from by rw [cyS, if_pos ⟨c_3, c_9⟩, if_pos ⟨c0_kj, c0_oj⟩, if_pos c_15, if_neg (fun z => c_24 z.2)]]
                refine ⟨ha, ?_, rfl⟩
                rw [cyR, if_pos ⟨c_3, c_9⟩, if_pos ⟨c0_kj, c0_oj⟩, if_pos c_15, if_neg (fun z => c_24 z.2)] <;> rfl
          · refine lv_aload_n hx hb dX5_copy_59 rfl (lv_at hl 0 rfl) ?_
            refine lv_iconst (v := 2) hx hb dX5_copy_60 (by decide) ?_
            refine k_mi (wr := [(b 11, .inl (cI, 4, .inl (zsF hs le))), (b 12, .inl (cI, 4, .inl ln)), (b 13, .inl (cI, 240, .inl (rwF rr))), (b 14, .inl (cI, 60, .inl ha))]) [0] [1, 2, 3, 4] (run_MV (As := [.int 2]) (rest := []) ⟨hx, hb, hml, hown, hts⟩ (c_X5_failed l D cI cJ cO b fa h w pc br ra q1 q2 q3 q4 fw ea sn mo rc tr 2) (cwV 1 hts gX5_copy_X5_failed rfl rfl rfl (by decide +kernel) ⟨Nat.le_of_ble_eq_true rfl, Nat.le_of_ble_eq_true rfl⟩) hP hK hD [0] (by decide) rfl rfl rfl rfl rfl hl.1 rfl (Nat.le_of_ble_eq_true rfl) dX5_copy_61 ⟨Nat.le_refl _, Nat.le_refl _⟩) hP hD hS hA rfl rfl (by decide) (by decide) (fun r_40 w_42 H locs q_41 hP hD hS => ?_)
            obtain ⟨rfl, rfl⟩ := q_41
            have hP : va_P D vwCl [(b 0, .inr (5, [.int 2, .int (nI h), .int (nI w), .int pc, .int br, .ref (b 1), .ref (b 2), .int ra, .int q1, .int q2, .int q3, .int q4, .ref (b 3), .int fw, .int ea, .int sn, .ref (b 4), .ref (b 5), .ref (b 6), .int mo, .int (nI rc), .ref (b 7), .ref (b 8), .ref (b 9), .ref (b 10), .ref (b 11), .ref (b 12), .ref (b 13), .ref (b 14), .int tr])), (b 11, .inl (cI, 4, .inl (zsF hs le))), (b 12, .inl (cI, 4, .inl ln)), (b 13, .inl (cI, 240, .inl (rwF rr))), (b 14, .inl (cI, 60, .inl ha))] H := hP.sub [4, 0, 1, 2, 3] rfl
            have hD : va_D A [(b 0, .inr (5, [.int 2, .int (nI h), .int (nI w), .int pc, .int br, .ref (b 1), .ref (b 2), .int ra, .int q1, .int q2, .int q3, .int q4, .ref (b 3), .int fw, .int ea, .int sn, .ref (b 4), .ref (b 5), .ref (b 6), .int mo, .int (nI rc), .ref (b 7), .ref (b 8), .ref (b 9), .ref (b 10), .ref (b 11), .ref (b 12), .ref (b 13), .ref (b 14), .int tr])), (b 11, .inl (cI, 4, .inl (zsF hs le))), (b 12, .inl (cI, 4, .inl ln)), (b 13, .inl (cI, 240, .inl (rwF rr))), (b 14, .inl (cI, 60, .inl ha))] := hD.sub [4, 0, 1, 2, 3] (by decide) rfl
            refine mi_ret (v := (-10 - 2)) hx hb hr hlk hP hD hS dX5_copy_64 ?_
            rw [show cyF hs ln le k i o j n kj oj = _ from by rw [cyF, if_pos ⟨c_3, c_9⟩, if_pos ⟨c0_kj, c0_oj⟩, if_neg c_15]]
            rw [show cyS hs ln le rr k i o j n kj oj = _ from by rw [cyS, if_pos ⟨c_3, c_9⟩, if_pos ⟨c0_kj, c0_oj⟩, if_neg c_15]]
            refine ⟨ha, ?_, rfl⟩
            rw [cyR, if_pos ⟨c_3, c_9⟩, if_pos ⟨c0_kj, c0_oj⟩, if_neg c_15] <;> rfl
        · have c0_oj : hs oj = 0 := Decidable.byContradiction (fun z => c_14 (by rw [zs_1 z, Int32.le_iff_toInt_le, nI_toInt (by omega), ti_0]; omega))
          refine lv_aload_n hx hb dX5_copy_38 rfl (lv_at hl 0 rfl) ?_
          refine lv_iconst (v := 1) hx hb dX5_copy_39 (by decide) ?_
          refine k_mi (wr := [(b 11, .inl (cI, 4, .inl (zsF hs le))), (b 12, .inl (cI, 4, .inl ln)), (b 13, .inl (cI, 240, .inl (rwF rr))), (b 14, .inl (cI, 60, .inl ha))]) [0] [1, 2, 3, 4] (run_MV (As := [.int 1]) (rest := []) ⟨hx, hb, hml, hown, hts⟩ (c_X5_failed l D cI cJ cO b fa h w pc br ra q1 q2 q3 q4 fw ea sn mo rc tr 1) (cwV 1 hts gX5_copy_X5_failed rfl rfl rfl (by decide +kernel) ⟨Nat.le_of_ble_eq_true rfl, Nat.le_of_ble_eq_true rfl⟩) hP hK hD [0] (by decide) rfl rfl rfl rfl rfl hl.1 rfl (Nat.le_of_ble_eq_true rfl) dX5_copy_40 ⟨Nat.le_refl _, Nat.le_refl _⟩) hP hD hS hA rfl rfl (by decide) (by decide) (fun r_43 w_45 H locs q_44 hP hD hS => ?_)
          obtain ⟨rfl, rfl⟩ := q_44
          have hP : va_P D vwCl [(b 0, .inr (5, [.int 1, .int (nI h), .int (nI w), .int pc, .int br, .ref (b 1), .ref (b 2), .int ra, .int q1, .int q2, .int q3, .int q4, .ref (b 3), .int fw, .int ea, .int sn, .ref (b 4), .ref (b 5), .ref (b 6), .int mo, .int (nI rc), .ref (b 7), .ref (b 8), .ref (b 9), .ref (b 10), .ref (b 11), .ref (b 12), .ref (b 13), .ref (b 14), .int tr])), (b 11, .inl (cI, 4, .inl (zsF hs le))), (b 12, .inl (cI, 4, .inl ln)), (b 13, .inl (cI, 240, .inl (rwF rr))), (b 14, .inl (cI, 60, .inl ha))] H := hP.sub [4, 0, 1, 2, 3] rfl
          have hD : va_D A [(b 0, .inr (5, [.int 1, .int (nI h), .int (nI w), .int pc, .int br, .ref (b 1), .ref (b 2), .int ra, .int q1, .int q2, .int q3, .int q4, .ref (b 3), .int fw, .int ea, .int sn, .ref (b 4), .ref (b 5), .ref (b 6), .int mo, .int (nI rc), .ref (b 7), .ref (b 8), .ref (b 9), .ref (b 10), .ref (b 11), .ref (b 12), .ref (b 13), .ref (b 14), .int tr])), (b 11, .inl (cI, 4, .inl (zsF hs le))), (b 12, .inl (cI, 4, .inl ln)), (b 13, .inl (cI, 240, .inl (rwF rr))), (b 14, .inl (cI, 60, .inl ha))] := hD.sub [4, 0, 1, 2, 3] (by decide) rfl
          refine mi_ret (v := (-10 - 1)) hx hb hr hlk hP hD hS dX5_copy_43 ?_
          rw [show cyF hs ln le k i o j n kj oj = _ from by rw [cyF, if_pos ⟨c_3, c_9⟩, if_neg (fun z => (fun z => z c0_oj) z.2)]]
          rw [show cyS hs ln le rr k i o j n kj oj = _ from by rw [cyS, if_pos ⟨c_3, c_9⟩, if_neg (fun z => (fun z => z c0_oj) z.2)]]
          refine ⟨ha, ?_, rfl⟩
          rw [cyR, if_pos ⟨c_3, c_9⟩, if_neg (fun z => (fun z => z c0_oj) z.2)] <;> rfl
    · have c_9 := b2_t c_9
      refine lv_aload_n hx hb dX5_copy_14 rfl (lv_at hl 0 rfl) ?_
      refine lv_iconst (v := (-1)) hx hb dX5_copy_15 (by decide) ?_
      refine k_mi (wr := [(b 11, .inl (cI, 4, .inl (zsF hs le))), (b 12, .inl (cI, 4, .inl ln)), (b 13, .inl (cI, 240, .inl (rwF rr))), (b 14, .inl (cI, 60, .inl ha))]) [0] [1, 2, 3, 4] (run_MV (As := [.int (-1)]) (rest := []) ⟨hx, hb, hml, hown, hts⟩ (c_X5_refused l D cI cJ cO b fa h w pc br ra q1 q2 q3 q4 fw ea sn mo rc tr (-1)) (cwV 1 hts gX5_copy_X5_refused rfl rfl rfl (by decide +kernel) ⟨Nat.le_of_ble_eq_true rfl, Nat.le_of_ble_eq_true rfl⟩) hP hK hD [0] (by decide) rfl rfl rfl rfl rfl hl.1 rfl (Nat.le_of_ble_eq_true rfl) dX5_copy_16 ⟨Nat.le_refl _, Nat.le_refl _⟩) hP hD hS hA rfl rfl (by decide) (by decide) (fun r_46 w_48 H locs q_47 hP hD hS => ?_)
      obtain ⟨rfl, rfl⟩ := q_47
      have hP : va_P D vwCl [(b 0, .inr (5, [.int 0, .int (nI h), .int (nI w), .int pc, .int br, .ref (b 1), .ref (b 2), .int ra, .int q1, .int q2, .int q3, .int q4, .ref (b 3), .int fw, .int ea, .int sn, .ref (b 4), .ref (b 5), .ref (b 6), .int mo, .int (nI rc), .ref (b 7), .ref (b 8), .ref (b 9), .ref (b 10), .ref (b 11), .ref (b 12), .ref (b 13), .ref (b 14), .int tr])), (b 11, .inl (cI, 4, .inl (zsF hs le))), (b 12, .inl (cI, 4, .inl ln)), (b 13, .inl (cI, 240, .inl (rwF rr))), (b 14, .inl (cI, 60, .inl ha))] H := hP.sub [4, 0, 1, 2, 3] rfl
      have hD : va_D A [(b 0, .inr (5, [.int 0, .int (nI h), .int (nI w), .int pc, .int br, .ref (b 1), .ref (b 2), .int ra, .int q1, .int q2, .int q3, .int q4, .ref (b 3), .int fw, .int ea, .int sn, .ref (b 4), .ref (b 5), .ref (b 6), .int mo, .int (nI rc), .ref (b 7), .ref (b 8), .ref (b 9), .ref (b 10), .ref (b 11), .ref (b 12), .ref (b 13), .ref (b 14), .int tr])), (b 11, .inl (cI, 4, .inl (zsF hs le))), (b 12, .inl (cI, 4, .inl ln)), (b 13, .inl (cI, 240, .inl (rwF rr))), (b 14, .inl (cI, 60, .inl ha))] := hD.sub [4, 0, 1, 2, 3] (by decide) rfl
      refine mi_ret (v := (-1)) hx hb hr hlk hP hD hS dX5_copy_19 ?_
      rw [show cyF hs ln le k i o j n kj oj = _ from by rw [cyF, if_neg (fun z => c_9 z.2)]]
      rw [show cyS hs ln le rr k i o j n kj oj = _ from by rw [cyS, if_neg (fun z => c_9 z.2)]]
      refine ⟨ha, ?_, rfl⟩
      rw [cyR, if_neg (fun z => c_9 z.2)] <;> rfl
theorem iwX5_cellsBarred_X5 : ∀ x ∈ wsX50, x ∈ wsX5_cellsBarred := by decide +kernel
set_option maxRecDepth 100000 in
set_option maxHeartbeats 4000000 in
/-- X5_cellsBarred -/
theorem c_X5_cellsBarred (l : Launch) (D : va_G) (cI cJ cO : ClassId) (b : Nat → Nat) (fa : Int32) (h : Nat) (w : Nat) (pc : Int32) (br : Int32) (ra : Int32) (q1 : Int32) (q2 : Int32) (q3 : Int32) (q4 : Int32) (fw : Int32) (ea : Int32) (sn : Int32) (mo : Int32) (rc : Nat) (tr : Int32) (hs : Nat → Int32) (ln : Nat → Int32) (le : Nat → Nat) (k : Int32) (x : Int32) (i : Int32) (n : Int32) (kj : Nat) (hle : ∀ z, z < 4 → le z ≤ 60) (hv_k : vp_in k 4) (hj_k : k.toNatClampNeg = kj) : MG l yX5_cellsBarred wsX5_cellsBarred 1 23 0 0 D [(cI, .int), (cJ, .long), (cO, .object "ShornHill$Sheet")] [.ref (b 0), .int k, .int x, .int i, .long n.toInt64] [(b 0, .inr (5, [.int fa, .int (nI h), .int (nI w), .int pc, .int br, .ref (b 1), .ref (b 2), .int ra, .int q1, .int q2, .int q3, .int q4, .ref (b 3), .int fw, .int ea, .int sn, .ref (b 4), .ref (b 5), .ref (b 6), .int mo, .int (nI rc), .ref (b 7), .ref (b 8), .ref (b 9), .ref (b 10), .ref (b 11), .ref (b 12), .ref (b 13), .ref (b 14), .int tr])), (b 11, .inl (cI, 4, .inl (zsF hs le))), (b 12, .inl (cI, 4, .inl ln))] (QI D (fun (r : Int32) (w1 : va_W) => r = (brR (hiX (fltF (hs kj) (ln kj) x) i n (le kj))) ∧ w1 = [(b 0, .inr (5, [.int (brF (hiX (fltF (hs kj) (ln kj) x) i n (le kj)) fa), .int (nI h), .int (nI w), .int pc, .int br, .ref (b 1), .ref (b 2), .int ra, .int q1, .int q2, .int q3, .int q4, .ref (b 3), .int fw, .int ea, .int sn, .ref (b 4), .ref (b 5), .ref (b 6), .int mo, .int (nI rc), .ref (b 7), .ref (b 8), .ref (b 9), .ref (b 10), .ref (b 11), .ref (b 12), .ref (b 13), .ref (b 14), .int tr])), (b 11, .inl (cI, 4, .inl (zsF hs le))), (b 12, .inl (cI, 4, .inl ln))])) := by
  refine MG.of (cc := cX5_cellsBarred) (maxL := 6) (ret := (some .int)) (by decide) rfl (Nat.le_of_ble_eq_true rfl) ?_
  intro P_ E_ S_ M_ B_ T_ K_ hx hb hml hr hts hown hlk hnm A hA hP hK hD hS ls hl
  have hl : lv_has ls 6 [(0, .ref (b 0)), (1, .int k), (2, .int x), (3, .int i), (4, .long n.toInt64)] := hl
  have hin5 : ∀ x ∈ u_ws RX5 TX5 30, x ∈ wsX5_cellsBarred := iwX5_cellsBarred_X5
  have h4_kj : kj < 4 := by rw [← hj_k]; exact (inN_vp.mpr hv_k).lt
  have h60_kj := hle kj h4_kj
  rcases (show hs kj = 0 ∨ (¬ hs kj = 0 ∧ ¬ ln kj = x) ∨ (¬ hs kj = 0 ∧ ln kj = x ∧ n < 0) ∨ (¬ hs kj = 0 ∧ ln kj = x ∧ ¬ n < 0 ∧ spP i n (le kj)) ∨ (¬ hs kj = 0 ∧ ln kj = x ∧ ¬ n < 0 ∧ ¬ spP i n (le kj)) from if hc1 : hs kj = 0 then Or.inl hc1 else if hl1 : ln kj = x then if hn0 : n < 0 then Or.inr (Or.inr (Or.inl ⟨hc1, hl1, hn0⟩)) else if hsp : spP i n (le kj) then Or.inr (Or.inr (Or.inr (Or.inl ⟨hc1, hl1, hn0, hsp⟩))) else Or.inr (Or.inr (Or.inr (Or.inr ⟨hc1, hl1, hn0, hsp⟩))) else Or.inr (Or.inl ⟨hc1, hl1⟩)) with hc1 | ⟨hc1, hl1⟩ | ⟨hc1, hl1, hn0⟩ | ⟨hc1, hl1, hn0, hsp⟩ | ⟨hc1, hl1, hn0, hsp⟩
  · have hfl : fltF (hs kj) (ln kj) x = 1 := by rw [fltF, if_pos hc1]
    have hf0 : ¬ fltF (hs kj) (ln kj) x = 0 := fun z => absurd (hfl.symm.trans z) (by decide)
    have hzl : (zsF hs le) kj < 0 := (zs_lt h60_kj).mpr hc1
    have hX : hiX (fltF (hs kj) (ln kj) x) i n (le kj) = 1 := by rw [hiX, if_neg hf0]; exact hfl
    have hzg : ¬ 0 ≤ (zsF hs le) kj := Int32.not_le.mpr hzl
    refine lv_aload_n hx hb dX5_cellsBarred_0 rfl (lv_at hl 0 rfl) ?_
    refine va_get (D := D) (ci := 5) (v := .ref (b 11)) (C := RX5) (T := TX5) (N := 30) hx hb hts hin5 hown hK.1 hP 0 rfl rfl 25 (by decide) (hts _ (List.mem_of_getElem? (i := 1) rfl)) (fun _ h9 => h9) rfl dX5_cellsBarred_1 ?_
    refine lv_iload_n hx hb dX5_cellsBarred_4 rfl (lv_at hl 1 rfl) ?_
    refine k_iald hx hb hK hP 1 0 rfl rfl (j := kj) hv_k hj_k dX5_cellsBarred_5 ?_
    refine lv_if_lt (tgt := 25) hx hb dX5_cellsBarred_6 (by decide) (fun c_1 => ?_) (fun c_1 => ?_)
    · refine lv_aload_n hx hb dX5_cellsBarred_25 rfl (lv_at hl 0 rfl) ?_
      refine va_get (D := D) (ci := 5) (v := .ref (b 11)) (C := RX5) (T := TX5) (N := 30) hx hb hts hin5 hown hK.1 hP 0 rfl rfl 25 (by decide) (hts _ (List.mem_of_getElem? (i := 1) rfl)) (fun _ h9 => h9) rfl dX5_cellsBarred_26 ?_
      refine lv_iload_n hx hb dX5_cellsBarred_29 rfl (lv_at hl 1 rfl) ?_
      refine k_iald hx hb hK hP 1 0 rfl rfl (j := kj) hv_k hj_k dX5_cellsBarred_30 ?_
      refine lv_if_ge (tgt := 40) hx hb dX5_cellsBarred_31 (by decide) (fun c_2 => ?_) (fun c_2 => ?_)
      · exact absurd c_2 hzg
      · refine lv_aload_n hx hb dX5_cellsBarred_34 rfl (lv_at hl 0 rfl) ?_
        refine lv_iconst (v := 1) hx hb dX5_cellsBarred_35 (by decide) ?_
        refine k_mi (wr := [(b 11, .inl (cI, 4, .inl (zsF hs le))), (b 12, .inl (cI, 4, .inl ln))]) [0] [1, 2] (run_MV (As := [.int 1]) (rest := []) ⟨hx, hb, hml, hown, hts⟩ (c_X5_failed l D cI cJ cO b fa h w pc br ra q1 q2 q3 q4 fw ea sn mo rc tr 1) (cwV 1 hts gX5_cellsBarred_X5_failed rfl rfl rfl (by decide +kernel) ⟨Nat.le_of_ble_eq_true rfl, Nat.le_of_ble_eq_true rfl⟩) hP hK hD [0] (by decide) rfl rfl rfl rfl rfl hl.1 rfl (Nat.le_of_ble_eq_true rfl) dX5_cellsBarred_36 ⟨Nat.le_refl _, Nat.le_refl _⟩) hP hD hS hA rfl rfl (by decide) (by decide) (fun r_3 w_5 H locs q_4 hP hD hS => ?_)
        obtain ⟨rfl, rfl⟩ := q_4
        have hP : va_P D vwCl [(b 0, .inr (5, [.int 1, .int (nI h), .int (nI w), .int pc, .int br, .ref (b 1), .ref (b 2), .int ra, .int q1, .int q2, .int q3, .int q4, .ref (b 3), .int fw, .int ea, .int sn, .ref (b 4), .ref (b 5), .ref (b 6), .int mo, .int (nI rc), .ref (b 7), .ref (b 8), .ref (b 9), .ref (b 10), .ref (b 11), .ref (b 12), .ref (b 13), .ref (b 14), .int tr])), (b 11, .inl (cI, 4, .inl (zsF hs le))), (b 12, .inl (cI, 4, .inl ln))] H := hP.sub [2, 0, 1] rfl
        have hD : va_D A [(b 0, .inr (5, [.int 1, .int (nI h), .int (nI w), .int pc, .int br, .ref (b 1), .ref (b 2), .int ra, .int q1, .int q2, .int q3, .int q4, .ref (b 3), .int fw, .int ea, .int sn, .ref (b 4), .ref (b 5), .ref (b 6), .int mo, .int (nI rc), .ref (b 7), .ref (b 8), .ref (b 9), .ref (b 10), .ref (b 11), .ref (b 12), .ref (b 13), .ref (b 14), .int tr])), (b 11, .inl (cI, 4, .inl (zsF hs le))), (b 12, .inl (cI, 4, .inl ln))] := hD.sub [2, 0, 1] (by decide) rfl
        refine mi_ret (v := (-10 - 1)) hx hb hr hlk hP hD hS dX5_cellsBarred_39 ?_
        rw [show brF (hiX (fltF (hs kj) (ln kj) x) i n (le kj)) fa = 1 from by rw [hX] <;> rfl]
        refine ⟨?_, rfl⟩
        rw [hX] <;> rfl
    · exact absurd hzl c_1
  · have hfl : fltF (hs kj) (ln kj) x = 2 := by rw [fltF, if_neg hc1, if_neg hl1]
    have hf0 : ¬ fltF (hs kj) (ln kj) x = 0 := fun z => absurd (hfl.symm.trans z) (by decide)
    have hzl : ¬ (zsF hs le) kj < 0 := fun z => hc1 ((zs_lt h60_kj).mp z)
    have hX : hiX (fltF (hs kj) (ln kj) x) i n (le kj) = 2 := by rw [hiX, if_neg hf0]; exact hfl
    have hzg : 0 ≤ (zsF hs le) kj := Int32.not_lt.mp hzl
    refine lv_aload_n hx hb dX5_cellsBarred_0 rfl (lv_at hl 0 rfl) ?_
    refine va_get (D := D) (ci := 5) (v := .ref (b 11)) (C := RX5) (T := TX5) (N := 30) hx hb hts hin5 hown hK.1 hP 0 rfl rfl 25 (by decide) (hts _ (List.mem_of_getElem? (i := 1) rfl)) (fun _ h9 => h9) rfl dX5_cellsBarred_1 ?_
    refine lv_iload_n hx hb dX5_cellsBarred_4 rfl (lv_at hl 1 rfl) ?_
    refine k_iald hx hb hK hP 1 0 rfl rfl (j := kj) hv_k hj_k dX5_cellsBarred_5 ?_
    refine lv_if_lt (tgt := 25) hx hb dX5_cellsBarred_6 (by decide) (fun c_6 => ?_) (fun c_6 => ?_)
    · exact absurd c_6 hzl
    · refine lv_aload_n hx hb dX5_cellsBarred_9 rfl (lv_at hl 0 rfl) ?_
      refine va_get (D := D) (ci := 5) (v := .ref (b 12)) (C := RX5) (T := TX5) (N := 30) hx hb hts hin5 hown hK.1 hP 0 rfl rfl 26 (by decide) (hts _ (List.mem_of_getElem? (i := 2) rfl)) (fun _ h9 => h9) rfl dX5_cellsBarred_10 ?_
      refine lv_iload_n hx hb dX5_cellsBarred_13 rfl (lv_at hl 1 rfl) ?_
      refine k_iald hx hb hK hP 2 0 rfl rfl (j := kj) hv_k hj_k dX5_cellsBarred_14 ?_
      refine lv_iload_n hx hb dX5_cellsBarred_15 rfl (lv_at hl 2 rfl) ?_
      refine lv_icmp_eq (tgt := 25) hx hb dX5_cellsBarred_16 (by decide) (fun c_7 => ?_) (fun c_7 => ?_)
      · exact absurd c_7 hl1
      · refine lv_aload_n hx hb dX5_cellsBarred_19 rfl (lv_at hl 0 rfl) ?_
        refine lv_iconst (v := 2) hx hb dX5_cellsBarred_20 (by decide) ?_
        refine k_mi (wr := [(b 11, .inl (cI, 4, .inl (zsF hs le))), (b 12, .inl (cI, 4, .inl ln))]) [0] [1, 2] (run_MV (As := [.int 2]) (rest := []) ⟨hx, hb, hml, hown, hts⟩ (c_X5_failed l D cI cJ cO b fa h w pc br ra q1 q2 q3 q4 fw ea sn mo rc tr 2) (cwV 1 hts gX5_cellsBarred_X5_failed rfl rfl rfl (by decide +kernel) ⟨Nat.le_of_ble_eq_true rfl, Nat.le_of_ble_eq_true rfl⟩) hP hK hD [0] (by decide) rfl rfl rfl rfl rfl hl.1 rfl (Nat.le_of_ble_eq_true rfl) dX5_cellsBarred_21 ⟨Nat.le_refl _, Nat.le_refl _⟩) hP hD hS hA rfl rfl (by decide) (by decide) (fun r_8 w_10 H locs q_9 hP hD hS => ?_)
        obtain ⟨rfl, rfl⟩ := q_9
        have hP : va_P D vwCl [(b 0, .inr (5, [.int 2, .int (nI h), .int (nI w), .int pc, .int br, .ref (b 1), .ref (b 2), .int ra, .int q1, .int q2, .int q3, .int q4, .ref (b 3), .int fw, .int ea, .int sn, .ref (b 4), .ref (b 5), .ref (b 6), .int mo, .int (nI rc), .ref (b 7), .ref (b 8), .ref (b 9), .ref (b 10), .ref (b 11), .ref (b 12), .ref (b 13), .ref (b 14), .int tr])), (b 11, .inl (cI, 4, .inl (zsF hs le))), (b 12, .inl (cI, 4, .inl ln))] H := hP.sub [2, 0, 1] rfl
        have hD : va_D A [(b 0, .inr (5, [.int 2, .int (nI h), .int (nI w), .int pc, .int br, .ref (b 1), .ref (b 2), .int ra, .int q1, .int q2, .int q3, .int q4, .ref (b 3), .int fw, .int ea, .int sn, .ref (b 4), .ref (b 5), .ref (b 6), .int mo, .int (nI rc), .ref (b 7), .ref (b 8), .ref (b 9), .ref (b 10), .ref (b 11), .ref (b 12), .ref (b 13), .ref (b 14), .int tr])), (b 11, .inl (cI, 4, .inl (zsF hs le))), (b 12, .inl (cI, 4, .inl ln))] := hD.sub [2, 0, 1] (by decide) rfl
        refine mi_ret (v := (-10 - 2)) hx hb hr hlk hP hD hS dX5_cellsBarred_24 ?_
        rw [show brF (hiX (fltF (hs kj) (ln kj) x) i n (le kj)) fa = 2 from by rw [hX] <;> rfl]
        refine ⟨?_, rfl⟩
        rw [hX] <;> rfl
  · have hfl : fltF (hs kj) (ln kj) x = 0 := by rw [fltF, if_neg hc1, if_pos hl1]
    have hf0 : fltF (hs kj) (ln kj) x = 0 := hfl
    have hzl : ¬ (zsF hs le) kj < 0 := fun z => hc1 ((zs_lt h60_kj).mp z)
    have hX : hiX (fltF (hs kj) (ln kj) x) i n (le kj) = 4 := by rw [hiX, if_pos hf0, if_pos hn0]
    have hzg : 0 ≤ (zsF hs le) kj := Int32.not_lt.mp hzl
    have hln : ¬ 0 ≤ lg_cmp n.toInt64 0 := n64_n hn0
    refine lv_aload_n hx hb dX5_cellsBarred_0 rfl (lv_at hl 0 rfl) ?_
    refine va_get (D := D) (ci := 5) (v := .ref (b 11)) (C := RX5) (T := TX5) (N := 30) hx hb hts hin5 hown hK.1 hP 0 rfl rfl 25 (by decide) (hts _ (List.mem_of_getElem? (i := 1) rfl)) (fun _ h9 => h9) rfl dX5_cellsBarred_1 ?_
    refine lv_iload_n hx hb dX5_cellsBarred_4 rfl (lv_at hl 1 rfl) ?_
    refine k_iald hx hb hK hP 1 0 rfl rfl (j := kj) hv_k hj_k dX5_cellsBarred_5 ?_
    refine lv_if_lt (tgt := 25) hx hb dX5_cellsBarred_6 (by decide) (fun c_11 => ?_) (fun c_11 => ?_)
    · exact absurd c_11 hzl
    · refine lv_aload_n hx hb dX5_cellsBarred_9 rfl (lv_at hl 0 rfl) ?_
      refine va_get (D := D) (ci := 5) (v := .ref (b 12)) (C := RX5) (T := TX5) (N := 30) hx hb hts hin5 hown hK.1 hP 0 rfl rfl 26 (by decide) (hts _ (List.mem_of_getElem? (i := 2) rfl)) (fun _ h9 => h9) rfl dX5_cellsBarred_10 ?_
      refine lv_iload_n hx hb dX5_cellsBarred_13 rfl (lv_at hl 1 rfl) ?_
      refine k_iald hx hb hK hP 2 0 rfl rfl (j := kj) hv_k hj_k dX5_cellsBarred_14 ?_
      refine lv_iload_n hx hb dX5_cellsBarred_15 rfl (lv_at hl 2 rfl) ?_
      refine lv_icmp_eq (tgt := 25) hx hb dX5_cellsBarred_16 (by decide) (fun c_12 => ?_) (fun c_12 => ?_)
      · refine lv_aload_n hx hb dX5_cellsBarred_25 rfl (lv_at hl 0 rfl) ?_
        refine va_get (D := D) (ci := 5) (v := .ref (b 11)) (C := RX5) (T := TX5) (N := 30) hx hb hts hin5 hown hK.1 hP 0 rfl rfl 25 (by decide) (hts _ (List.mem_of_getElem? (i := 1) rfl)) (fun _ h9 => h9) rfl dX5_cellsBarred_26 ?_
        refine lv_iload_n hx hb dX5_cellsBarred_29 rfl (lv_at hl 1 rfl) ?_
        refine k_iald hx hb hK hP 1 0 rfl rfl (j := kj) hv_k hj_k dX5_cellsBarred_30 ?_
        refine lv_if_ge (tgt := 40) hx hb dX5_cellsBarred_31 (by decide) (fun c_13 => ?_) (fun c_13 => ?_)
        · refine lv_lload hx hb dX5_cellsBarred_40 (lv_at hl 4 rfl) ?_
          refine lv_lconst (v := 0) hx hb dX5_cellsBarred_42 (by decide) ?_
          refine W.lcmp hx hb dX5_cellsBarred_43 ?_
          refine lv_if_ge (tgt := 53) hx hb dX5_cellsBarred_44 (by decide) (fun c_14 => ?_) (fun c_14 => ?_)
          · exact absurd c_14 hln
          · refine lv_aload_n hx hb dX5_cellsBarred_47 rfl (lv_at hl 0 rfl) ?_
            refine lv_iconst (v := 4) hx hb dX5_cellsBarred_48 (by decide) ?_
            refine k_mi (wr := [(b 11, .inl (cI, 4, .inl (zsF hs le))), (b 12, .inl (cI, 4, .inl ln))]) [0] [1, 2] (run_MV (As := [.int 4]) (rest := []) ⟨hx, hb, hml, hown, hts⟩ (c_X5_failed l D cI cJ cO b fa h w pc br ra q1 q2 q3 q4 fw ea sn mo rc tr 4) (cwV 1 hts gX5_cellsBarred_X5_failed rfl rfl rfl (by decide +kernel) ⟨Nat.le_of_ble_eq_true rfl, Nat.le_of_ble_eq_true rfl⟩) hP hK hD [0] (by decide) rfl rfl rfl rfl rfl hl.1 rfl (Nat.le_of_ble_eq_true rfl) dX5_cellsBarred_49 ⟨Nat.le_refl _, Nat.le_refl _⟩) hP hD hS hA rfl rfl (by decide) (by decide) (fun r_15 w_17 H locs q_16 hP hD hS => ?_)
            obtain ⟨rfl, rfl⟩ := q_16
            have hP : va_P D vwCl [(b 0, .inr (5, [.int 4, .int (nI h), .int (nI w), .int pc, .int br, .ref (b 1), .ref (b 2), .int ra, .int q1, .int q2, .int q3, .int q4, .ref (b 3), .int fw, .int ea, .int sn, .ref (b 4), .ref (b 5), .ref (b 6), .int mo, .int (nI rc), .ref (b 7), .ref (b 8), .ref (b 9), .ref (b 10), .ref (b 11), .ref (b 12), .ref (b 13), .ref (b 14), .int tr])), (b 11, .inl (cI, 4, .inl (zsF hs le))), (b 12, .inl (cI, 4, .inl ln))] H := hP.sub [2, 0, 1] rfl
            have hD : va_D A [(b 0, .inr (5, [.int 4, .int (nI h), .int (nI w), .int pc, .int br, .ref (b 1), .ref (b 2), .int ra, .int q1, .int q2, .int q3, .int q4, .ref (b 3), .int fw, .int ea, .int sn, .ref (b 4), .ref (b 5), .ref (b 6), .int mo, .int (nI rc), .ref (b 7), .ref (b 8), .ref (b 9), .ref (b 10), .ref (b 11), .ref (b 12), .ref (b 13), .ref (b 14), .int tr])), (b 11, .inl (cI, 4, .inl (zsF hs le))), (b 12, .inl (cI, 4, .inl ln))] := hD.sub [2, 0, 1] (by decide) rfl
            refine mi_ret (v := (-10 - 4)) hx hb hr hlk hP hD hS dX5_cellsBarred_52 ?_
            rw [show brF (hiX (fltF (hs kj) (ln kj) x) i n (le kj)) fa = 4 from by rw [hX] <;> rfl]
            refine ⟨?_, rfl⟩
            rw [hX] <;> rfl
        · exact absurd hzg c_13
      · exact absurd hl1 c_12
  · have hfl : fltF (hs kj) (ln kj) x = 0 := by rw [fltF, if_neg hc1, if_pos hl1]
    have hf0 : fltF (hs kj) (ln kj) x = 0 := hfl
    have hzl : ¬ (zsF hs le) kj < 0 := fun z => hc1 ((zs_lt h60_kj).mp z)
    have hX : hiX (fltF (hs kj) (ln kj) x) i n (le kj) = 0 := by rw [hiX, if_pos hf0, if_neg hn0, if_pos hsp]
    have hzg : 0 ≤ (zsF hs le) kj := Int32.not_lt.mp hzl
    have hln : 0 ≤ lg_cmp n.toInt64 0 := n64_p hn0
    refine lv_aload_n hx hb dX5_cellsBarred_0 rfl (lv_at hl 0 rfl) ?_
    refine va_get (D := D) (ci := 5) (v := .ref (b 11)) (C := RX5) (T := TX5) (N := 30) hx hb hts hin5 hown hK.1 hP 0 rfl rfl 25 (by decide) (hts _ (List.mem_of_getElem? (i := 1) rfl)) (fun _ h9 => h9) rfl dX5_cellsBarred_1 ?_
    refine lv_iload_n hx hb dX5_cellsBarred_4 rfl (lv_at hl 1 rfl) ?_
    refine k_iald hx hb hK hP 1 0 rfl rfl (j := kj) hv_k hj_k dX5_cellsBarred_5 ?_
    refine lv_if_lt (tgt := 25) hx hb dX5_cellsBarred_6 (by decide) (fun c_18 => ?_) (fun c_18 => ?_)
    · exact absurd c_18 hzl
    · refine lv_aload_n hx hb dX5_cellsBarred_9 rfl (lv_at hl 0 rfl) ?_
      refine va_get (D := D) (ci := 5) (v := .ref (b 12)) (C := RX5) (T := TX5) (N := 30) hx hb hts hin5 hown hK.1 hP 0 rfl rfl 26 (by decide) (hts _ (List.mem_of_getElem? (i := 2) rfl)) (fun _ h9 => h9) rfl dX5_cellsBarred_10 ?_
      refine lv_iload_n hx hb dX5_cellsBarred_13 rfl (lv_at hl 1 rfl) ?_
      refine k_iald hx hb hK hP 2 0 rfl rfl (j := kj) hv_k hj_k dX5_cellsBarred_14 ?_
      refine lv_iload_n hx hb dX5_cellsBarred_15 rfl (lv_at hl 2 rfl) ?_
      refine lv_icmp_eq (tgt := 25) hx hb dX5_cellsBarred_16 (by decide) (fun c_19 => ?_) (fun c_19 => ?_)
      · refine lv_aload_n hx hb dX5_cellsBarred_25 rfl (lv_at hl 0 rfl) ?_
        refine va_get (D := D) (ci := 5) (v := .ref (b 11)) (C := RX5) (T := TX5) (N := 30) hx hb hts hin5 hown hK.1 hP 0 rfl rfl 25 (by decide) (hts _ (List.mem_of_getElem? (i := 1) rfl)) (fun _ h9 => h9) rfl dX5_cellsBarred_26 ?_
        refine lv_iload_n hx hb dX5_cellsBarred_29 rfl (lv_at hl 1 rfl) ?_
        refine k_iald hx hb hK hP 1 0 rfl rfl (j := kj) hv_k hj_k dX5_cellsBarred_30 ?_
        refine lv_if_ge (tgt := 40) hx hb dX5_cellsBarred_31 (by decide) (fun c_20 => ?_) (fun c_20 => ?_)
        · refine lv_lload hx hb dX5_cellsBarred_40 (lv_at hl 4 rfl) ?_
          refine lv_lconst (v := 0) hx hb dX5_cellsBarred_42 (by decide) ?_
          refine W.lcmp hx hb dX5_cellsBarred_43 ?_
          refine lv_if_ge (tgt := 53) hx hb dX5_cellsBarred_44 (by decide) (fun c_21 => ?_) (fun c_21 => ?_)
          · refine lv_iload_n hx hb dX5_cellsBarred_53 rfl (lv_at hl 3 rfl) ?_
            refine lv_lload hx hb dX5_cellsBarred_54 (lv_at hl 4 rfl) ?_
            refine lv_aload_n hx hb dX5_cellsBarred_56 rfl (lv_at hl 0 rfl) ?_
            refine va_get (D := D) (ci := 5) (v := .ref (b 11)) (C := RX5) (T := TX5) (N := 30) hx hb hts hin5 hown hK.1 hP 0 rfl rfl 25 (by decide) (hts _ (List.mem_of_getElem? (i := 1) rfl)) (fun _ h9 => h9) rfl dX5_cellsBarred_57 ?_
            refine lv_iload_n hx hb dX5_cellsBarred_60 rfl (lv_at hl 1 rfl) ?_
            refine k_iald hx hb hK hP 1 0 rfl rfl (j := kj) hv_k hj_k dX5_cellsBarred_61 ?_
            refine k_top (y := (nI (le kj))) (zs_1 hc1) ?_
            refine k_ri (run_RS (As := [.int i, .long n.toInt64, .int (nI (le kj))]) (rest := []) ⟨hx, hb, hml, hown, hts⟩ (c_X5_isBeyond l D cI cJ cO i n (le kj) h60_kj) (va_cwS 3 hts gX5_cellsBarred_X5_isBeyond rfl rfl rfl (by decide +kernel) ⟨Nat.le_of_ble_eq_true rfl, Nat.le_of_ble_eq_true rfl⟩) hP hK [] rfl rfl hl.1 rfl (Nat.le_of_ble_eq_true rfl) dX5_cellsBarred_62 ⟨Nat.le_refl _, Nat.le_refl _⟩) (fun r_22 q_23 => ?_)
            obtain rfl := q_23
            refine lv_if_eq (tgt := 76) hx hb dX5_cellsBarred_65 (by decide) (fun c_24 => ?_) (fun c_24 => ?_)
            · have c_24 := Decidable.not_not.mp (b2_f c_24)
              refine lv_iconst (v := 0) hx hb dX5_cellsBarred_76 (by decide) ?_
              refine mi_ret (v := 0) hx hb hr hlk hP hD hS dX5_cellsBarred_77 ?_
              rw [show brF (hiX (fltF (hs kj) (ln kj) x) i n (le kj)) fa = fa from by rw [hX] <;> rfl]
              refine ⟨?_, rfl⟩
              rw [hX] <;> rfl
            · exact absurd (b2_t c_24) (fun z => z hsp)
          · exact absurd hln c_21
        · exact absurd hzg c_20
      · exact absurd hl1 c_19
  · have hfl : fltF (hs kj) (ln kj) x = 0 := by rw [fltF, if_neg hc1, if_pos hl1]
    have hf0 : fltF (hs kj) (ln kj) x = 0 := hfl
    have hzl : ¬ (zsF hs le) kj < 0 := fun z => hc1 ((zs_lt h60_kj).mp z)
    have hX : hiX (fltF (hs kj) (ln kj) x) i n (le kj) = 3 := by rw [hiX, if_pos hf0, if_neg hn0, if_neg hsp]
    have hzg : 0 ≤ (zsF hs le) kj := Int32.not_lt.mp hzl
    have hln : 0 ≤ lg_cmp n.toInt64 0 := n64_p hn0
    refine lv_aload_n hx hb dX5_cellsBarred_0 rfl (lv_at hl 0 rfl) ?_
    refine va_get (D := D) (ci := 5) (v := .ref (b 11)) (C := RX5) (T := TX5) (N := 30) hx hb hts hin5 hown hK.1 hP 0 rfl rfl 25 (by decide) (hts _ (List.mem_of_getElem? (i := 1) rfl)) (fun _ h9 => h9) rfl dX5_cellsBarred_1 ?_
    refine lv_iload_n hx hb dX5_cellsBarred_4 rfl (lv_at hl 1 rfl) ?_
    refine k_iald hx hb hK hP 1 0 rfl rfl (j := kj) hv_k hj_k dX5_cellsBarred_5 ?_
    refine lv_if_lt (tgt := 25) hx hb dX5_cellsBarred_6 (by decide) (fun c_25 => ?_) (fun c_25 => ?_)
    · exact absurd c_25 hzl
    · refine lv_aload_n hx hb dX5_cellsBarred_9 rfl (lv_at hl 0 rfl) ?_
      refine va_get (D := D) (ci := 5) (v := .ref (b 12)) (C := RX5) (T := TX5) (N := 30) hx hb hts hin5 hown hK.1 hP 0 rfl rfl 26 (by decide) (hts _ (List.mem_of_getElem? (i := 2) rfl)) (fun _ h9 => h9) rfl dX5_cellsBarred_10 ?_
      refine lv_iload_n hx hb dX5_cellsBarred_13 rfl (lv_at hl 1 rfl) ?_
      refine k_iald hx hb hK hP 2 0 rfl rfl (j := kj) hv_k hj_k dX5_cellsBarred_14 ?_
      refine lv_iload_n hx hb dX5_cellsBarred_15 rfl (lv_at hl 2 rfl) ?_
      refine lv_icmp_eq (tgt := 25) hx hb dX5_cellsBarred_16 (by decide) (fun c_26 => ?_) (fun c_26 => ?_)
      · refine lv_aload_n hx hb dX5_cellsBarred_25 rfl (lv_at hl 0 rfl) ?_
        refine va_get (D := D) (ci := 5) (v := .ref (b 11)) (C := RX5) (T := TX5) (N := 30) hx hb hts hin5 hown hK.1 hP 0 rfl rfl 25 (by decide) (hts _ (List.mem_of_getElem? (i := 1) rfl)) (fun _ h9 => h9) rfl dX5_cellsBarred_26 ?_
        refine lv_iload_n hx hb dX5_cellsBarred_29 rfl (lv_at hl 1 rfl) ?_
        refine k_iald hx hb hK hP 1 0 rfl rfl (j := kj) hv_k hj_k dX5_cellsBarred_30 ?_
        refine lv_if_ge (tgt := 40) hx hb dX5_cellsBarred_31 (by decide) (fun c_27 => ?_) (fun c_27 => ?_)
        · refine lv_lload hx hb dX5_cellsBarred_40 (lv_at hl 4 rfl) ?_
          refine lv_lconst (v := 0) hx hb dX5_cellsBarred_42 (by decide) ?_
          refine W.lcmp hx hb dX5_cellsBarred_43 ?_
          refine lv_if_ge (tgt := 53) hx hb dX5_cellsBarred_44 (by decide) (fun c_28 => ?_) (fun c_28 => ?_)
          · refine lv_iload_n hx hb dX5_cellsBarred_53 rfl (lv_at hl 3 rfl) ?_
            refine lv_lload hx hb dX5_cellsBarred_54 (lv_at hl 4 rfl) ?_
            refine lv_aload_n hx hb dX5_cellsBarred_56 rfl (lv_at hl 0 rfl) ?_
            refine va_get (D := D) (ci := 5) (v := .ref (b 11)) (C := RX5) (T := TX5) (N := 30) hx hb hts hin5 hown hK.1 hP 0 rfl rfl 25 (by decide) (hts _ (List.mem_of_getElem? (i := 1) rfl)) (fun _ h9 => h9) rfl dX5_cellsBarred_57 ?_
            refine lv_iload_n hx hb dX5_cellsBarred_60 rfl (lv_at hl 1 rfl) ?_
            refine k_iald hx hb hK hP 1 0 rfl rfl (j := kj) hv_k hj_k dX5_cellsBarred_61 ?_
            refine k_top (y := (nI (le kj))) (zs_1 hc1) ?_
            refine k_ri (run_RS (As := [.int i, .long n.toInt64, .int (nI (le kj))]) (rest := []) ⟨hx, hb, hml, hown, hts⟩ (c_X5_isBeyond l D cI cJ cO i n (le kj) h60_kj) (va_cwS 3 hts gX5_cellsBarred_X5_isBeyond rfl rfl rfl (by decide +kernel) ⟨Nat.le_of_ble_eq_true rfl, Nat.le_of_ble_eq_true rfl⟩) hP hK [] rfl rfl hl.1 rfl (Nat.le_of_ble_eq_true rfl) dX5_cellsBarred_62 ⟨Nat.le_refl _, Nat.le_refl _⟩) (fun r_29 q_30 => ?_)
            obtain rfl := q_30
            refine lv_if_eq (tgt := 76) hx hb dX5_cellsBarred_65 (by decide) (fun c_31 => ?_) (fun c_31 => ?_)
            · exact absurd hsp (b2_f c_31)
            · have c_31 := b2_t c_31
              refine lv_aload_n hx hb dX5_cellsBarred_68 rfl (lv_at hl 0 rfl) ?_
              refine lv_iconst (v := 3) hx hb dX5_cellsBarred_69 (by decide) ?_
              refine k_mi (wr := [(b 11, .inl (cI, 4, .inl (zsF hs le))), (b 12, .inl (cI, 4, .inl ln))]) [0] [1, 2] (run_MV (As := [.int 3]) (rest := []) ⟨hx, hb, hml, hown, hts⟩ (c_X5_failed l D cI cJ cO b fa h w pc br ra q1 q2 q3 q4 fw ea sn mo rc tr 3) (cwV 1 hts gX5_cellsBarred_X5_failed rfl rfl rfl (by decide +kernel) ⟨Nat.le_of_ble_eq_true rfl, Nat.le_of_ble_eq_true rfl⟩) hP hK hD [0] (by decide) rfl rfl rfl rfl rfl hl.1 rfl (Nat.le_of_ble_eq_true rfl) dX5_cellsBarred_70 ⟨Nat.le_refl _, Nat.le_refl _⟩) hP hD hS hA rfl rfl (by decide) (by decide) (fun r_32 w_34 H locs q_33 hP hD hS => ?_)
              obtain ⟨rfl, rfl⟩ := q_33
              have hP : va_P D vwCl [(b 0, .inr (5, [.int 3, .int (nI h), .int (nI w), .int pc, .int br, .ref (b 1), .ref (b 2), .int ra, .int q1, .int q2, .int q3, .int q4, .ref (b 3), .int fw, .int ea, .int sn, .ref (b 4), .ref (b 5), .ref (b 6), .int mo, .int (nI rc), .ref (b 7), .ref (b 8), .ref (b 9), .ref (b 10), .ref (b 11), .ref (b 12), .ref (b 13), .ref (b 14), .int tr])), (b 11, .inl (cI, 4, .inl (zsF hs le))), (b 12, .inl (cI, 4, .inl ln))] H := hP.sub [2, 0, 1] rfl
              have hD : va_D A [(b 0, .inr (5, [.int 3, .int (nI h), .int (nI w), .int pc, .int br, .ref (b 1), .ref (b 2), .int ra, .int q1, .int q2, .int q3, .int q4, .ref (b 3), .int fw, .int ea, .int sn, .ref (b 4), .ref (b 5), .ref (b 6), .int mo, .int (nI rc), .ref (b 7), .ref (b 8), .ref (b 9), .ref (b 10), .ref (b 11), .ref (b 12), .ref (b 13), .ref (b 14), .int tr])), (b 11, .inl (cI, 4, .inl (zsF hs le))), (b 12, .inl (cI, 4, .inl ln))] := hD.sub [2, 0, 1] (by decide) rfl
              refine lv_goto (tgt := 77) hx hb dX5_cellsBarred_73 (by decide) ?_
              refine mi_ret (v := (-10 - 3)) hx hb hr hlk hP hD hS dX5_cellsBarred_77 ?_
              rw [show brF (hiX (fltF (hs kj) (ln kj) x) i n (le kj)) fa = 3 from by rw [hX] <;> rfl]
              refine ⟨?_, rfl⟩
              rw [hX] <;> rfl
          · exact absurd hln c_28
        · exact absurd hzg c_27
      · exact absurd hl1 c_26
