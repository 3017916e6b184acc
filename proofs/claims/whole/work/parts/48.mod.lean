theorem iwX5_readsPlace_X5 : ∀ x ∈ wsX50, x ∈ wsX5_readsPlace := by decide +kernel
set_option maxRecDepth 100000 in
set_option maxHeartbeats 4000000 in
/-- X5_readsPlace -/
theorem c_X5_readsPlace (l : Launch) (D : va_G) (cI cJ cO : ClassId) (b : Nat → Nat) (fa : Int32) (h : Nat) (w : Nat) (pc : Int32) (br : Int32) (q1 : Int32) (q3 : Int32) (q4 : Int32) (fw : Int32) (ea : Int32) (sn : Int32) (mo : Int32) (rc : Nat) (tr : Int32) (sh : Nat → Int32) (tx : Nat → Int32) (f : Nat) (ii : Nat) (m : Nat) (rk : Nat → Int32) (p : Nat) (wq : Nat) (c : Nat) (hfm : f + m ≤ 240) (hm60 : m ≤ 60) (htx : ∀ q, q < m → sh (f + q) = tx (ii + q)) (hp58 : p ≤ 58) (hc16 : c < 16) (hwq : 0 < wq) (hwq2 : wq ≤ 16) : MG l yX5_readsPlace wsX5_readsPlace 1 22 0 0 D [(cI, .int), (cJ, .long), (cO, .object "ShornHill$Sheet")] [.ref (b 0), .int (nI f), .int (nI m), .int (nI c)] [(b 0, .inr (5, [.int fa, .int (nI h), .int (nI w), .int pc, .int br, .ref (b 1), .ref (b 2), .int (nI p), .int q1, .int (nI wq), .int q3, .int q4, .ref (b 3), .int fw, .int ea, .int sn, .ref (b 4), .ref (b 5), .ref (b 6), .int mo, .int (nI rc), .ref (b 7), .ref (b 8), .ref (b 9), .ref (b 10), .ref (b 11), .ref (b 12), .ref (b 13), .ref (b 14), .int tr])), (b 3, .inl (cI, 16, .inl rk)), (b 13, .inl (cI, 240, .inl sh))] (QI D (fun (r : Int32) (w1 : va_W) => r = (b2 (rpP tx ii m p wq c)) ∧ w1 = [(b 0, .inr (5, [.int fa, .int (nI h), .int (nI w), .int pc, .int br, .ref (b 1), .ref (b 2), .int (nI (rpN tx ii m p wq c)), .int q1, .int (nI wq), .int q3, .int q4, .ref (b 3), .int fw, .int ea, .int sn, .ref (b 4), .ref (b 5), .ref (b 6), .int mo, .int (nI rc), .ref (b 7), .ref (b 8), .ref (b 9), .ref (b 10), .ref (b 11), .ref (b 12), .ref (b 13), .ref (b 14), .int tr])), (b 3, .inl (cI, 16, .inl (rpK tx ii m p wq c rk))), (b 13, .inl (cI, 240, .inl sh))])) := by
  refine MG.of (cc := cX5_readsPlace) (maxL := 5) (ret := (some .boolean)) (by decide) rfl (Nat.le_of_ble_eq_true rfl) ?_
  intro P_ E_ S_ M_ B_ T_ K_ hx hb hml hr hts hown hlk hnm A hA hP hK hD hS ls hl
  have hl : lv_has ls 5 [(0, .ref (b 0)), (1, .int (nI f)), (2, .int (nI m)), (3, .int (nI c))] := hl
  have hin5 : ∀ x ∈ u_ws RX5 TX5 30, x ∈ wsX5_readsPlace := iwX5_readsPlace_X5
  have hcw : c % wq < wq := Nat.mod_lt _ hwq
  refine lv_iload_n hx hb dX5_readsPlace_0 rfl (lv_at hl 3 rfl) ?_
  refine lv_aload_n hx hb dX5_readsPlace_1 rfl (lv_at hl 0 rfl) ?_
  refine va_get (D := D) (ci := 5) (v := .int (nI wq)) (C := RX5) (T := TX5) (N := 30) hx hb hts hin5 hown hK.1 hP 0 rfl rfl 9 (by decide) (hts _ (List.mem_of_getElem? (i := 1) rfl)) (fun _ h9 => h9) rfl dX5_readsPlace_2 ?_
  refine lv_irem hx hb dX5_readsPlace_5 (nI_nez (by omega) (by omega)) ?_
  refine k_top (y := (nI (c % wq))) (pk_rem (by omega) (by omega) (by omega)) ?_
  refine lv_if_ne (tgt := 32) hx hb dX5_readsPlace_6 (by decide) (fun c_1 => ?_) (fun c_1 => ?_)
  · have c_1 : ¬ c % wq = 0 := fun z => c_1 ((nI_eq (a := c % wq) (b := 0) (by omega) (by omega)).mpr z)
    refine lv_aload_n hx hb dX5_readsPlace_32 rfl (lv_at hl 0 rfl) ?_
    refine lv_iload_n hx hb dX5_readsPlace_33 rfl (lv_at hl 1 rfl) ?_
    refine lv_iload_n hx hb dX5_readsPlace_34 rfl (lv_at hl 2 rfl) ?_
    refine k_ri (run_RV (As := [.int (nI f), .int (nI m)]) (rest := []) ⟨hx, hb, hml, hown, hts⟩ (c_X5_codeAt l D cI cJ cO b fa h w pc br q1 (nI wq) q3 q4 fw ea sn mo rc tr sh tx f ii m p hfm hm60 htx (by omega)) (cwV 2 hts gX5_readsPlace_X5_codeAt rfl rfl rfl (by decide +kernel) ⟨Nat.le_of_ble_eq_true rfl, Nat.le_of_ble_eq_true rfl⟩) hP hK [0, 2] rfl rfl rfl rfl rfl hl.1 rfl (Nat.le_of_ble_eq_true rfl) dX5_readsPlace_35 ⟨Nat.le_refl _, Nat.le_refl _⟩) (fun r_2 q_3 => ?_)
    obtain rfl := q_3
    refine lv_istore (lv' := [(4, .int (cdF tx ii m p)), (0, .ref (b 0)), (1, .int (nI f)), (2, .int (nI m)), (3, .int (nI c))]) hx hb dX5_readsPlace_38 hl (by decide) rfl (fun ls hl => ?_)
    refine lv_iload hx hb dX5_readsPlace_40 (lv_at hl 0 rfl) ?_
    refine lv_bipush (v := 103) hx hb dX5_readsPlace_42 (by decide) ?_
    refine lv_icmp_eq (tgt := 70) hx hb dX5_readsPlace_44 (by decide) (fun c_4 => ?_) (fun c_4 => ?_)
    · refine lv_aload_n hx hb dX5_readsPlace_70 rfl (lv_at hl 1 rfl) ?_
      refine lv_dup hx hb dX5_readsPlace_71 rfl ?_
      refine va_get (D := D) (ci := 5) (v := .int (nI p)) (C := RX5) (T := TX5) (N := 30) hx hb hts hin5 hown hK.1 hP 0 rfl rfl 7 (by decide) (hts _ (List.mem_of_getElem? (i := 2) rfl)) (fun _ h9 => h9) rfl dX5_readsPlace_72 ?_
      refine lv_iconst (v := 1) hx hb dX5_readsPlace_75 (by decide) ?_
      refine lv_iadd hx hb dX5_readsPlace_76 ?_
      refine k_top (y := (nI (p + 1))) (nI_add _ 1) ?_
      refine va_put (D := D) (ci := 5) (v := .int (nI (p + 1))) (ty := .int) (C := RX5) (T := TX5) (N := 30) hx hb hts hin5 tyX5 tyX5_ok nmX5 hown hK.1 hP hD hS 0 rfl rfl 7 (by decide) (hts _ (List.mem_of_getElem? (i := 2) rfl)) (fun _ h9 => h9) rfl (by decide +kernel) rfl rfl (Nat.le_of_ble_eq_true rfl) dX5_readsPlace_77 (fun H locs hP hD hS => ?_)
      have hP : va_P D vwCl [(b 0, .inr (5, [.int fa, .int (nI h), .int (nI w), .int pc, .int br, .ref (b 1), .ref (b 2), .int (nI (p + 1)), .int q1, .int (nI wq), .int q3, .int q4, .ref (b 3), .int fw, .int ea, .int sn, .ref (b 4), .ref (b 5), .ref (b 6), .int mo, .int (nI rc), .ref (b 7), .ref (b 8), .ref (b 9), .ref (b 10), .ref (b 11), .ref (b 12), .ref (b 13), .ref (b 14), .int tr])), (b 3, .inl (cI, 16, .inl rk)), (b 13, .inl (cI, 240, .inl sh))] H := hP
      have hD : va_D A [(b 0, .inr (5, [.int fa, .int (nI h), .int (nI w), .int pc, .int br, .ref (b 1), .ref (b 2), .int (nI (p + 1)), .int q1, .int (nI wq), .int q3, .int q4, .ref (b 3), .int fw, .int ea, .int sn, .ref (b 4), .ref (b 5), .ref (b 6), .int mo, .int (nI rc), .ref (b 7), .ref (b 8), .ref (b 9), .ref (b 10), .ref (b 11), .ref (b 12), .ref (b 13), .ref (b 14), .int tr])), (b 3, .inl (cI, 16, .inl rk)), (b 13, .inl (cI, 240, .inl sh))] := hD
      refine lv_aload_n hx hb dX5_readsPlace_80 rfl (lv_at hl 1 rfl) ?_
      refine va_get (D := D) (ci := 5) (v := .ref (b 3)) (C := RX5) (T := TX5) (N := 30) hx hb hts hin5 hown hK.1 hP 0 rfl rfl 12 (by decide) (hts _ (List.mem_of_getElem? (i := 3) rfl)) (fun _ h9 => h9) rfl dX5_readsPlace_81 ?_
      refine lv_iload_n hx hb dX5_readsPlace_84 rfl (lv_at hl 4 rfl) ?_
      refine lv_iload hx hb dX5_readsPlace_85 (lv_at hl 0 rfl) ?_
      refine lv_bipush (v := 103) hx hb dX5_readsPlace_87 (by decide) ?_
      refine lv_icmp_ne (tgt := 96) hx hb dX5_readsPlace_89 (by decide) (fun c_5 => ?_) (fun c_5 => ?_)
      · exact absurd c_4 c_5
      · refine lv_iconst (v := 0) hx hb dX5_readsPlace_92 (by decide) ?_
        refine lv_goto (tgt := 119) hx hb dX5_readsPlace_93 (by decide) ?_
        refine k_iast hx hb hK hP hD hS 1 0 rfl rfl (j := c) (vp_in_nI (show c < 16 by omega) (by decide)) (nI_clamp (by omega)) dX5_readsPlace_119 (fun H locs hP hD hS => ?_)
        have hP : va_P D vwCl [(b 0, .inr (5, [.int fa, .int (nI h), .int (nI w), .int pc, .int br, .ref (b 1), .ref (b 2), .int (nI (p + 1)), .int q1, .int (nI wq), .int q3, .int q4, .ref (b 3), .int fw, .int ea, .int sn, .ref (b 4), .ref (b 5), .ref (b 6), .int mo, .int (nI rc), .ref (b 7), .ref (b 8), .ref (b 9), .ref (b 10), .ref (b 11), .ref (b 12), .ref (b 13), .ref (b 14), .int tr])), (b 3, .inl (cI, 16, .inl (upd rk c 0))), (b 13, .inl (cI, 240, .inl sh))] H := hP
        have hD : va_D A [(b 0, .inr (5, [.int fa, .int (nI h), .int (nI w), .int pc, .int br, .ref (b 1), .ref (b 2), .int (nI (p + 1)), .int q1, .int (nI wq), .int q3, .int q4, .ref (b 3), .int fw, .int ea, .int sn, .ref (b 4), .ref (b 5), .ref (b 6), .int mo, .int (nI rc), .ref (b 7), .ref (b 8), .ref (b 9), .ref (b 10), .ref (b 11), .ref (b 12), .ref (b 13), .ref (b 14), .int tr])), (b 3, .inl (cI, 16, .inl (upd rk c 0))), (b 13, .inl (cI, 240, .inl sh))] := hD
        refine lv_iconst (v := 1) hx hb dX5_readsPlace_120 (by decide) ?_
        refine mz_ret (v := 1) hx hb hr hlk hP hD hS dX5_readsPlace_121 (by decide) ?_
        have hB : rpB tx ii m p wq c = p := by rw [rpB, if_neg c_1]
        have hkf : kindF (cdF tx ii m p) = 0 := by rw [c_5]; rfl
        have hP9 : rpP tx ii m p wq c := ⟨fun z => absurd z c_1, by rw [hB, hkf]; decide⟩
        rw [show rpN tx ii m p wq c = p + 1 from by rw [rpN, if_pos hP9, hB], show rpK tx ii m p wq c rk = upd rk c 0 from by rw [rpK, if_pos hP9, hB, hkf]]
        exact ⟨b2_1 hP9, rfl⟩
    · refine lv_iload hx hb dX5_readsPlace_47 (lv_at hl 0 rfl) ?_
      refine lv_bipush (v := 115) hx hb dX5_readsPlace_49 (by decide) ?_
      refine lv_icmp_eq (tgt := 70) hx hb dX5_readsPlace_51 (by decide) (fun c_6 => ?_) (fun c_6 => ?_)
      · refine lv_aload_n hx hb dX5_readsPlace_70 rfl (lv_at hl 1 rfl) ?_
        refine lv_dup hx hb dX5_readsPlace_71 rfl ?_
        refine va_get (D := D) (ci := 5) (v := .int (nI p)) (C := RX5) (T := TX5) (N := 30) hx hb hts hin5 hown hK.1 hP 0 rfl rfl 7 (by decide) (hts _ (List.mem_of_getElem? (i := 2) rfl)) (fun _ h9 => h9) rfl dX5_readsPlace_72 ?_
        refine lv_iconst (v := 1) hx hb dX5_readsPlace_75 (by decide) ?_
        refine lv_iadd hx hb dX5_readsPlace_76 ?_
        refine k_top (y := (nI (p + 1))) (nI_add _ 1) ?_
        refine va_put (D := D) (ci := 5) (v := .int (nI (p + 1))) (ty := .int) (C := RX5) (T := TX5) (N := 30) hx hb hts hin5 tyX5 tyX5_ok nmX5 hown hK.1 hP hD hS 0 rfl rfl 7 (by decide) (hts _ (List.mem_of_getElem? (i := 2) rfl)) (fun _ h9 => h9) rfl (by decide +kernel) rfl rfl (Nat.le_of_ble_eq_true rfl) dX5_readsPlace_77 (fun H locs hP hD hS => ?_)
        have hP : va_P D vwCl [(b 0, .inr (5, [.int fa, .int (nI h), .int (nI w), .int pc, .int br, .ref (b 1), .ref (b 2), .int (nI (p + 1)), .int q1, .int (nI wq), .int q3, .int q4, .ref (b 3), .int fw, .int ea, .int sn, .ref (b 4), .ref (b 5), .ref (b 6), .int mo, .int (nI rc), .ref (b 7), .ref (b 8), .ref (b 9), .ref (b 10), .ref (b 11), .ref (b 12), .ref (b 13), .ref (b 14), .int tr])), (b 3, .inl (cI, 16, .inl rk)), (b 13, .inl (cI, 240, .inl sh))] H := hP
        have hD : va_D A [(b 0, .inr (5, [.int fa, .int (nI h), .int (nI w), .int pc, .int br, .ref (b 1), .ref (b 2), .int (nI (p + 1)), .int q1, .int (nI wq), .int q3, .int q4, .ref (b 3), .int fw, .int ea, .int sn, .ref (b 4), .ref (b 5), .ref (b 6), .int mo, .int (nI rc), .ref (b 7), .ref (b 8), .ref (b 9), .ref (b 10), .ref (b 11), .ref (b 12), .ref (b 13), .ref (b 14), .int tr])), (b 3, .inl (cI, 16, .inl rk)), (b 13, .inl (cI, 240, .inl sh))] := hD
        refine lv_aload_n hx hb dX5_readsPlace_80 rfl (lv_at hl 1 rfl) ?_
        refine va_get (D := D) (ci := 5) (v := .ref (b 3)) (C := RX5) (T := TX5) (N := 30) hx hb hts hin5 hown hK.1 hP 0 rfl rfl 12 (by decide) (hts _ (List.mem_of_getElem? (i := 3) rfl)) (fun _ h9 => h9) rfl dX5_readsPlace_81 ?_
        refine lv_iload_n hx hb dX5_readsPlace_84 rfl (lv_at hl 4 rfl) ?_
        refine lv_iload hx hb dX5_readsPlace_85 (lv_at hl 0 rfl) ?_
        refine lv_bipush (v := 103) hx hb dX5_readsPlace_87 (by decide) ?_
        refine lv_icmp_ne (tgt := 96) hx hb dX5_readsPlace_89 (by decide) (fun c_7 => ?_) (fun c_7 => ?_)
        · refine lv_iload hx hb dX5_readsPlace_96 (lv_at hl 0 rfl) ?_
          refine lv_bipush (v := 115) hx hb dX5_readsPlace_98 (by decide) ?_
          refine lv_icmp_ne (tgt := 107) hx hb dX5_readsPlace_100 (by decide) (fun c_8 => ?_) (fun c_8 => ?_)
          · exact absurd c_6 c_8
          · refine lv_iconst (v := 1) hx hb dX5_readsPlace_103 (by decide) ?_
            refine lv_goto (tgt := 119) hx hb dX5_readsPlace_104 (by decide) ?_
            refine k_iast hx hb hK hP hD hS 1 0 rfl rfl (j := c) (vp_in_nI (show c < 16 by omega) (by decide)) (nI_clamp (by omega)) dX5_readsPlace_119 (fun H locs hP hD hS => ?_)
            have hP : va_P D vwCl [(b 0, .inr (5, [.int fa, .int (nI h), .int (nI w), .int pc, .int br, .ref (b 1), .ref (b 2), .int (nI (p + 1)), .int q1, .int (nI wq), .int q3, .int q4, .ref (b 3), .int fw, .int ea, .int sn, .ref (b 4), .ref (b 5), .ref (b 6), .int mo, .int (nI rc), .ref (b 7), .ref (b 8), .ref (b 9), .ref (b 10), .ref (b 11), .ref (b 12), .ref (b 13), .ref (b 14), .int tr])), (b 3, .inl (cI, 16, .inl (upd rk c 1))), (b 13, .inl (cI, 240, .inl sh))] H := hP
            have hD : va_D A [(b 0, .inr (5, [.int fa, .int (nI h), .int (nI w), .int pc, .int br, .ref (b 1), .ref (b 2), .int (nI (p + 1)), .int q1, .int (nI wq), .int q3, .int q4, .ref (b 3), .int fw, .int ea, .int sn, .ref (b 4), .ref (b 5), .ref (b 6), .int mo, .int (nI rc), .ref (b 7), .ref (b 8), .ref (b 9), .ref (b 10), .ref (b 11), .ref (b 12), .ref (b 13), .ref (b 14), .int tr])), (b 3, .inl (cI, 16, .inl (upd rk c 1))), (b 13, .inl (cI, 240, .inl sh))] := hD
            refine lv_iconst (v := 1) hx hb dX5_readsPlace_120 (by decide) ?_
            refine mz_ret (v := 1) hx hb hr hlk hP hD hS dX5_readsPlace_121 (by decide) ?_
            have hB : rpB tx ii m p wq c = p := by rw [rpB, if_neg c_1]
            have hkf : kindF (cdF tx ii m p) = 1 := by rw [c_8]; rfl
            have hP9 : rpP tx ii m p wq c := ⟨fun z => absurd z c_1, by rw [hB, hkf]; decide⟩
            rw [show rpN tx ii m p wq c = p + 1 from by rw [rpN, if_pos hP9, hB], show rpK tx ii m p wq c rk = upd rk c 1 from by rw [rpK, if_pos hP9, hB, hkf]]
            exact ⟨b2_1 hP9, rfl⟩
        · exact absurd c_7 c_4
      · refine lv_iload hx hb dX5_readsPlace_54 (lv_at hl 0 rfl) ?_
        refine lv_bipush (v := 111) hx hb dX5_readsPlace_56 (by decide) ?_
        refine lv_icmp_eq (tgt := 70) hx hb dX5_readsPlace_58 (by decide) (fun c_9 => ?_) (fun c_9 => ?_)
        · refine lv_aload_n hx hb dX5_readsPlace_70 rfl (lv_at hl 1 rfl) ?_
          refine lv_dup hx hb dX5_readsPlace_71 rfl ?_
          refine va_get (D := D) (ci := 5) (v := .int (nI p)) (C := RX5) (T := TX5) (N := 30) hx hb hts hin5 hown hK.1 hP 0 rfl rfl 7 (by decide) (hts _ (List.mem_of_getElem? (i := 2) rfl)) (fun _ h9 => h9) rfl dX5_readsPlace_72 ?_
          refine lv_iconst (v := 1) hx hb dX5_readsPlace_75 (by decide) ?_
          refine lv_iadd hx hb dX5_readsPlace_76 ?_
          refine k_top (y := (nI (p + 1))) (nI_add _ 1) ?_
          refine va_put (D := D) (ci := 5) (v := .int (nI (p + 1))) (ty := .int) (C := RX5) (T := TX5) (N := 30) hx hb hts hin5 tyX5 tyX5_ok nmX5 hown hK.1 hP hD hS 0 rfl rfl 7 (by decide) (hts _ (List.mem_of_getElem? (i := 2) rfl)) (fun _ h9 => h9) rfl (by decide +kernel) rfl rfl (Nat.le_of_ble_eq_true rfl) dX5_readsPlace_77 (fun H locs hP hD hS => ?_)
          have hP : va_P D vwCl [(b 0, .inr (5, [.int fa, .int (nI h), .int (nI w), .int pc, .int br, .ref (b 1), .ref (b 2), .int (nI (p + 1)), .int q1, .int (nI wq), .int q3, .int q4, .ref (b 3), .int fw, .int ea, .int sn, .ref (b 4), .ref (b 5), .ref (b 6), .int mo, .int (nI rc), .ref (b 7), .ref (b 8), .ref (b 9), .ref (b 10), .ref (b 11), .ref (b 12), .ref (b 13), .ref (b 14), .int tr])), (b 3, .inl (cI, 16, .inl rk)), (b 13, .inl (cI, 240, .inl sh))] H := hP
          have hD : va_D A [(b 0, .inr (5, [.int fa, .int (nI h), .int (nI w), .int pc, .int br, .ref (b 1), .ref (b 2), .int (nI (p + 1)), .int q1, .int (nI wq), .int q3, .int q4, .ref (b 3), .int fw, .int ea, .int sn, .ref (b 4), .ref (b 5), .ref (b 6), .int mo, .int (nI rc), .ref (b 7), .ref (b 8), .ref (b 9), .ref (b 10), .ref (b 11), .ref (b 12), .ref (b 13), .ref (b 14), .int tr])), (b 3, .inl (cI, 16, .inl rk)), (b 13, .inl (cI, 240, .inl sh))] := hD
          refine lv_aload_n hx hb dX5_readsPlace_80 rfl (lv_at hl 1 rfl) ?_
          refine va_get (D := D) (ci := 5) (v := .ref (b 3)) (C := RX5) (T := TX5) (N := 30) hx hb hts hin5 hown hK.1 hP 0 rfl rfl 12 (by decide) (hts _ (List.mem_of_getElem? (i := 3) rfl)) (fun _ h9 => h9) rfl dX5_readsPlace_81 ?_
          refine lv_iload_n hx hb dX5_readsPlace_84 rfl (lv_at hl 4 rfl) ?_
          refine lv_iload hx hb dX5_readsPlace_85 (lv_at hl 0 rfl) ?_
          refine lv_bipush (v := 103) hx hb dX5_readsPlace_87 (by decide) ?_
          refine lv_icmp_ne (tgt := 96) hx hb dX5_readsPlace_89 (by decide) (fun c_10 => ?_) (fun c_10 => ?_)
          · refine lv_iload hx hb dX5_readsPlace_96 (lv_at hl 0 rfl) ?_
            refine lv_bipush (v := 115) hx hb dX5_readsPlace_98 (by decide) ?_
            refine lv_icmp_ne (tgt := 107) hx hb dX5_readsPlace_100 (by decide) (fun c_11 => ?_) (fun c_11 => ?_)
            · refine lv_iload hx hb dX5_readsPlace_107 (lv_at hl 0 rfl) ?_
              refine lv_bipush (v := 111) hx hb dX5_readsPlace_109 (by decide) ?_
              refine lv_icmp_ne (tgt := 118) hx hb dX5_readsPlace_111 (by decide) (fun c_12 => ?_) (fun c_12 => ?_)
              · exact absurd c_9 c_12
              · refine lv_iconst (v := 2) hx hb dX5_readsPlace_114 (by decide) ?_
                refine lv_goto (tgt := 119) hx hb dX5_readsPlace_115 (by decide) ?_
                refine k_iast hx hb hK hP hD hS 1 0 rfl rfl (j := c) (vp_in_nI (show c < 16 by omega) (by decide)) (nI_clamp (by omega)) dX5_readsPlace_119 (fun H locs hP hD hS => ?_)
                have hP : va_P D vwCl [(b 0, .inr (5, [.int fa, .int (nI h), .int (nI w), .int pc, .int br, .ref (b 1), .ref (b 2), .int (nI (p + 1)), .int q1, .int (nI wq), .int q3, .int q4, .ref (b 3), .int fw, .int ea, .int sn, .ref (b 4), .ref (b 5), .ref (b 6), .int mo, .int (nI rc), .ref (b 7), .ref (b 8), .ref (b 9), .ref (b 10), .ref (b 11), .ref (b 12), .ref (b 13), .ref (b 14), .int tr])), (b 3, .inl (cI, 16, .inl (upd rk c 2))), (b 13, .inl (cI, 240, .inl sh))] H := hP
                have hD : va_D A [(b 0, .inr (5, [.int fa, .int (nI h), .int (nI w), .int pc, .int br, .ref (b 1), .ref (b 2), .int (nI (p + 1)), .int q1, .int (nI wq), .int q3, .int q4, .ref (b 3), .int fw, .int ea, .int sn, .ref (b 4), .ref (b 5), .ref (b 6), .int mo, .int (nI rc), .ref (b 7), .ref (b 8), .ref (b 9), .ref (b 10), .ref (b 11), .ref (b 12), .ref (b 13), .ref (b 14), .int tr])), (b 3, .inl (cI, 16, .inl (upd rk c 2))), (b 13, .inl (cI, 240, .inl sh))] := hD
                refine lv_iconst (v := 1) hx hb dX5_readsPlace_120 (by decide) ?_
                refine mz_ret (v := 1) hx hb hr hlk hP hD hS dX5_readsPlace_121 (by decide) ?_
                have hB : rpB tx ii m p wq c = p := by rw [rpB, if_neg c_1]
                have hkf : kindF (cdF tx ii m p) = 2 := by rw [c_12]; rfl
                have hP9 : rpP tx ii m p wq c := ⟨fun z => absurd z c_1, by rw [hB, hkf]; decide⟩
                rw [show rpN tx ii m p wq c = p + 1 from by rw [rpN, if_pos hP9, hB], show rpK tx ii m p wq c rk = upd rk c 2 from by rw [rpK, if_pos hP9, hB, hkf]]
                exact ⟨b2_1 hP9, rfl⟩
            · exact absurd c_11 c_6
          · exact absurd c_10 c_4
        · refine lv_iload hx hb dX5_readsPlace_61 (lv_at hl 0 rfl) ?_
          refine lv_bipush (v := 35) hx hb dX5_readsPlace_63 (by decide) ?_
          refine lv_icmp_eq (tgt := 70) hx hb dX5_readsPlace_65 (by decide) (fun c_13 => ?_) (fun c_13 => ?_)
          · refine lv_aload_n hx hb dX5_readsPlace_70 rfl (lv_at hl 1 rfl) ?_
            refine lv_dup hx hb dX5_readsPlace_71 rfl ?_
            refine va_get (D := D) (ci := 5) (v := .int (nI p)) (C := RX5) (T := TX5) (N := 30) hx hb hts hin5 hown hK.1 hP 0 rfl rfl 7 (by decide) (hts _ (List.mem_of_getElem? (i := 2) rfl)) (fun _ h9 => h9) rfl dX5_readsPlace_72 ?_
            refine lv_iconst (v := 1) hx hb dX5_readsPlace_75 (by decide) ?_
            refine lv_iadd hx hb dX5_readsPlace_76 ?_
            refine k_top (y := (nI (p + 1))) (nI_add _ 1) ?_
            refine va_put (D := D) (ci := 5) (v := .int (nI (p + 1))) (ty := .int) (C := RX5) (T := TX5) (N := 30) hx hb hts hin5 tyX5 tyX5_ok nmX5 hown hK.1 hP hD hS 0 rfl rfl 7 (by decide) (hts _ (List.mem_of_getElem? (i := 2) rfl)) (fun _ h9 => h9) rfl (by decide +kernel) rfl rfl (Nat.le_of_ble_eq_true rfl) dX5_readsPlace_77 (fun H locs hP hD hS => ?_)
            have hP : va_P D vwCl [(b 0, .inr (5, [.int fa, .int (nI h), .int (nI w), .int pc, .int br, .ref (b 1), .ref (b 2), .int (nI (p + 1)), .int q1, .int (nI wq), .int q3, .int q4, .ref (b 3), .int fw, .int ea, .int sn, .ref (b 4), .ref (b 5), .ref (b 6), .int mo, .int (nI rc), .ref (b 7), .ref (b 8), .ref (b 9), .ref (b 10), .ref (b 11), .ref (b 12), .ref (b 13), .ref (b 14), .int tr])), (b 3, .inl (cI, 16, .inl rk)), (b 13, .inl (cI, 240, .inl sh))] H := hP
            have hD : va_D A [(b 0, .inr (5, [.int fa, .int (nI h), .int (nI w), .int pc, .int br, .ref (b 1), .ref (b 2), .int (nI (p + 1)), .int q1, .int (nI wq), .int q3, .int q4, .ref (b 3), .int fw, .int ea, .int sn, .ref (b 4), .ref (b 5), .ref (b 6), .int mo, .int (nI rc), .ref (b 7), .ref (b 8), .ref (b 9), .ref (b 10), .ref (b 11), .ref (b 12), .ref (b 13), .ref (b 14), .int tr])), (b 3, .inl (cI, 16, .inl rk)), (b 13, .inl (cI, 240, .inl sh))] := hD
            refine lv_aload_n hx hb dX5_readsPlace_80 rfl (lv_at hl 1 rfl) ?_
            refine va_get (D := D) (ci := 5) (v := .ref (b 3)) (C := RX5) (T := TX5) (N := 30) hx hb hts hin5 hown hK.1 hP 0 rfl rfl 12 (by decide) (hts _ (List.mem_of_getElem? (i := 3) rfl)) (fun _ h9 => h9) rfl dX5_readsPlace_81 ?_
            refine lv_iload_n hx hb dX5_readsPlace_84 rfl (lv_at hl 4 rfl) ?_
            refine lv_iload hx hb dX5_readsPlace_85 (lv_at hl 0 rfl) ?_
            refine lv_bipush (v := 103) hx hb dX5_readsPlace_87 (by decide) ?_
            refine lv_icmp_ne (tgt := 96) hx hb dX5_readsPlace_89 (by decide) (fun c_14 => ?_) (fun c_14 => ?_)
            · refine lv_iload hx hb dX5_readsPlace_96 (lv_at hl 0 rfl) ?_
              refine lv_bipush (v := 115) hx hb dX5_readsPlace_98 (by decide) ?_
              refine lv_icmp_ne (tgt := 107) hx hb dX5_readsPlace_100 (by decide) (fun c_15 => ?_) (fun c_15 => ?_)
              · refine lv_iload hx hb dX5_readsPlace_107 (lv_at hl 0 rfl) ?_
                refine lv_bipush (v := 111) hx hb dX5_readsPlace_109 (by decide) ?_
                refine lv_icmp_ne (tgt := 118) hx hb dX5_readsPlace_111 (by decide) (fun c_16 => ?_) (fun c_16 => ?_)
                · refine lv_iconst (v := 3) hx hb dX5_readsPlace_118 (by decide) ?_
                  refine k_iast hx hb hK hP hD hS 1 0 rfl rfl (j := c) (vp_in_nI (show c < 16 by omega) (by decide)) (nI_clamp (by omega)) dX5_readsPlace_119 (fun H locs hP hD hS => ?_)
                  have hP : va_P D vwCl [(b 0, .inr (5, [.int fa, .int (nI h), .int (nI w), .int pc, .int br, .ref (b 1), .ref (b 2), .int (nI (p + 1)), .int q1, .int (nI wq), .int q3, .int q4, .ref (b 3), .int fw, .int ea, .int sn, .ref (b 4), .ref (b 5), .ref (b 6), .int mo, .int (nI rc), .ref (b 7), .ref (b 8), .ref (b 9), .ref (b 10), .ref (b 11), .ref (b 12), .ref (b 13), .ref (b 14), .int tr])), (b 3, .inl (cI, 16, .inl (upd rk c 3))), (b 13, .inl (cI, 240, .inl sh))] H := hP
                  have hD : va_D A [(b 0, .inr (5, [.int fa, .int (nI h), .int (nI w), .int pc, .int br, .ref (b 1), .ref (b 2), .int (nI (p + 1)), .int q1, .int (nI wq), .int q3, .int q4, .ref (b 3), .int fw, .int ea, .int sn, .ref (b 4), .ref (b 5), .ref (b 6), .int mo, .int (nI rc), .ref (b 7), .ref (b 8), .ref (b 9), .ref (b 10), .ref (b 11), .ref (b 12), .ref (b 13), .ref (b 14), .int tr])), (b 3, .inl (cI, 16, .inl (upd rk c 3))), (b 13, .inl (cI, 240, .inl sh))] := hD
                  refine lv_iconst (v := 1) hx hb dX5_readsPlace_120 (by decide) ?_
                  refine mz_ret (v := 1) hx hb hr hlk hP hD hS dX5_readsPlace_121 (by decide) ?_
                  have hB : rpB tx ii m p wq c = p := by rw [rpB, if_neg c_1]
                  have hkf : kindF (cdF tx ii m p) = 3 := by rw [c_13]; rfl
                  have hP9 : rpP tx ii m p wq c := ⟨fun z => absurd z c_1, by rw [hB, hkf]; decide⟩
                  rw [show rpN tx ii m p wq c = p + 1 from by rw [rpN, if_pos hP9, hB], show rpK tx ii m p wq c rk = upd rk c 3 from by rw [rpK, if_pos hP9, hB, hkf]]
                  exact ⟨b2_1 hP9, rfl⟩
                · exact absurd c_16 c_9
              · exact absurd c_15 c_6
            · exact absurd c_14 c_4
          · refine lv_iconst (v := 0) hx hb dX5_readsPlace_68 (by decide) ?_
            refine mz_ret (v := 0) hx hb hr hlk hP hD hS dX5_readsPlace_69 (by decide) ?_
            have hB : rpB tx ii m p wq c = p := by rw [rpB, if_neg c_1]
            have hkf : kindF (cdF tx ii m p) = -9 := kf_no c_4 c_6 c_9 c_13
            have hP9 : ¬ rpP tx ii m p wq c := fun z => z.2 (by rw [hB, hkf])
            rw [show rpN tx ii m p wq c = p from by rw [rpN, if_neg hP9, hB], show rpK tx ii m p wq c rk = rk from by rw [rpK, if_neg hP9]]
            exact ⟨b2_0 hP9, rfl⟩
  · have c_1 : c % wq = 0 := (nI_eq (a := c % wq) (b := 0) (by omega) (by omega)).mp c_1
    refine lv_aload_n hx hb dX5_readsPlace_9 rfl (lv_at hl 0 rfl) ?_
    refine lv_iload_n hx hb dX5_readsPlace_10 rfl (lv_at hl 1 rfl) ?_
    refine lv_iload_n hx hb dX5_readsPlace_11 rfl (lv_at hl 2 rfl) ?_
    refine k_ri (run_RV (As := [.int (nI f), .int (nI m)]) (rest := []) ⟨hx, hb, hml, hown, hts⟩ (c_X5_codeAt l D cI cJ cO b fa h w pc br q1 (nI wq) q3 q4 fw ea sn mo rc tr sh tx f ii m p hfm hm60 htx (by omega)) (cwV 2 hts gX5_readsPlace_X5_codeAt rfl rfl rfl (by decide +kernel) ⟨Nat.le_of_ble_eq_true rfl, Nat.le_of_ble_eq_true rfl⟩) hP hK [0, 2] rfl rfl rfl rfl rfl hl.1 rfl (Nat.le_of_ble_eq_true rfl) dX5_readsPlace_12 ⟨Nat.le_refl _, Nat.le_refl _⟩) (fun r_17 q_18 => ?_)
    obtain rfl := q_18
    refine lv_bipush (v := 59) hx hb dX5_readsPlace_15 (by decide) ?_
    refine lv_icmp_eq (tgt := 22) hx hb dX5_readsPlace_17 (by decide) (fun c_19 => ?_) (fun c_19 => ?_)
    · refine lv_aload_n hx hb dX5_readsPlace_22 rfl (lv_at hl 0 rfl) ?_
      refine lv_dup hx hb dX5_readsPlace_23 rfl ?_
      refine va_get (D := D) (ci := 5) (v := .int (nI p)) (C := RX5) (T := TX5) (N := 30) hx hb hts hin5 hown hK.1 hP 0 rfl rfl 7 (by decide) (hts _ (List.mem_of_getElem? (i := 2) rfl)) (fun _ h9 => h9) rfl dX5_readsPlace_24 ?_
      refine lv_iconst (v := 1) hx hb dX5_readsPlace_27 (by decide) ?_
      refine lv_iadd hx hb dX5_readsPlace_28 ?_
      refine k_top (y := (nI (p + 1))) (nI_add _ 1) ?_
      refine va_put (D := D) (ci := 5) (v := .int (nI (p + 1))) (ty := .int) (C := RX5) (T := TX5) (N := 30) hx hb hts hin5 tyX5 tyX5_ok nmX5 hown hK.1 hP hD hS 0 rfl rfl 7 (by decide) (hts _ (List.mem_of_getElem? (i := 2) rfl)) (fun _ h9 => h9) rfl (by decide +kernel) rfl rfl (Nat.le_of_ble_eq_true rfl) dX5_readsPlace_29 (fun H locs hP hD hS => ?_)
      have hP : va_P D vwCl [(b 0, .inr (5, [.int fa, .int (nI h), .int (nI w), .int pc, .int br, .ref (b 1), .ref (b 2), .int (nI (p + 1)), .int q1, .int (nI wq), .int q3, .int q4, .ref (b 3), .int fw, .int ea, .int sn, .ref (b 4), .ref (b 5), .ref (b 6), .int mo, .int (nI rc), .ref (b 7), .ref (b 8), .ref (b 9), .ref (b 10), .ref (b 11), .ref (b 12), .ref (b 13), .ref (b 14), .int tr])), (b 3, .inl (cI, 16, .inl rk)), (b 13, .inl (cI, 240, .inl sh))] H := hP
      have hD : va_D A [(b 0, .inr (5, [.int fa, .int (nI h), .int (nI w), .int pc, .int br, .ref (b 1), .ref (b 2), .int (nI (p + 1)), .int q1, .int (nI wq), .int q3, .int q4, .ref (b 3), .int fw, .int ea, .int sn, .ref (b 4), .ref (b 5), .ref (b 6), .int mo, .int (nI rc), .ref (b 7), .ref (b 8), .ref (b 9), .ref (b 10), .ref (b 11), .ref (b 12), .ref (b 13), .ref (b 14), .int tr])), (b 3, .inl (cI, 16, .inl rk)), (b 13, .inl (cI, 240, .inl sh))] := hD
      refine lv_aload_n hx hb dX5_readsPlace_32 rfl (lv_at hl 0 rfl) ?_
      refine lv_iload_n hx hb dX5_readsPlace_33 rfl (lv_at hl 1 rfl) ?_
      refine lv_iload_n hx hb dX5_readsPlace_34 rfl (lv_at hl 2 rfl) ?_
      refine k_ri (run_RV (As := [.int (nI f), .int (nI m)]) (rest := []) ⟨hx, hb, hml, hown, hts⟩ (c_X5_codeAt l D cI cJ cO b fa h w pc br q1 (nI wq) q3 q4 fw ea sn mo rc tr sh tx f ii m (p + 1) hfm hm60 htx (by omega)) (cwV 2 hts gX5_readsPlace_X5_codeAt rfl rfl rfl (by decide +kernel) ⟨Nat.le_of_ble_eq_true rfl, Nat.le_of_ble_eq_true rfl⟩) hP hK [0, 2] rfl rfl rfl rfl rfl hl.1 rfl (Nat.le_of_ble_eq_true rfl) dX5_readsPlace_35 ⟨Nat.le_refl _, Nat.le_refl _⟩) (fun r_20 q_21 => ?_)
      obtain rfl := q_21
      refine lv_istore (lv' := [(4, .int (cdF tx ii m (p + 1))), (0, .ref (b 0)), (1, .int (nI f)), (2, .int (nI m)), (3, .int (nI c))]) hx hb dX5_readsPlace_38 hl (by decide) rfl (fun ls hl => ?_)
      refine lv_iload hx hb dX5_readsPlace_40 (lv_at hl 0 rfl) ?_
      refine lv_bipush (v := 103) hx hb dX5_readsPlace_42 (by decide) ?_
      refine lv_icmp_eq (tgt := 70) hx hb dX5_readsPlace_44 (by decide) (fun c_22 => ?_) (fun c_22 => ?_)
      · refine lv_aload_n hx hb dX5_readsPlace_70 rfl (lv_at hl 1 rfl) ?_
        refine lv_dup hx hb dX5_readsPlace_71 rfl ?_
        refine va_get (D := D) (ci := 5) (v := .int (nI (p + 1))) (C := RX5) (T := TX5) (N := 30) hx hb hts hin5 hown hK.1 hP 0 rfl rfl 7 (by decide) (hts _ (List.mem_of_getElem? (i := 2) rfl)) (fun _ h9 => h9) rfl dX5_readsPlace_72 ?_
        refine lv_iconst (v := 1) hx hb dX5_readsPlace_75 (by decide) ?_
        refine lv_iadd hx hb dX5_readsPlace_76 ?_
        refine k_top (y := (nI ((p + 1) + 1))) (nI_add _ 1) ?_
        refine va_put (D := D) (ci := 5) (v := .int (nI ((p + 1) + 1))) (ty := .int) (C := RX5) (T := TX5) (N := 30) hx hb hts hin5 tyX5 tyX5_ok nmX5 hown hK.1 hP hD hS 0 rfl rfl 7 (by decide) (hts _ (List.mem_of_getElem? (i := 2) rfl)) (fun _ h9 => h9) rfl (by decide +kernel) rfl rfl (Nat.le_of_ble_eq_true rfl) dX5_readsPlace_77 (fun H locs hP hD hS => ?_)
        have hP : va_P D vwCl [(b 0, .inr (5, [.int fa, .int (nI h), .int (nI w), .int pc, .int br, .ref (b 1), .ref (b 2), .int (nI ((p + 1) + 1)), .int q1, .int (nI wq), .int q3, .int q4, .ref (b 3), .int fw, .int ea, .int sn, .ref (b 4), .ref (b 5), .ref (b 6), .int mo, .int (nI rc), .ref (b 7), .ref (b 8), .ref (b 9), .ref (b 10), .ref (b 11), .ref (b 12), .ref (b 13), .ref (b 14), .int tr])), (b 3, .inl (cI, 16, .inl rk)), (b 13, .inl (cI, 240, .inl sh))] H := hP
        have hD : va_D A [(b 0, .inr (5, [.int fa, .int (nI h), .int (nI w), .int pc, .int br, .ref (b 1), .ref (b 2), .int (nI ((p + 1) + 1)), .int q1, .int (nI wq), .int q3, .int q4, .ref (b 3), .int fw, .int ea, .int sn, .ref (b 4), .ref (b 5), .ref (b 6), .int mo, .int (nI rc), .ref (b 7), .ref (b 8), .ref (b 9), .ref (b 10), .ref (b 11), .ref (b 12), .ref (b 13), .ref (b 14), .int tr])), (b 3, .inl (cI, 16, .inl rk)), (b 13, .inl (cI, 240, .inl sh))] := hD
        refine lv_aload_n hx hb dX5_readsPlace_80 rfl (lv_at hl 1 rfl) ?_
        refine va_get (D := D) (ci := 5) (v := .ref (b 3)) (C := RX5) (T := TX5) (N := 30) hx hb hts hin5 hown hK.1 hP 0 rfl rfl 12 (by decide) (hts _ (List.mem_of_getElem? (i := 3) rfl)) (fun _ h9 => h9) rfl dX5_readsPlace_81 ?_
        refine lv_iload_n hx hb dX5_readsPlace_84 rfl (lv_at hl 4 rfl) ?_
        refine lv_iload hx hb dX5_readsPlace_85 (lv_at hl 0 rfl) ?_
        refine lv_bipush (v := 103) hx hb dX5_readsPlace_87 (by decide) ?_
        refine lv_icmp_ne (tgt := 96) hx hb dX5_readsPlace_89 (by decide) (fun c_23 => ?_) (fun c_23 => ?_)
        · exact absurd c_22 c_23
        · refine lv_iconst (v := 0) hx hb dX5_readsPlace_92 (by decide) ?_
          refine lv_goto (tgt := 119) hx hb dX5_readsPlace_93 (by decide) ?_
          refine k_iast hx hb hK hP hD hS 1 0 rfl rfl (j := c) (vp_in_nI (show c < 16 by omega) (by decide)) (nI_clamp (by omega)) dX5_readsPlace_119 (fun H locs hP hD hS => ?_)
          have hP : va_P D vwCl [(b 0, .inr (5, [.int fa, .int (nI h), .int (nI w), .int pc, .int br, .ref (b 1), .ref (b 2), .int (nI ((p + 1) + 1)), .int q1, .int (nI wq), .int q3, .int q4, .ref (b 3), .int fw, .int ea, .int sn, .ref (b 4), .ref (b 5), .ref (b 6), .int mo, .int (nI rc), .ref (b 7), .ref (b 8), .ref (b 9), .ref (b 10), .ref (b 11), .ref (b 12), .ref (b 13), .ref (b 14), .int tr])), (b 3, .inl (cI, 16, .inl (upd rk c 0))), (b 13, .inl (cI, 240, .inl sh))] H := hP
          have hD : va_D A [(b 0, .inr (5, [.int fa, .int (nI h), .int (nI w), .int pc, .int br, .ref (b 1), .ref (b 2), .int (nI ((p + 1) + 1)), .int q1, .int (nI wq), .int q3, .int q4, .ref (b 3), .int fw, .int ea, .int sn, .ref (b 4), .ref (b 5), .ref (b 6), .int mo, .int (nI rc), .ref (b 7), .ref (b 8), .ref (b 9), .ref (b 10), .ref (b 11), .ref (b 12), .ref (b 13), .ref (b 14), .int tr])), (b 3, .inl (cI, 16, .inl (upd rk c 0))), (b 13, .inl (cI, 240, .inl sh))] := hD
          refine lv_iconst (v := 1) hx hb dX5_readsPlace_120 (by decide) ?_
          refine mz_ret (v := 1) hx hb hr hlk hP hD hS dX5_readsPlace_121 (by decide) ?_
          have hB : rpB tx ii m p wq c = (p + 1) := by rw [rpB, if_pos c_1, if_pos c_19]
          have hkf : kindF (cdF tx ii m (p + 1)) = 0 := by rw [c_23]; rfl
          have hP9 : rpP tx ii m p wq c := ⟨fun _ => c_19, by rw [hB, hkf]; decide⟩
          rw [show rpN tx ii m p wq c = (p + 1) + 1 from by rw [rpN, if_pos hP9, hB], show rpK tx ii m p wq c rk = upd rk c 0 from by rw [rpK, if_pos hP9, hB, hkf]]
          exact ⟨b2_1 hP9, rfl⟩
      · refine lv_iload hx hb dX5_readsPlace_47 (lv_at hl 0 rfl) ?_
        refine lv_bipush (v := 115) hx hb dX5_readsPlace_49 (by decide) ?_
        refine lv_icmp_eq (tgt := 70) hx hb dX5_readsPlace_51 (by decide) (fun c_24 => ?_) (fun c_24 => ?_)
        · refine lv_aload_n hx hb dX5_readsPlace_70 rfl (lv_at hl 1 rfl) ?_
          refine lv_dup hx hb dX5_readsPlace_71 rfl ?_
          refine va_get (D := D) (ci := 5) (v := .int (nI (p + 1))) (C := RX5) (T := TX5) (N := 30) hx hb hts hin5 hown hK.1 hP 0 rfl rfl 7 (by decide) (hts _ (List.mem_of_getElem? (i := 2) rfl)) (fun _ h9 => h9) rfl dX5_readsPlace_72 ?_
          refine lv_iconst (v := 1) hx hb dX5_readsPlace_75 (by decide) ?_
          refine lv_iadd hx hb dX5_readsPlace_76 ?_
          refine k_top (y := (nI ((p + 1) + 1))) (nI_add _ 1) ?_
          refine va_put (D := D) (ci := 5) (v := .int (nI ((p + 1) + 1))) (ty := .int) (C := RX5) (T := TX5) (N := 30) hx hb hts hin5 tyX5 tyX5_ok nmX5 hown hK.1 hP hD hS 0 rfl rfl 7 (by decide) (hts _ (List.mem_of_getElem? (i := 2) rfl)) (fun _ h9 => h9) rfl (by decide +kernel) rfl rfl (Nat.le_of_ble_eq_true rfl) dX5_readsPlace_77 (fun H locs hP hD hS => ?_)
          have hP : va_P D vwCl [(b 0, .inr (5, [.int fa, .int (nI h), .int (nI w), .int pc, .int br, .ref (b 1), .ref (b 2), .int (nI ((p + 1) + 1)), .int q1, .int (nI wq), .int q3, .int q4, .ref (b 3), .int fw, .int ea, .int sn, .ref (b 4), .ref (b 5), .ref (b 6), .int mo, .int (nI rc), .ref (b 7), .ref (b 8), .ref (b 9), .ref (b 10), .ref (b 11), .ref (b 12), .ref (b 13), .ref (b 14), .int tr])), (b 3, .inl (cI, 16, .inl rk)), (b 13, .inl (cI, 240, .inl sh))] H := hP
          have hD : va_D A [(b 0, .inr (5, [.int fa, .int (nI h), .int (nI w), .int pc, .int br, .ref (b 1), .ref (b 2), .int (nI ((p + 1) + 1)), .int q1, .int (nI wq), .int q3, .int q4, .ref (b 3), .int fw, .int ea, .int sn, .ref (b 4), .ref (b 5), .ref (b 6), .int mo, .int (nI rc), .ref (b 7), .ref (b 8), .ref (b 9), .ref (b 10), .ref (b 11), .ref (b 12), .ref (b 13), .ref (b 14), .int tr])), (b 3, .inl (cI, 16, .inl rk)), (b 13, .inl (cI, 240, .inl sh))] := hD
          refine lv_aload_n hx hb dX5_readsPlace_80 rfl (lv_at hl 1 rfl) ?_
          refine va_get (D := D) (ci := 5) (v := .ref (b 3)) (C := RX5) (T := TX5) (N := 30) hx hb hts hin5 hown hK.1 hP 0 rfl rfl 12 (by decide) (hts _ (List.mem_of_getElem? (i := 3) rfl)) (fun _ h9 => h9) rfl dX5_readsPlace_81 ?_
          refine lv_iload_n hx hb dX5_readsPlace_84 rfl (lv_at hl 4 rfl) ?_
          refine lv_iload hx hb dX5_readsPlace_85 (lv_at hl 0 rfl) ?_
          refine lv_bipush (v := 103) hx hb dX5_readsPlace_87 (by decide) ?_
          refine lv_icmp_ne (tgt := 96) hx hb dX5_readsPlace_89 (by decide) (fun c_25 => ?_) (fun c_25 => ?_)
          · refine lv_iload hx hb dX5_readsPlace_96 (lv_at hl 0 rfl) ?_
            refine lv_bipush (v := 115) hx hb dX5_readsPlace_98 (by decide) ?_
            refine lv_icmp_ne (tgt := 107) hx hb dX5_readsPlace_100 (by decide) (fun c_26 => ?_) (fun c_26 => ?_)
            · exact absurd c_24 c_26
            · refine lv_iconst (v := 1) hx hb dX5_readsPlace_103 (by decide) ?_
              refine lv_goto (tgt := 119) hx hb dX5_readsPlace_104 (by decide) ?_
              refine k_iast hx hb hK hP hD hS 1 0 rfl rfl (j := c) (vp_in_nI (show c < 16 by omega) (by decide)) (nI_clamp (by omega)) dX5_readsPlace_119 (fun H locs hP hD hS => ?_)
              have hP : va_P D vwCl [(b 0, .inr (5, [.int fa, .int (nI h), .int (nI w), .int pc, .int br, .ref (b 1), .ref (b 2), .int (nI ((p + 1) + 1)), .int q1, .int (nI wq), .int q3, .int q4, .ref (b 3), .int fw, .int ea, .int sn, .ref (b 4), .ref (b 5), .ref (b 6), .int mo, .int (nI rc), .ref (b 7), .ref (b 8), .ref (b 9), .ref (b 10), .ref (b 11), .ref (b 12), .ref (b 13), .ref (b 14), .int tr])), (b 3, .inl (cI, 16, .inl (upd rk c 1))), (b 13, .inl (cI, 240, .inl sh))] H := hP
              have hD : va_D A [(b 0, .inr (5, [.int fa, .int (nI h), .int (nI w), .int pc, .int br, .ref (b 1), .ref (b 2), .int (nI ((p + 1) + 1)), .int q1, .int (nI wq), .int q3, .int q4, .ref (b 3), .int fw, .int ea, .int sn, .ref (b 4), .ref (b 5), .ref (b 6), .int mo, .int (nI rc), .ref (b 7), .ref (b 8), .ref (b 9), .ref (b 10), .ref (b 11), .ref (b 12), .ref (b 13), .ref (b 14), .int tr])), (b 3, .inl (cI, 16, .inl (upd rk c 1))), (b 13, .inl (cI, 240, .inl sh))] := hD
              refine lv_iconst (v := 1) hx hb dX5_readsPlace_120 (by decide) ?_
              refine mz_ret (v := 1) hx hb hr hlk hP hD hS dX5_readsPlace_121 (by decide) ?_
              have hB : rpB tx ii m p wq c = (p + 1) := by rw [rpB, if_pos c_1, if_pos c_19]
              have hkf : kindF (cdF tx ii m (p + 1)) = 1 := by rw [c_26]; rfl
              have hP9 : rpP tx ii m p wq c := ⟨fun _ => c_19, by rw [hB, hkf]; decide⟩
              rw [show rpN tx ii m p wq c = (p + 1) + 1 from by rw [rpN, if_pos hP9, hB], show rpK tx ii m p wq c rk = upd rk c 1 from by rw [rpK, if_pos hP9, hB, hkf]]
              exact ⟨b2_1 hP9, rfl⟩
          · exact absurd c_25 c_22
        · refine lv_iload hx hb dX5_readsPlace_54 (lv_at hl 0 rfl) ?_
          refine lv_bipush (v := 111) hx hb dX5_readsPlace_56 (by decide) ?_
          refine lv_icmp_eq (tgt := 70) hx hb dX5_readsPlace_58 (by decide) (fun c_27 => ?_) (fun c_27 => ?_)
          · refine lv_aload_n hx hb dX5_readsPlace_70 rfl (lv_at hl 1 rfl) ?_
            refine lv_dup hx hb dX5_readsPlace_71 rfl ?_
            refine va_get (D := D) (ci := 5) (v := .int (nI (p + 1))) (C := RX5) (T := TX5) (N := 30) hx hb hts hin5 hown hK.1 hP 0 rfl rfl 7 (by decide) (hts _ (List.mem_of_getElem? (i := 2) rfl)) (fun _ h9 => h9) rfl dX5_readsPlace_72 ?_
            refine lv_iconst (v := 1) hx hb dX5_readsPlace_75 (by decide) ?_
            refine lv_iadd hx hb dX5_readsPlace_76 ?_
            refine k_top (y := (nI ((p + 1) + 1))) (nI_add _ 1) ?_
            refine va_put (D := D) (ci := 5) (v := .int (nI ((p + 1) + 1))) (ty := .int) (C := RX5) (T := TX5) (N := 30) hx hb hts hin5 tyX5 tyX5_ok nmX5 hown hK.1 hP hD hS 0 rfl rfl 7 (by decide) (hts _ (List.mem_of_getElem? (i := 2) rfl)) (fun _ h9 => h9) rfl (by decide +kernel) rfl rfl (Nat.le_of_ble_eq_true rfl) dX5_readsPlace_77 (fun H locs hP hD hS => ?_)
            have hP : va_P D vwCl [(b 0, .inr (5, [.int fa, .int (nI h), .int (nI w), .int pc, .int br, .ref (b 1), .ref (b 2), .int (nI ((p + 1) + 1)), .int q1, .int (nI wq), .int q3, .int q4, .ref (b 3), .int fw, .int ea, .int sn, .ref (b 4), .ref (b 5), .ref (b 6), .int mo, .int (nI rc), .ref (b 7), .ref (b 8), .ref (b 9), .ref (b 10), .ref (b 11), .ref (b 12), .ref (b 13), .ref (b 14), .int tr])), (b 3, .inl (cI, 16, .inl rk)), (b 13, .inl (cI, 240, .inl sh))] H := hP
            have hD : va_D A [(b 0, .inr (5, [.int fa, .int (nI h), .int (nI w), .int pc, .int br, .ref (b 1), .ref (b 2), .int (nI ((p + 1) + 1)), .int q1, .int (nI wq), .int q3, .int q4, .ref (b 3), .int fw, .int ea, .int sn, .ref (b 4), .ref (b 5), .ref (b 6), .int mo, .int (nI rc), .ref (b 7), .ref (b 8), .ref (b 9), .ref (b 10), .ref (b 11), .ref (b 12), .ref (b 13), .ref (b 14), .int tr])), (b 3, .inl (cI, 16, .inl rk)), (b 13, .inl (cI, 240, .inl sh))] := hD
            refine lv_aload_n hx hb dX5_readsPlace_80 rfl (lv_at hl 1 rfl) ?_
            refine va_get (D := D) (ci := 5) (v := .ref (b 3)) (C := RX5) (T := TX5) (N := 30) hx hb hts hin5 hown hK.1 hP 0 rfl rfl 12 (by decide) (hts _ (List.mem_of_getElem? (i := 3) rfl)) (fun _ h9 => h9) rfl dX5_readsPlace_81 ?_
            refine lv_iload_n hx hb dX5_readsPlace_84 rfl (lv_at hl 4 rfl) ?_
            refine lv_iload hx hb dX5_readsPlace_85 (lv_at hl 0 rfl) ?_
            refine lv_bipush (v := 103) hx hb dX5_readsPlace_87 (by decide) ?_
            refine lv_icmp_ne (tgt := 96) hx hb dX5_readsPlace_89 (by decide) (fun c_28 => ?_) (fun c_28 => ?_)
            · refine lv_iload hx hb dX5_readsPlace_96 (lv_at hl 0 rfl) ?_
              refine lv_bipush (v := 115) hx hb dX5_readsPlace_98 (by decide) ?_
              refine lv_icmp_ne (tgt := 107) hx hb dX5_readsPlace_100 (by decide) (fun c_29 => ?_) (fun c_29 => ?_)
              · refine lv_iload hx hb dX5_readsPlace_107 (lv_at hl 0 rfl) ?_
                refine lv_bipush (v := 111) hx hb dX5_readsPlace_109 (by decide) ?_
                refine lv_icmp_ne (tgt := 118) hx hb dX5_readsPlace_111 (by decide) (fun c_30 => ?_) (fun c_30 => ?_)
                · exact absurd c_27 c_30
                · refine lv_iconst (v := 2) hx hb dX5_readsPlace_114 (by decide) ?_
                  refine lv_goto (tgt := 119) hx hb dX5_readsPlace_115 (by decide) ?_
                  refine k_iast hx hb hK hP hD hS 1 0 rfl rfl (j := c) (vp_in_nI (show c < 16 by omega) (by decide)) (nI_clamp (by omega)) dX5_readsPlace_119 (fun H locs hP hD hS => ?_)
                  have hP : va_P D vwCl [(b 0, .inr (5, [.int fa, .int (nI h), .int (nI w), .int pc, .int br, .ref (b 1), .ref (b 2), .int (nI ((p + 1) + 1)), .int q1, .int (nI wq), .int q3, .int q4, .ref (b 3), .int fw, .int ea, .int sn, .ref (b 4), .ref (b 5), .ref (b 6), .int mo, .int (nI rc), .ref (b 7), .ref (b 8), .ref (b 9), .ref (b 10), .ref (b 11), .ref (b 12), .ref (b 13), .ref (b 14), .int tr])), (b 3, .inl (cI, 16, .inl (upd rk c 2))), (b 13, .inl (cI, 240, .inl sh))] H := hP
                  have hD : va_D A [(b 0, .inr (5, [.int fa, .int (nI h), .int (nI w), .int pc, .int br, .ref (b 1), .ref (b 2), .int (nI ((p + 1) + 1)), .int q1, .int (nI wq), .int q3, .int q4, .ref (b 3), .int fw, .int ea, .int sn, .ref (b 4), .ref (b 5), .ref (b 6), .int mo, .int (nI rc), .ref (b 7), .ref (b 8), .ref (b 9), .ref (b 10), .ref (b 11), .ref (b 12), .ref (b 13), .ref (b 14), .int tr])), (b 3, .inl (cI, 16, .inl (upd rk c 2))), (b 13, .inl (cI, 240, .inl sh))] := hD
                  refine lv_iconst (v := 1) hx hb dX5_readsPlace_120 (by decide) ?_
                  refine mz_ret (v := 1) hx hb hr hlk hP hD hS dX5_readsPlace_121 (by decide) ?_
                  have hB : rpB tx ii m p wq c = (p + 1) := by rw [rpB, if_pos c_1, if_pos c_19]
                  have hkf : kindF (cdF tx ii m (p + 1)) = 2 := by rw [c_30]; rfl
                  have hP9 : rpP tx ii m p wq c := ⟨fun _ => c_19, by rw [hB, hkf]; decide⟩
                  rw [show rpN tx ii m p wq c = (p + 1) + 1 from by rw [rpN, if_pos hP9, hB], show rpK tx ii m p wq c rk = upd rk c 2 from by rw [rpK, if_pos hP9, hB, hkf]]
                  exact ⟨b2_1 hP9, rfl⟩
              · exact absurd c_29 c_24
            · exact absurd c_28 c_22
          · refine lv_iload hx hb dX5_readsPlace_61 (lv_at hl 0 rfl) ?_
            refine lv_bipush (v := 35) hx hb dX5_readsPlace_63 (by decide) ?_
            refine lv_icmp_eq (tgt := 70) hx hb dX5_readsPlace_65 (by decide) (fun c_31 => ?_) (fun c_31 => ?_)
            · refine lv_aload_n hx hb dX5_readsPlace_70 rfl (lv_at hl 1 rfl) ?_
              refine lv_dup hx hb dX5_readsPlace_71 rfl ?_
              refine va_get (D := D) (ci := 5) (v := .int (nI (p + 1))) (C := RX5) (T := TX5) (N := 30) hx hb hts hin5 hown hK.1 hP 0 rfl rfl 7 (by decide) (hts _ (List.mem_of_getElem? (i := 2) rfl)) (fun _ h9 => h9) rfl dX5_readsPlace_72 ?_
              refine lv_iconst (v := 1) hx hb dX5_readsPlace_75 (by decide) ?_
              refine lv_iadd hx hb dX5_readsPlace_76 ?_
              refine k_top (y := (nI ((p + 1) + 1))) (nI_add _ 1) ?_
              refine va_put (D := D) (ci := 5) (v := .int (nI ((p + 1) + 1))) (ty := .int) (C := RX5) (T := TX5) (N := 30) hx hb hts hin5 tyX5 tyX5_ok nmX5 hown hK.1 hP hD hS 0 rfl rfl 7 (by decide) (hts _ (List.mem_of_getElem? (i := 2) rfl)) (fun _ h9 => h9) rfl (by decide +kernel) rfl rfl (Nat.le_of_ble_eq_true rfl) dX5_readsPlace_77 (fun H locs hP hD hS => ?_)
              have hP : va_P D vwCl [(b 0, .inr (5, [.int fa, .int (nI h), .int (nI w), .int pc, .int br, .ref (b 1), .ref (b 2), .int (nI ((p + 1) + 1)), .int q1, .int (nI wq), .int q3, .int q4, .ref (b 3), .int fw, .int ea, .int sn, .ref (b 4), .ref (b 5), .ref (b 6), .int mo, .int (nI rc), .ref (b 7), .ref (b 8), .ref (b 9), .ref (b 10), .ref (b 11), .ref (b 12), .ref (b 13), .ref (b 14), .int tr])), (b 3, .inl (cI, 16, .inl rk)), (b 13, .inl (cI, 240, .inl sh))] H := hP
              have hD : va_D A [(b 0, .inr (5, [.int fa, .int (nI h), .int (nI w), .int pc, .int br, .ref (b 1), .ref (b 2), .int (nI ((p + 1) + 1)), .int q1, .int (nI wq), .int q3, .int q4, .ref (b 3), .int fw, .int ea, .int sn, .ref (b 4), .ref (b 5), .ref (b 6), .int mo, .int (nI rc), .ref (b 7), .ref (b 8), .ref (b 9), .ref (b 10), .ref (b 11), .ref (b 12), .ref (b 13), .ref (b 14), .int tr])), (b 3, .inl (cI, 16, .inl rk)), (b 13, .inl (cI, 240, .inl sh))] := hD
              refine lv_aload_n hx hb dX5_readsPlace_80 rfl (lv_at hl 1 rfl) ?_
              refine va_get (D := D) (ci := 5) (v := .ref (b 3)) (C := RX5) (T := TX5) (N := 30) hx hb hts hin5 hown hK.1 hP 0 rfl rfl 12 (by decide) (hts _ (List.mem_of_getElem? (i := 3) rfl)) (fun _ h9 => h9) rfl dX5_readsPlace_81 ?_
              refine lv_iload_n hx hb dX5_readsPlace_84 rfl (lv_at hl 4 rfl) ?_
              refine lv_iload hx hb dX5_readsPlace_85 (lv_at hl 0 rfl) ?_
              refine lv_bipush (v := 103) hx hb dX5_readsPlace_87 (by decide) ?_
              refine lv_icmp_ne (tgt := 96) hx hb dX5_readsPlace_89 (by decide) (fun c_32 => ?_) (fun c_32 => ?_)
              · refine lv_iload hx hb dX5_readsPlace_96 (lv_at hl 0 rfl) ?_
                refine lv_bipush (v := 115) hx hb dX5_readsPlace_98 (by decide) ?_
                refine lv_icmp_ne (tgt := 107) hx hb dX5_readsPlace_100 (by decide) (fun c_33 => ?_) (fun c_33 => ?_)
                · refine lv_iload hx hb dX5_readsPlace_107 (lv_at hl 0 rfl) ?_
                  refine lv_bipush (v := 111) hx hb dX5_readsPlace_109 (by decide) ?_
                  refine lv_icmp_ne (tgt := 118) hx hb dX5_readsPlace_111 (by decide) (fun c_34 => ?_) (fun c_34 => ?_)
                  · refine lv_iconst (v := 3) hx hb dX5_readsPlace_118 (by decide) ?_
                    refine k_iast hx hb hK hP hD hS 1 0 rfl rfl (j := c) (vp_in_nI (show c < 16 by omega) (by decide)) (nI_clamp (by omega)) dX5_readsPlace_119 (fun H locs hP hD hS => ?_)
                    have hP : va_P D vwCl [(b 0, .inr (5, [.int fa, .int (nI h), .int (nI w), .int pc, .int br, .ref (b 1), .ref (b 2), .int (nI ((p + 1) + 1)), .int q1, .int (nI wq), .int q3, .int q4, .ref (b 3), .int fw, .int ea, .int sn, .ref (b 4), .ref (b 5), .ref (b 6), .int mo, .int (nI rc), .ref (b 7), .ref (b 8), .ref (b 9), .ref (b 10), .ref (b 11), .ref (b 12), .ref (b 13), .ref (b 14), .int tr])), (b 3, .inl (cI, 16, .inl (upd rk c 3))), (b 13, .inl (cI, 240, .inl sh))] H := hP
                    have hD : va_D A [(b 0, .inr (5, [.int fa, .int (nI h), .int (nI w), .int pc, .int br, .ref (b 1), .ref (b 2), .int (nI ((p + 1) + 1)), .int q1, .int (nI wq), .int q3, .int q4, .ref (b 3), .int fw, .int ea, .int sn, .ref (b 4), .ref (b 5), .ref (b 6), .int mo, .int (nI rc), .ref (b 7), .ref (b 8), .ref (b 9), .ref (b 10), .ref (b 11), .ref (b 12), .ref (b 13), .ref (b 14), .int tr])), (b 3, .inl (cI, 16, .inl (upd rk c 3))), (b 13, .inl (cI, 240, .inl sh))] := hD
                    refine lv_iconst (v := 1) hx hb dX5_readsPlace_120 (by decide) ?_
                    refine mz_ret (v := 1) hx hb hr hlk hP hD hS dX5_readsPlace_121 (by decide) ?_
                    have hB : rpB tx ii m p wq c = (p + 1) := by rw [rpB, if_pos c_1, if_pos c_19]
                    have hkf : kindF (cdF tx ii m (p + 1)) = 3 := by rw [c_31]; rfl
                    have hP9 : rpP tx ii m p wq c := ⟨fun _ => c_19, by rw [hB, hkf]; decide⟩
                    rw [show rpN tx ii m p wq c = (p + 1) + 1 from by rw [rpN, if_pos hP9, hB], show rpK tx ii m p wq c rk = upd rk c 3 from by rw [rpK, if_pos hP9, hB, hkf]]
                    exact ⟨b2_1 hP9, rfl⟩
                  · exact absurd c_34 c_27
                · exact absurd c_33 c_24
              · exact absurd c_32 c_22
            · refine lv_iconst (v := 0) hx hb dX5_readsPlace_68 (by decide) ?_
              refine mz_ret (v := 0) hx hb hr hlk hP hD hS dX5_readsPlace_69 (by decide) ?_
              have hB : rpB tx ii m p wq c = (p + 1) := by rw [rpB, if_pos c_1, if_pos c_19]
              have hkf : kindF (cdF tx ii m (p + 1)) = -9 := kf_no c_22 c_24 c_27 c_31
              have hP9 : ¬ rpP tx ii m p wq c := fun z => z.2 (by rw [hB, hkf])
              rw [show rpN tx ii m p wq c = (p + 1) from by rw [rpN, if_neg hP9, hB], show rpK tx ii m p wq c rk = rk from by rw [rpK, if_neg hP9]]
              exact ⟨b2_0 hP9, rfl⟩
    · refine lv_iconst (v := 0) hx hb dX5_readsPlace_20 (by decide) ?_
      refine mz_ret (v := 0) hx hb hr hlk hP hD hS dX5_readsPlace_21 (by decide) ?_
      have hB : rpB tx ii m p wq c = p := by rw [rpB, if_pos c_1, if_neg c_19]
      have hP9 : ¬ rpP tx ii m p wq c := fun z => c_19 (z.1 c_1)
      rw [show rpN tx ii m p wq c = p from by rw [rpN, if_neg hP9, hB], show rpK tx ii m p wq c rk = rk from by rw [rpK, if_neg hP9]]
      exact ⟨b2_0 hP9, rfl⟩
