theorem iwX5_kinds_X5 : ∀ x ∈ wsX50, x ∈ wsX5_kinds := by decide +kernel
set_option maxRecDepth 100000 in
set_option maxHeartbeats 4000000 in
/-- X5_kinds -/
theorem c_X5_kinds (l : Launch) (D : va_G) (cI cJ cO : ClassId) (b : Nat → Nat) (fa : Int32) (h : Nat) (w : Nat) (pc : Int32) (br : Int32) (ra : Int32) (q1 : Int32) (q2 : Int32) (q3 : Int32) (q4 : Int32) (fw : Int32) (ea : Int32) (sn : Int32) (mo : Int32) (rc : Nat) (tr : Int32) (kd : Nat → Int32) (et : Nat → Int32) (ro : Nat → Int32) (rb : Nat → Int32) (rv : Nat → Int32) (c : Int32) (hn : h * w ≤ 16) (hro : ∀ k, k < rc → vp_in (ro k) 16) (hrc : rc ≤ 8) (hkd : ∀ k, k < 16 → kdOk (kd k)) (het : ∀ k, k < 16 → etOk (et k)) : MG l yX5_kinds wsX5_kinds 3 67 0 0 D [(cI, .int), (cJ, .long), (cO, .object "ShornHill$Sheet")] [.ref (b 0), .int c] [(b 0, .inr (5, [.int fa, .int (nI h), .int (nI w), .int pc, .int br, .ref (b 1), .ref (b 2), .int ra, .int q1, .int q2, .int q3, .int q4, .ref (b 3), .int fw, .int ea, .int sn, .ref (b 4), .ref (b 5), .ref (b 6), .int mo, .int (nI rc), .ref (b 7), .ref (b 8), .ref (b 9), .ref (b 10), .ref (b 11), .ref (b 12), .ref (b 13), .ref (b 14), .int tr])), (b 1, .inl (cI, 16, .inl kd)), (b 2, .inl (cI, 16, .inl et)), (b 7, .inl (cI, 8, .inl ro)), (b 8, .inl (cI, 8, .inl rb)), (b 9, .inl (cI, 8, .inl rv))] (QI D (fun (r : Int32) (w1 : va_W) => r = (kiR (h * w) pc kd et rc ro rb rv c) ∧ w1 = [(b 0, .inr (5, [.int fa, .int (nI h), .int (nI w), .int pc, .int br, .ref (b 1), .ref (b 2), .int ra, .int q1, .int q2, .int q3, .int q4, .ref (b 3), .int fw, .int ea, .int sn, .ref (b 4), .ref (b 5), .ref (b 6), .int mo, .int (nI rc), .ref (b 7), .ref (b 8), .ref (b 9), .ref (b 10), .ref (b 11), .ref (b 12), .ref (b 13), .ref (b 14), .int tr])), (b 1, .inl (cI, 16, .inl kd)), (b 2, .inl (cI, 16, .inl et)), (b 7, .inl (cI, 8, .inl ro)), (b 8, .inl (cI, 8, .inl rb)), (b 9, .inl (cI, 8, .inl rv))])) := by
  refine MG.of (cc := cX5_kinds) (maxL := 5) (ret := (some .int)) (by decide) rfl (Nat.le_of_ble_eq_true rfl) ?_
  intro P_ E_ S_ M_ B_ T_ K_ hx hb hml hr hts hown hlk hnm A hA hP hK hD hS ls hl
  have hl : lv_has ls 5 [(0, .ref (b 0)), (1, .int c)] := hl
  have hin5 : ∀ x ∈ u_ws RX5 TX5 30, x ∈ wsX5_kinds := iwX5_kinds_X5
  refine lv_aload_n hx hb dX5_kinds_0 rfl (lv_at hl 0 rfl) ?_
  refine lv_iload_n hx hb dX5_kinds_1 rfl (lv_at hl 1 rfl) ?_
  refine k_ri (run_RV (As := [.int c]) (rest := []) ⟨hx, hb, hml, hown, hts⟩ (c_X5_noGrass l D cI cJ cO b fa h w pc br ra q1 q2 q3 q4 fw ea sn mo rc tr kd c hn) (cwV 1 hts gX5_kinds_X5_noGrass rfl rfl rfl (by decide +kernel) ⟨Nat.le_of_ble_eq_true rfl, Nat.le_of_ble_eq_true rfl⟩) hP hK [0, 1] rfl rfl rfl rfl rfl hl.1 rfl (Nat.le_of_ble_eq_true rfl) dX5_kinds_2 ⟨Nat.le_refl _, Nat.le_refl _⟩) (fun r_1 q_2 => ?_)
  obtain rfl := q_2
  refine lv_if_eq (tgt := 10) hx hb dX5_kinds_5 (by decide) (fun c_3 => ?_) (fun c_3 => ?_)
  · have c_3 := Decidable.not_not.mp (b2_f c_3)
    refine lv_aload_n hx hb dX5_kinds_10 rfl (lv_at hl 0 rfl) ?_
    refine va_get (D := D) (ci := 5) (v := .ref (b 1)) (C := RX5) (T := TX5) (N := 30) hx hb hts hin5 hown hK.1 hP 0 rfl rfl 5 (by decide) (hts _ (List.mem_of_getElem? (i := 1) rfl)) (fun _ h9 => h9) rfl dX5_kinds_11 ?_
    refine lv_iload_n hx hb dX5_kinds_14 rfl (lv_at hl 1 rfl) ?_
    refine k_iald hx hb hK hP 1 0 rfl rfl (j := c.toNatClampNeg) (inN.vp c_3.1 (by omega)) rfl dX5_kinds_15 ?_
    refine lv_istore_n (lv' := [(2, .int (kd c.toNatClampNeg)), (0, .ref (b 0)), (1, .int c)]) hx hb dX5_kinds_16 rfl hl (by decide) rfl (fun ls hl => ?_)
    refine lv_iconst (v := 0) hx hb dX5_kinds_17 (by decide) ?_
    refine lv_istore_n (lv' := [(3, .int 0), (2, .int (kd c.toNatClampNeg)), (0, .ref (b 0)), (1, .int c)]) hx hb dX5_kinds_18 rfl hl (by decide) rfl (fun ls hl => ?_)
    refine lv_iconst (v := 0) hx hb dX5_kinds_19 (by decide) ?_
    refine lv_istore (lv' := [(4, .int 0), (3, .int 0), (2, .int (kd c.toNatClampNeg)), (0, .ref (b 0)), (1, .int c)]) hx hb dX5_kinds_20 hl (by decide) rfl (fun ls hl => ?_)
    have key_5 : ∀ (n_4 : Nat) (k : Nat) (g : Nat → Int32) (x3_n_4 : Int32), (k ≤ 3) → (∀ v, upd g c.toNatClampNeg v = upd kd c.toNatClampNeg v) → x3_n_4 = (setF (fun s => soP pc (upd kd c.toNatClampNeg (nI s)) et ro rb rv rc) 0 k) → 3 - k < n_4 → ∀ (H : Heap) (locs : List Loc), va_P D vwCl [(b 0, .inr (5, [.int fa, .int (nI h), .int (nI w), .int pc, .int br, .ref (b 1), .ref (b 2), .int ra, .int q1, .int q2, .int q3, .int q4, .ref (b 3), .int fw, .int ea, .int sn, .ref (b 4), .ref (b 5), .ref (b 6), .int mo, .int (nI rc), .ref (b 7), .ref (b 8), .ref (b 9), .ref (b 10), .ref (b 11), .ref (b 12), .ref (b 13), .ref (b 14), .int tr])), (b 1, .inl (cI, 16, .inl g)), (b 2, .inl (cI, 16, .inl et)), (b 7, .inl (cI, 8, .inl ro)), (b 8, .inl (cI, 8, .inl rb)), (b 9, .inl (cI, 8, .inl rv))] H → va_D A [(b 0, .inr (5, [.int fa, .int (nI h), .int (nI w), .int pc, .int br, .ref (b 1), .ref (b 2), .int ra, .int q1, .int q2, .int q3, .int q4, .ref (b 3), .int fw, .int ea, .int sn, .ref (b 4), .ref (b 5), .ref (b 6), .int mo, .int (nI rc), .ref (b 7), .ref (b 8), .ref (b 9), .ref (b 10), .ref (b 11), .ref (b 12), .ref (b 13), .ref (b 14), .int tr])), (b 1, .inl (cI, 16, .inl g)), (b 2, .inl (cI, 16, .inl et)), (b 7, .inl (cI, 8, .inl ro)), (b 8, .inl (cI, 8, .inl rb)), (b 9, .inl (cI, 8, .inl rv))] → va_S A S_.heap H locs → ∀ ls : Array Slot, lv_has ls 5 [(0, .ref (b 0)), (1, .int c), (2, .int (kd c.toNatClampNeg)), (3, .int x3_n_4), (4, .int (nI k))] → W P_ l E_ ({ frames := 3, cells := 0, slots := 0, locals := 67 } : Room) S_ M_ (([.ref (b 0), .int c] : List Value).toArray) B_ T_ K_ H locs 0 0 (MQ B_ ((QI D (fun (r : Int32) (w1 : va_W) => r = (kiR (h * w) pc kd et rc ro rb rv c) ∧ w1 = [(b 0, .inr (5, [.int fa, .int (nI h), .int (nI w), .int pc, .int br, .ref (b 1), .ref (b 2), .int ra, .int q1, .int q2, .int q3, .int q4, .ref (b 3), .int fw, .int ea, .int sn, .ref (b 4), .ref (b 5), .ref (b 6), .int mo, .int (nI rc), .ref (b 7), .ref (b 8), .ref (b 9), .ref (b 10), .ref (b 11), .ref (b 12), .ref (b 13), .ref (b 14), .int tr])), (b 1, .inl (cI, 16, .inl kd)), (b 2, .inl (cI, 16, .inl et)), (b 7, .inl (cI, 8, .inl ro)), (b 8, .inl (cI, 8, .inl rb)), (b 9, .inl (cI, 8, .inl rv))])) A) (([.ref (b 0), .int c] : List Value).toArray) S_ 0 0 A) (F0 M_ 22 ls []) := by
      intro n_4
      induction n_4 with
      | zero =>
        intro k g x3_n_4 hk hg e_x3_n_4 hmu_n_4
        exact absurd hmu_n_4 (Nat.not_lt_zero _)
      | succ n_4 ih_6 =>
        intro k g x3_n_4 hk hg e_x3_n_4 hmu_n_4 H locs hP hD hS ls hl
        subst e_x3_n_4
        have hl : lv_has ls 5 [(0, .ref (b 0)), (1, .int c), (2, .int (kd c.toNatClampNeg)), (3, .int (setF (fun s => soP pc (upd kd c.toNatClampNeg (nI s)) et ro rb rv rc) 0 k)), (4, .int (nI k))] := hl
        have hP : va_P D vwCl [(b 0, .inr (5, [.int fa, .int (nI h), .int (nI w), .int pc, .int br, .ref (b 1), .ref (b 2), .int ra, .int q1, .int q2, .int q3, .int q4, .ref (b 3), .int fw, .int ea, .int sn, .ref (b 4), .ref (b 5), .ref (b 6), .int mo, .int (nI rc), .ref (b 7), .ref (b 8), .ref (b 9), .ref (b 10), .ref (b 11), .ref (b 12), .ref (b 13), .ref (b 14), .int tr])), (b 1, .inl (cI, 16, .inl g)), (b 2, .inl (cI, 16, .inl et)), (b 7, .inl (cI, 8, .inl ro)), (b 8, .inl (cI, 8, .inl rb)), (b 9, .inl (cI, 8, .inl rv))] H := hP
        have hD : va_D A [(b 0, .inr (5, [.int fa, .int (nI h), .int (nI w), .int pc, .int br, .ref (b 1), .ref (b 2), .int ra, .int q1, .int q2, .int q3, .int q4, .ref (b 3), .int fw, .int ea, .int sn, .ref (b 4), .ref (b 5), .ref (b 6), .int mo, .int (nI rc), .ref (b 7), .ref (b 8), .ref (b 9), .ref (b 10), .ref (b 11), .ref (b 12), .ref (b 13), .ref (b 14), .int tr])), (b 1, .inl (cI, 16, .inl g)), (b 2, .inl (cI, 16, .inl et)), (b 7, .inl (cI, 8, .inl ro)), (b 8, .inl (cI, 8, .inl rb)), (b 9, .inl (cI, 8, .inl rv))] := hD
        refine lv_iload hx hb dX5_kinds_22 (lv_at hl 4 rfl) ?_
        refine lv_iconst (v := 3) hx hb dX5_kinds_24 (by decide) ?_
        refine lv_icmp_ge (tgt := 60) hx hb dX5_kinds_25 (by decide) (fun c_7 => ?_) (fun c_7 => ?_)
        · have c_7 : 3 ≤ k := (nI_leI (a := 3) (b := k) (by omega) (by omega)).mp c_7
          refine lv_aload_n hx hb dX5_kinds_60 rfl (lv_at hl 0 rfl) ?_
          refine va_get (D := D) (ci := 5) (v := .ref (b 1)) (C := RX5) (T := TX5) (N := 30) hx hb hts hin5 hown hK.1 hP 0 rfl rfl 5 (by decide) (hts _ (List.mem_of_getElem? (i := 1) rfl)) (fun _ h9 => h9) rfl dX5_kinds_61 ?_
          refine lv_iload_n hx hb dX5_kinds_64 rfl (lv_at hl 1 rfl) ?_
          refine lv_iload_n hx hb dX5_kinds_65 rfl (lv_at hl 2 rfl) ?_
          refine k_iast hx hb hK hP hD hS 1 0 rfl rfl (j := c.toNatClampNeg) (inN.vp c_3.1 (by omega)) rfl dX5_kinds_66 (fun H locs hP hD hS => ?_)
          have hP : va_P D vwCl [(b 0, .inr (5, [.int fa, .int (nI h), .int (nI w), .int pc, .int br, .ref (b 1), .ref (b 2), .int ra, .int q1, .int q2, .int q3, .int q4, .ref (b 3), .int fw, .int ea, .int sn, .ref (b 4), .ref (b 5), .ref (b 6), .int mo, .int (nI rc), .ref (b 7), .ref (b 8), .ref (b 9), .ref (b 10), .ref (b 11), .ref (b 12), .ref (b 13), .ref (b 14), .int tr])), (b 1, .inl (cI, 16, .inl (upd g c.toNatClampNeg (kd c.toNatClampNeg)))), (b 2, .inl (cI, 16, .inl et)), (b 7, .inl (cI, 8, .inl ro)), (b 8, .inl (cI, 8, .inl rb)), (b 9, .inl (cI, 8, .inl rv))] H := hP
          have hD : va_D A [(b 0, .inr (5, [.int fa, .int (nI h), .int (nI w), .int pc, .int br, .ref (b 1), .ref (b 2), .int ra, .int q1, .int q2, .int q3, .int q4, .ref (b 3), .int fw, .int ea, .int sn, .ref (b 4), .ref (b 5), .ref (b 6), .int mo, .int (nI rc), .ref (b 7), .ref (b 8), .ref (b 9), .ref (b 10), .ref (b 11), .ref (b 12), .ref (b 13), .ref (b 14), .int tr])), (b 1, .inl (cI, 16, .inl (upd g c.toNatClampNeg (kd c.toNatClampNeg)))), (b 2, .inl (cI, 16, .inl et)), (b 7, .inl (cI, 8, .inl ro)), (b 8, .inl (cI, 8, .inl rb)), (b 9, .inl (cI, 8, .inl rv))] := hD
          rw [show (upd g c.toNatClampNeg (kd c.toNatClampNeg)) = kd from (by rw [hg]; exact upd_self _ _)] at hP hD
          refine lv_iload_n hx hb dX5_kinds_67 rfl (lv_at hl 3 rfl) ?_
          refine mi_ret (v := (setF (fun s => soP pc (upd kd c.toNatClampNeg (nI s)) et ro rb rv rc) 0 k)) hx hb hr hlk hP hD hS dX5_kinds_68 ?_
          refine ⟨?_, rfl⟩
          rw [kiR, if_pos c_3, show k = 3 by omega]
        · have c_7 : k < 3 := Nat.lt_of_not_le (fun z => c_7 ((nI_leI (a := 3) (b := k) (by omega) (by omega)).mpr z))
          refine lv_aload_n hx hb dX5_kinds_28 rfl (lv_at hl 0 rfl) ?_
          refine va_get (D := D) (ci := 5) (v := .ref (b 1)) (C := RX5) (T := TX5) (N := 30) hx hb hts hin5 hown hK.1 hP 0 rfl rfl 5 (by decide) (hts _ (List.mem_of_getElem? (i := 1) rfl)) (fun _ h9 => h9) rfl dX5_kinds_29 ?_
          refine lv_iload_n hx hb dX5_kinds_32 rfl (lv_at hl 1 rfl) ?_
          refine lv_iload hx hb dX5_kinds_33 (lv_at hl 4 rfl) ?_
          refine k_iast hx hb hK hP hD hS 1 0 rfl rfl (j := c.toNatClampNeg) (inN.vp c_3.1 (by omega)) rfl dX5_kinds_35 (fun H locs hP hD hS => ?_)
          have hP : va_P D vwCl [(b 0, .inr (5, [.int fa, .int (nI h), .int (nI w), .int pc, .int br, .ref (b 1), .ref (b 2), .int ra, .int q1, .int q2, .int q3, .int q4, .ref (b 3), .int fw, .int ea, .int sn, .ref (b 4), .ref (b 5), .ref (b 6), .int mo, .int (nI rc), .ref (b 7), .ref (b 8), .ref (b 9), .ref (b 10), .ref (b 11), .ref (b 12), .ref (b 13), .ref (b 14), .int tr])), (b 1, .inl (cI, 16, .inl (upd g c.toNatClampNeg (nI k)))), (b 2, .inl (cI, 16, .inl et)), (b 7, .inl (cI, 8, .inl ro)), (b 8, .inl (cI, 8, .inl rb)), (b 9, .inl (cI, 8, .inl rv))] H := hP
          have hD : va_D A [(b 0, .inr (5, [.int fa, .int (nI h), .int (nI w), .int pc, .int br, .ref (b 1), .ref (b 2), .int ra, .int q1, .int q2, .int q3, .int q4, .ref (b 3), .int fw, .int ea, .int sn, .ref (b 4), .ref (b 5), .ref (b 6), .int mo, .int (nI rc), .ref (b 7), .ref (b 8), .ref (b 9), .ref (b 10), .ref (b 11), .ref (b 12), .ref (b 13), .ref (b 14), .int tr])), (b 1, .inl (cI, 16, .inl (upd g c.toNatClampNeg (nI k)))), (b 2, .inl (cI, 16, .inl et)), (b 7, .inl (cI, 8, .inl ro)), (b 8, .inl (cI, 8, .inl rb)), (b 9, .inl (cI, 8, .inl rv))] := hD
          rw [show (upd g c.toNatClampNeg (nI k)) = (upd kd c.toNatClampNeg (nI k)) from (hg _)] at hP hD
          refine lv_iload_n hx hb dX5_kinds_36 rfl (lv_at hl 3 rfl) ?_
          refine lv_aload_n hx hb dX5_kinds_37 rfl (lv_at hl 0 rfl) ?_
          refine k_ri (run_RV (As := []) (rest := [.int (setF (fun s => soP pc (upd kd c.toNatClampNeg (nI s)) et ro rb rv rc) 0 k)]) ⟨hx, hb, hml, hown, hts⟩ (c_X5_areSo l D cI cJ cO b fa h w pc br ra q1 q2 q3 q4 fw ea sn mo rc tr (upd kd c.toNatClampNeg (nI k)) et ro rb rv hro hrc (kd_up hkd (by omega)) het) (cwV 0 hts gX5_kinds_X5_areSo rfl rfl rfl (by decide +kernel) ⟨Nat.le_of_ble_eq_true rfl, Nat.le_of_ble_eq_true rfl⟩) hP hK [0, 1, 2, 3, 4, 5] rfl rfl rfl rfl rfl hl.1 rfl (Nat.le_of_ble_eq_true rfl) dX5_kinds_38 ⟨Nat.le_refl _, Nat.le_refl _⟩) (fun r_8 q_9 => ?_)
          obtain rfl := q_9
          refine lv_if_eq (tgt := 51) hx hb dX5_kinds_41 (by decide) (fun c_10 => ?_) (fun c_10 => ?_)
          · have c_10 := b2_f c_10
            refine lv_iconst (v := 0) hx hb dX5_kinds_51 (by decide) ?_
            refine lv_ior hx hb dX5_kinds_52 ?_
            refine lv_istore_n (lv' := [(3, .int ((setF (fun s => soP pc (upd kd c.toNatClampNeg (nI s)) et ro rb rv rc) 0 k) ||| 0)), (0, .ref (b 0)), (1, .int c), (2, .int (kd c.toNatClampNeg)), (4, .int (nI k))]) hx hb dX5_kinds_53 rfl hl (by decide) rfl (fun ls hl => ?_)
            refine lv_iinc (v := (nI (k + 1))) (lv' := [(4, .int (nI (k + 1))), (3, .int ((setF (fun s => soP pc (upd kd c.toNatClampNeg (nI s)) et ro rb rv rc) 0 k) ||| 0)), (0, .ref (b 0)), (1, .int c), (2, .int (kd c.toNatClampNeg))]) hx hb dX5_kinds_54 hl (k := 4) rfl (nI_add _ 1) (by decide) rfl (fun ls hl => ?_)
            refine lv_goto (tgt := 22) hx hb dX5_kinds_57 (by decide) ?_
            exact ih_6 (k + 1) (upd kd c.toNatClampNeg (nI k)) ((setF (fun s => soP pc (upd kd c.toNatClampNeg (nI s)) et ro rb rv rc) 0 k) ||| 0) (by omega) (fun _ => upd_upd _ _ _ _) (by first | exact setF_t0 (by assumption) | exact setF_h0 (by assumption)) (by omega) _ _ hP hD hS ls (lv_sub hl [2, 3, 4, 1, 0] rfl)
          · have c_10 := b2_t c_10
            refine lv_iconst (v := 1) hx hb dX5_kinds_44 (by decide) ?_
            refine lv_iload hx hb dX5_kinds_45 (lv_at hl 4 rfl) ?_
            refine lv_ishl hx hb dX5_kinds_47 ?_
            refine lv_goto (tgt := 52) hx hb dX5_kinds_48 (by decide) ?_
            refine lv_ior hx hb dX5_kinds_52 ?_
            refine lv_istore_n (lv' := [(3, .int ((setF (fun s => soP pc (upd kd c.toNatClampNeg (nI s)) et ro rb rv rc) 0 k) ||| (1 <<< ((nI k) &&& 31)))), (0, .ref (b 0)), (1, .int c), (2, .int (kd c.toNatClampNeg)), (4, .int (nI k))]) hx hb dX5_kinds_53 rfl hl (by decide) rfl (fun ls hl => ?_)
            refine lv_iinc (v := (nI (k + 1))) (lv' := [(4, .int (nI (k + 1))), (3, .int ((setF (fun s => soP pc (upd kd c.toNatClampNeg (nI s)) et ro rb rv rc) 0 k) ||| (1 <<< ((nI k) &&& 31)))), (0, .ref (b 0)), (1, .int c), (2, .int (kd c.toNatClampNeg))]) hx hb dX5_kinds_54 hl (k := 4) rfl (nI_add _ 1) (by decide) rfl (fun ls hl => ?_)
            refine lv_goto (tgt := 22) hx hb dX5_kinds_57 (by decide) ?_
            exact ih_6 (k + 1) (upd kd c.toNatClampNeg (nI k)) ((setF (fun s => soP pc (upd kd c.toNatClampNeg (nI s)) et ro rb rv rc) 0 k) ||| (1 <<< ((nI k) &&& 31))) (by omega) (fun _ => upd_upd _ _ _ _) (by first | exact setF_t0 (by assumption) | exact setF_h0 (by assumption)) (by omega) _ _ hP hD hS ls (lv_sub hl [2, 3, 4, 1, 0] rfl)
    exact key_5 _ 0 kd 0 (by omega) (fun _ => rfl) rfl (Nat.lt_succ_self _) _ _ hP hD hS ls (lv_sub hl [3, 4, 2, 1, 0] rfl)
  · have c_3 := b2_t c_3
    refine lv_iconst (v := (-1)) hx hb dX5_kinds_8 (by decide) ?_
    refine mi_ret (v := (-1)) hx hb hr hlk hP hD hS dX5_kinds_9 ?_
    exact ⟨by rw [kiR, if_neg c_3], rfl⟩
theorem iwX5_eatings_X5 : ∀ x ∈ wsX50, x ∈ wsX5_eatings := by decide +kernel
set_option maxRecDepth 100000 in
set_option maxHeartbeats 4000000 in
/-- X5_eatings -/
theorem c_X5_eatings (l : Launch) (D : va_G) (cI cJ cO : ClassId) (b : Nat → Nat) (fa : Int32) (h : Nat) (w : Nat) (pc : Int32) (br : Int32) (ra : Int32) (q1 : Int32) (q2 : Int32) (q3 : Int32) (q4 : Int32) (fw : Int32) (ea : Int32) (sn : Int32) (mo : Int32) (rc : Nat) (tr : Int32) (kd : Nat → Int32) (et : Nat → Int32) (ro : Nat → Int32) (rb : Nat → Int32) (rv : Nat → Int32) (c : Int32) (hn : h * w ≤ 16) (hro : ∀ k, k < rc → vp_in (ro k) 16) (hrc : rc ≤ 8) (hkd : ∀ k, k < 16 → kdOk (kd k)) (het : ∀ k, k < 16 → etOk (et k)) : MG l yX5_eatings wsX5_eatings 3 67 0 0 D [(cI, .int), (cJ, .long), (cO, .object "ShornHill$Sheet")] [.ref (b 0), .int c] [(b 0, .inr (5, [.int fa, .int (nI h), .int (nI w), .int pc, .int br, .ref (b 1), .ref (b 2), .int ra, .int q1, .int q2, .int q3, .int q4, .ref (b 3), .int fw, .int ea, .int sn, .ref (b 4), .ref (b 5), .ref (b 6), .int mo, .int (nI rc), .ref (b 7), .ref (b 8), .ref (b 9), .ref (b 10), .ref (b 11), .ref (b 12), .ref (b 13), .ref (b 14), .int tr])), (b 1, .inl (cI, 16, .inl kd)), (b 2, .inl (cI, 16, .inl et)), (b 7, .inl (cI, 8, .inl ro)), (b 8, .inl (cI, 8, .inl rb)), (b 9, .inl (cI, 8, .inl rv))] (QI D (fun (r : Int32) (w1 : va_W) => r = (eaR (h * w) pc kd et rc ro rb rv c) ∧ w1 = [(b 0, .inr (5, [.int fa, .int (nI h), .int (nI w), .int pc, .int br, .ref (b 1), .ref (b 2), .int ra, .int q1, .int q2, .int q3, .int q4, .ref (b 3), .int fw, .int ea, .int sn, .ref (b 4), .ref (b 5), .ref (b 6), .int mo, .int (nI rc), .ref (b 7), .ref (b 8), .ref (b 9), .ref (b 10), .ref (b 11), .ref (b 12), .ref (b 13), .ref (b 14), .int tr])), (b 1, .inl (cI, 16, .inl kd)), (b 2, .inl (cI, 16, .inl et)), (b 7, .inl (cI, 8, .inl ro)), (b 8, .inl (cI, 8, .inl rb)), (b 9, .inl (cI, 8, .inl rv))])) := by
  refine MG.of (cc := cX5_eatings) (maxL := 5) (ret := (some .int)) (by decide) rfl (Nat.le_of_ble_eq_true rfl) ?_
  intro P_ E_ S_ M_ B_ T_ K_ hx hb hml hr hts hown hlk hnm A hA hP hK hD hS ls hl
  have hl : lv_has ls 5 [(0, .ref (b 0)), (1, .int c)] := hl
  have hin5 : ∀ x ∈ u_ws RX5 TX5 30, x ∈ wsX5_eatings := iwX5_eatings_X5
  refine lv_aload_n hx hb dX5_eatings_0 rfl (lv_at hl 0 rfl) ?_
  refine lv_iload_n hx hb dX5_eatings_1 rfl (lv_at hl 1 rfl) ?_
  refine k_ri (run_RV (As := [.int c]) (rest := []) ⟨hx, hb, hml, hown, hts⟩ (c_X5_noGrass l D cI cJ cO b fa h w pc br ra q1 q2 q3 q4 fw ea sn mo rc tr kd c hn) (cwV 1 hts gX5_eatings_X5_noGrass rfl rfl rfl (by decide +kernel) ⟨Nat.le_of_ble_eq_true rfl, Nat.le_of_ble_eq_true rfl⟩) hP hK [0, 1] rfl rfl rfl rfl rfl hl.1 rfl (Nat.le_of_ble_eq_true rfl) dX5_eatings_2 ⟨Nat.le_refl _, Nat.le_refl _⟩) (fun r_1 q_2 => ?_)
  obtain rfl := q_2
  refine lv_if_eq (tgt := 10) hx hb dX5_eatings_5 (by decide) (fun c_3 => ?_) (fun c_3 => ?_)
  · have c_3 := Decidable.not_not.mp (b2_f c_3)
    refine lv_aload_n hx hb dX5_eatings_10 rfl (lv_at hl 0 rfl) ?_
    refine va_get (D := D) (ci := 5) (v := .ref (b 2)) (C := RX5) (T := TX5) (N := 30) hx hb hts hin5 hown hK.1 hP 0 rfl rfl 6 (by decide) (hts _ (List.mem_of_getElem? (i := 1) rfl)) (fun _ h9 => h9) rfl dX5_eatings_11 ?_
    refine lv_iload_n hx hb dX5_eatings_14 rfl (lv_at hl 1 rfl) ?_
    refine k_iald hx hb hK hP 2 0 rfl rfl (j := c.toNatClampNeg) (inN.vp c_3.1 (by omega)) rfl dX5_eatings_15 ?_
    refine lv_istore_n (lv' := [(2, .int (et c.toNatClampNeg)), (0, .ref (b 0)), (1, .int c)]) hx hb dX5_eatings_16 rfl hl (by decide) rfl (fun ls hl => ?_)
    refine lv_iconst (v := 0) hx hb dX5_eatings_17 (by decide) ?_
    refine lv_istore_n (lv' := [(3, .int 0), (2, .int (et c.toNatClampNeg)), (0, .ref (b 0)), (1, .int c)]) hx hb dX5_eatings_18 rfl hl (by decide) rfl (fun ls hl => ?_)
    refine lv_iconst (v := 0) hx hb dX5_eatings_19 (by decide) ?_
    refine lv_istore (lv' := [(4, .int 0), (3, .int 0), (2, .int (et c.toNatClampNeg)), (0, .ref (b 0)), (1, .int c)]) hx hb dX5_eatings_20 hl (by decide) rfl (fun ls hl => ?_)
    have key_5 : ∀ (n_4 : Nat) (k : Nat) (g : Nat → Int32) (x3_n_4 : Int32), (k ≤ 10) → (∀ v, upd g c.toNatClampNeg v = upd et c.toNatClampNeg v) → x3_n_4 = (setF (fun s => soP pc kd (upd et c.toNatClampNeg (nI s)) ro rb rv rc) 0 k) → 10 - k < n_4 → ∀ (H : Heap) (locs : List Loc), va_P D vwCl [(b 0, .inr (5, [.int fa, .int (nI h), .int (nI w), .int pc, .int br, .ref (b 1), .ref (b 2), .int ra, .int q1, .int q2, .int q3, .int q4, .ref (b 3), .int fw, .int ea, .int sn, .ref (b 4), .ref (b 5), .ref (b 6), .int mo, .int (nI rc), .ref (b 7), .ref (b 8), .ref (b 9), .ref (b 10), .ref (b 11), .ref (b 12), .ref (b 13), .ref (b 14), .int tr])), (b 1, .inl (cI, 16, .inl kd)), (b 2, .inl (cI, 16, .inl g)), (b 7, .inl (cI, 8, .inl ro)), (b 8, .inl (cI, 8, .inl rb)), (b 9, .inl (cI, 8, .inl rv))] H → va_D A [(b 0, .inr (5, [.int fa, .int (nI h), .int (nI w), .int pc, .int br, .ref (b 1), .ref (b 2), .int ra, .int q1, .int q2, .int q3, .int q4, .ref (b 3), .int fw, .int ea, .int sn, .ref (b 4), .ref (b 5), .ref (b 6), .int mo, .int (nI rc), .ref (b 7), .ref (b 8), .ref (b 9), .ref (b 10), .ref (b 11), .ref (b 12), .ref (b 13), .ref (b 14), .int tr])), (b 1, .inl (cI, 16, .inl kd)), (b 2, .inl (cI, 16, .inl g)), (b 7, .inl (cI, 8, .inl ro)), (b 8, .inl (cI, 8, .inl rb)), (b 9, .inl (cI, 8, .inl rv))] → va_S A S_.heap H locs → ∀ ls : Array Slot, lv_has ls 5 [(0, .ref (b 0)), (1, .int c), (2, .int (et c.toNatClampNeg)), (3, .int x3_n_4), (4, .int (nI k))] → W P_ l E_ ({ frames := 3, cells := 0, slots := 0, locals := 67 } : Room) S_ M_ (([.ref (b 0), .int c] : List Value).toArray) B_ T_ K_ H locs 0 0 (MQ B_ ((QI D (fun (r : Int32) (w1 : va_W) => r = (eaR (h * w) pc kd et rc ro rb rv c) ∧ w1 = [(b 0, .inr (5, [.int fa, .int (nI h), .int (nI w), .int pc, .int br, .ref (b 1), .ref (b 2), .int ra, .int q1, .int q2, .int q3, .int q4, .ref (b 3), .int fw, .int ea, .int sn, .ref (b 4), .ref (b 5), .ref (b 6), .int mo, .int (nI rc), .ref (b 7), .ref (b 8), .ref (b 9), .ref (b 10), .ref (b 11), .ref (b 12), .ref (b 13), .ref (b 14), .int tr])), (b 1, .inl (cI, 16, .inl kd)), (b 2, .inl (cI, 16, .inl et)), (b 7, .inl (cI, 8, .inl ro)), (b 8, .inl (cI, 8, .inl rb)), (b 9, .inl (cI, 8, .inl rv))])) A) (([.ref (b 0), .int c] : List Value).toArray) S_ 0 0 A) (F0 M_ 22 ls []) := by
      intro n_4
      induction n_4 with
      | zero =>
        intro k g x3_n_4 hk hg e_x3_n_4 hmu_n_4
        exact absurd hmu_n_4 (Nat.not_lt_zero _)
      | succ n_4 ih_6 =>
        intro k g x3_n_4 hk hg e_x3_n_4 hmu_n_4 H locs hP hD hS ls hl
        subst e_x3_n_4
        have hl : lv_has ls 5 [(0, .ref (b 0)), (1, .int c), (2, .int (et c.toNatClampNeg)), (3, .int (setF (fun s => soP pc kd (upd et c.toNatClampNeg (nI s)) ro rb rv rc) 0 k)), (4, .int (nI k))] := hl
        have hP : va_P D vwCl [(b 0, .inr (5, [.int fa, .int (nI h), .int (nI w), .int pc, .int br, .ref (b 1), .ref (b 2), .int ra, .int q1, .int q2, .int q3, .int q4, .ref (b 3), .int fw, .int ea, .int sn, .ref (b 4), .ref (b 5), .ref (b 6), .int mo, .int (nI rc), .ref (b 7), .ref (b 8), .ref (b 9), .ref (b 10), .ref (b 11), .ref (b 12), .ref (b 13), .ref (b 14), .int tr])), (b 1, .inl (cI, 16, .inl kd)), (b 2, .inl (cI, 16, .inl g)), (b 7, .inl (cI, 8, .inl ro)), (b 8, .inl (cI, 8, .inl rb)), (b 9, .inl (cI, 8, .inl rv))] H := hP
        have hD : va_D A [(b 0, .inr (5, [.int fa, .int (nI h), .int (nI w), .int pc, .int br, .ref (b 1), .ref (b 2), .int ra, .int q1, .int q2, .int q3, .int q4, .ref (b 3), .int fw, .int ea, .int sn, .ref (b 4), .ref (b 5), .ref (b 6), .int mo, .int (nI rc), .ref (b 7), .ref (b 8), .ref (b 9), .ref (b 10), .ref (b 11), .ref (b 12), .ref (b 13), .ref (b 14), .int tr])), (b 1, .inl (cI, 16, .inl kd)), (b 2, .inl (cI, 16, .inl g)), (b 7, .inl (cI, 8, .inl ro)), (b 8, .inl (cI, 8, .inl rb)), (b 9, .inl (cI, 8, .inl rv))] := hD
        refine lv_iload hx hb dX5_eatings_22 (lv_at hl 4 rfl) ?_
        refine lv_bipush (v := 10) hx hb dX5_eatings_24 (by decide) ?_
        refine lv_icmp_ge (tgt := 61) hx hb dX5_eatings_26 (by decide) (fun c_7 => ?_) (fun c_7 => ?_)
        · have c_7 : 10 ≤ k := (nI_leI (a := 10) (b := k) (by omega) (by omega)).mp c_7
          refine lv_aload_n hx hb dX5_eatings_61 rfl (lv_at hl 0 rfl) ?_
          refine va_get (D := D) (ci := 5) (v := .ref (b 2)) (C := RX5) (T := TX5) (N := 30) hx hb hts hin5 hown hK.1 hP 0 rfl rfl 6 (by decide) (hts _ (List.mem_of_getElem? (i := 1) rfl)) (fun _ h9 => h9) rfl dX5_eatings_62 ?_
          refine lv_iload_n hx hb dX5_eatings_65 rfl (lv_at hl 1 rfl) ?_
          refine lv_iload_n hx hb dX5_eatings_66 rfl (lv_at hl 2 rfl) ?_
          refine k_iast hx hb hK hP hD hS 2 0 rfl rfl (j := c.toNatClampNeg) (inN.vp c_3.1 (by omega)) rfl dX5_eatings_67 (fun H locs hP hD hS => ?_)
          have hP : va_P D vwCl [(b 0, .inr (5, [.int fa, .int (nI h), .int (nI w), .int pc, .int br, .ref (b 1), .ref (b 2), .int ra, .int q1, .int q2, .int q3, .int q4, .ref (b 3), .int fw, .int ea, .int sn, .ref (b 4), .ref (b 5), .ref (b 6), .int mo, .int (nI rc), .ref (b 7), .ref (b 8), .ref (b 9), .ref (b 10), .ref (b 11), .ref (b 12), .ref (b 13), .ref (b 14), .int tr])), (b 1, .inl (cI, 16, .inl kd)), (b 2, .inl (cI, 16, .inl (upd g c.toNatClampNeg (et c.toNatClampNeg)))), (b 7, .inl (cI, 8, .inl ro)), (b 8, .inl (cI, 8, .inl rb)), (b 9, .inl (cI, 8, .inl rv))] H := hP
          have hD : va_D A [(b 0, .inr (5, [.int fa, .int (nI h), .int (nI w), .int pc, .int br, .ref (b 1), .ref (b 2), .int ra, .int q1, .int q2, .int q3, .int q4, .ref (b 3), .int fw, .int ea, .int sn, .ref (b 4), .ref (b 5), .ref (b 6), .int mo, .int (nI rc), .ref (b 7), .ref (b 8), .ref (b 9), .ref (b 10), .ref (b 11), .ref (b 12), .ref (b 13), .ref (b 14), .int tr])), (b 1, .inl (cI, 16, .inl kd)), (b 2, .inl (cI, 16, .inl (upd g c.toNatClampNeg (et c.toNatClampNeg)))), (b 7, .inl (cI, 8, .inl ro)), (b 8, .inl (cI, 8, .inl rb)), (b 9, .inl (cI, 8, .inl rv))] := hD
          rw [show (upd g c.toNatClampNeg (et c.toNatClampNeg)) = et from (by rw [hg]; exact upd_self _ _)] at hP hD
          refine lv_iload_n hx hb dX5_eatings_68 rfl (lv_at hl 3 rfl) ?_
          refine mi_ret (v := (setF (fun s => soP pc kd (upd et c.toNatClampNeg (nI s)) ro rb rv rc) 0 k)) hx hb hr hlk hP hD hS dX5_eatings_69 ?_
          refine ⟨?_, rfl⟩
          rw [eaR, if_pos c_3, show k = 10 by omega]
        · have c_7 : k < 10 := Nat.lt_of_not_le (fun z => c_7 ((nI_leI (a := 10) (b := k) (by omega) (by omega)).mpr z))
          refine lv_aload_n hx hb dX5_eatings_29 rfl (lv_at hl 0 rfl) ?_
          refine va_get (D := D) (ci := 5) (v := .ref (b 2)) (C := RX5) (T := TX5) (N := 30) hx hb hts hin5 hown hK.1 hP 0 rfl rfl 6 (by decide) (hts _ (List.mem_of_getElem? (i := 1) rfl)) (fun _ h9 => h9) rfl dX5_eatings_30 ?_
          refine lv_iload_n hx hb dX5_eatings_33 rfl (lv_at hl 1 rfl) ?_
          refine lv_iload hx hb dX5_eatings_34 (lv_at hl 4 rfl) ?_
          refine k_iast hx hb hK hP hD hS 2 0 rfl rfl (j := c.toNatClampNeg) (inN.vp c_3.1 (by omega)) rfl dX5_eatings_36 (fun H locs hP hD hS => ?_)
          have hP : va_P D vwCl [(b 0, .inr (5, [.int fa, .int (nI h), .int (nI w), .int pc, .int br, .ref (b 1), .ref (b 2), .int ra, .int q1, .int q2, .int q3, .int q4, .ref (b 3), .int fw, .int ea, .int sn, .ref (b 4), .ref (b 5), .ref (b 6), .int mo, .int (nI rc), .ref (b 7), .ref (b 8), .ref (b 9), .ref (b 10), .ref (b 11), .ref (b 12), .ref (b 13), .ref (b 14), .int tr])), (b 1, .inl (cI, 16, .inl kd)), (b 2, .inl (cI, 16, .inl (upd g c.toNatClampNeg (nI k)))), (b 7, .inl (cI, 8, .inl ro)), (b 8, .inl (cI, 8, .inl rb)), (b 9, .inl (cI, 8, .inl rv))] H := hP
          have hD : va_D A [(b 0, .inr (5, [.int fa, .int (nI h), .int (nI w), .int pc, .int br, .ref (b 1), .ref (b 2), .int ra, .int q1, .int q2, .int q3, .int q4, .ref (b 3), .int fw, .int ea, .int sn, .ref (b 4), .ref (b 5), .ref (b 6), .int mo, .int (nI rc), .ref (b 7), .ref (b 8), .ref (b 9), .ref (b 10), .ref (b 11), .ref (b 12), .ref (b 13), .ref (b 14), .int tr])), (b 1, .inl (cI, 16, .inl kd)), (b 2, .inl (cI, 16, .inl (upd g c.toNatClampNeg (nI k)))), (b 7, .inl (cI, 8, .inl ro)), (b 8, .inl (cI, 8, .inl rb)), (b 9, .inl (cI, 8, .inl rv))] := hD
          rw [show (upd g c.toNatClampNeg (nI k)) = (upd et c.toNatClampNeg (nI k)) from (hg _)] at hP hD
          refine lv_iload_n hx hb dX5_eatings_37 rfl (lv_at hl 3 rfl) ?_
          refine lv_aload_n hx hb dX5_eatings_38 rfl (lv_at hl 0 rfl) ?_
          refine k_ri (run_RV (As := []) (rest := [.int (setF (fun s => soP pc kd (upd et c.toNatClampNeg (nI s)) ro rb rv rc) 0 k)]) ⟨hx, hb, hml, hown, hts⟩ (c_X5_areSo l D cI cJ cO b fa h w pc br ra q1 q2 q3 q4 fw ea sn mo rc tr kd (upd et c.toNatClampNeg (nI k)) ro rb rv hro hrc hkd (et_up het (by omega))) (cwV 0 hts gX5_eatings_X5_areSo rfl rfl rfl (by decide +kernel) ⟨Nat.le_of_ble_eq_true rfl, Nat.le_of_ble_eq_true rfl⟩) hP hK [0, 1, 2, 3, 4, 5] rfl rfl rfl rfl rfl hl.1 rfl (Nat.le_of_ble_eq_true rfl) dX5_eatings_39 ⟨Nat.le_refl _, Nat.le_refl _⟩) (fun r_8 q_9 => ?_)
          obtain rfl := q_9
          refine lv_if_eq (tgt := 52) hx hb dX5_eatings_42 (by decide) (fun c_10 => ?_) (fun c_10 => ?_)
          · have c_10 := b2_f c_10
            refine lv_iconst (v := 0) hx hb dX5_eatings_52 (by decide) ?_
            refine lv_ior hx hb dX5_eatings_53 ?_
            refine lv_istore_n (lv' := [(3, .int ((setF (fun s => soP pc kd (upd et c.toNatClampNeg (nI s)) ro rb rv rc) 0 k) ||| 0)), (0, .ref (b 0)), (1, .int c), (2, .int (et c.toNatClampNeg)), (4, .int (nI k))]) hx hb dX5_eatings_54 rfl hl (by decide) rfl (fun ls hl => ?_)
            refine lv_iinc (v := (nI (k + 1))) (lv' := [(4, .int (nI (k + 1))), (3, .int ((setF (fun s => soP pc kd (upd et c.toNatClampNeg (nI s)) ro rb rv rc) 0 k) ||| 0)), (0, .ref (b 0)), (1, .int c), (2, .int (et c.toNatClampNeg))]) hx hb dX5_eatings_55 hl (k := 4) rfl (nI_add _ 1) (by decide) rfl (fun ls hl => ?_)
            refine lv_goto (tgt := 22) hx hb dX5_eatings_58 (by decide) ?_
            exact ih_6 (k + 1) (upd et c.toNatClampNeg (nI k)) ((setF (fun s => soP pc kd (upd et c.toNatClampNeg (nI s)) ro rb rv rc) 0 k) ||| 0) (by omega) (fun _ => upd_upd _ _ _ _) (by first | exact setF_t0 (by assumption) | exact setF_h0 (by assumption)) (by omega) _ _ hP hD hS ls (lv_sub hl [2, 3, 4, 1, 0] rfl)
          · have c_10 := b2_t c_10
            refine lv_iconst (v := 1) hx hb dX5_eatings_45 (by decide) ?_
            refine lv_iload hx hb dX5_eatings_46 (lv_at hl 4 rfl) ?_
            refine lv_ishl hx hb dX5_eatings_48 ?_
            refine lv_goto (tgt := 53) hx hb dX5_eatings_49 (by decide) ?_
            refine lv_ior hx hb dX5_eatings_53 ?_
            refine lv_istore_n (lv' := [(3, .int ((setF (fun s => soP pc kd (upd et c.toNatClampNeg (nI s)) ro rb rv rc) 0 k) ||| (1 <<< ((nI k) &&& 31)))), (0, .ref (b 0)), (1, .int c), (2, .int (et c.toNatClampNeg)), (4, .int (nI k))]) hx hb dX5_eatings_54 rfl hl (by decide) rfl (fun ls hl => ?_)
            refine lv_iinc (v := (nI (k + 1))) (lv' := [(4, .int (nI (k + 1))), (3, .int ((setF (fun s => soP pc kd (upd et c.toNatClampNeg (nI s)) ro rb rv rc) 0 k) ||| (1 <<< ((nI k) &&& 31)))), (0, .ref (b 0)), (1, .int c), (2, .int (et c.toNatClampNeg))]) hx hb dX5_eatings_55 hl (k := 4) rfl (nI_add _ 1) (by decide) rfl (fun ls hl => ?_)
            refine lv_goto (tgt := 22) hx hb dX5_eatings_58 (by decide) ?_
            exact ih_6 (k + 1) (upd et c.toNatClampNeg (nI k)) ((setF (fun s => soP pc kd (upd et c.toNatClampNeg (nI s)) ro rb rv rc) 0 k) ||| (1 <<< ((nI k) &&& 31))) (by omega) (fun _ => upd_upd _ _ _ _) (by first | exact setF_t0 (by assumption) | exact setF_h0 (by assumption)) (by omega) _ _ hP hD hS ls (lv_sub hl [2, 3, 4, 1, 0] rfl)
    exact key_5 _ 0 et 0 (by omega) (fun _ => rfl) rfl (Nat.lt_succ_self _) _ _ hP hD hS ls (lv_sub hl [3, 4, 2, 1, 0] rfl)
  · have c_3 := b2_t c_3
    refine lv_iconst (v := (-1)) hx hb dX5_eatings_8 (by decide) ?_
    refine mi_ret (v := (-1)) hx hb hr hlk hP hD hS dX5_eatings_9 ?_
    exact ⟨by rw [eaR, if_neg c_3], rfl⟩
theorem iwX5_paces_X5 : ∀ x ∈ wsX50, x ∈ wsX5_paces := by decide +kernel
set_option maxRecDepth 100000 in
set_option maxHeartbeats 4000000 in
/-- X5_paces -/
theorem c_X5_paces (l : Launch) (D : va_G) (cI cJ cO : ClassId) (b : Nat → Nat) (fa : Int32) (h : Nat) (w : Nat) (pc : Int32) (br : Int32) (ra : Int32) (q1 : Int32) (q2 : Int32) (q3 : Int32) (q4 : Int32) (fw : Int32) (ea : Int32) (sn : Int32) (mo : Int32) (rc : Nat) (tr : Int32) (kd : Nat → Int32) (et : Nat → Int32) (ro : Nat → Int32) (rb : Nat → Int32) (rv : Nat → Int32) (hh : h ≤ 4) (hro : ∀ k, k < rc → vp_in (ro k) 16) (hrc : rc ≤ 8) (hkd : ∀ k, k < 16 → kdOk (kd k)) (het : ∀ k, k < 16 → etOk (et k)) : MG l yX5_paces wsX5_paces 3 67 0 0 D [(cI, .int), (cJ, .long), (cO, .object "ShornHill$Sheet")] [.ref (b 0)] [(b 0, .inr (5, [.int fa, .int (nI h), .int (nI w), .int pc, .int br, .ref (b 1), .ref (b 2), .int ra, .int q1, .int q2, .int q3, .int q4, .ref (b 3), .int fw, .int ea, .int sn, .ref (b 4), .ref (b 5), .ref (b 6), .int mo, .int (nI rc), .ref (b 7), .ref (b 8), .ref (b 9), .ref (b 10), .ref (b 11), .ref (b 12), .ref (b 13), .ref (b 14), .int tr])), (b 1, .inl (cI, 16, .inl kd)), (b 2, .inl (cI, 16, .inl et)), (b 7, .inl (cI, 8, .inl ro)), (b 8, .inl (cI, 8, .inl rb)), (b 9, .inl (cI, 8, .inl rv))] (QI D (fun (r : Int32) (w1 : va_W) => r = (psR h kd et rc ro rb rv) ∧ w1 = [(b 0, .inr (5, [.int fa, .int (nI h), .int (nI w), .int pc, .int br, .ref (b 1), .ref (b 2), .int ra, .int q1, .int q2, .int q3, .int q4, .ref (b 3), .int fw, .int ea, .int sn, .ref (b 4), .ref (b 5), .ref (b 6), .int mo, .int (nI rc), .ref (b 7), .ref (b 8), .ref (b 9), .ref (b 10), .ref (b 11), .ref (b 12), .ref (b 13), .ref (b 14), .int tr])), (b 1, .inl (cI, 16, .inl kd)), (b 2, .inl (cI, 16, .inl et)), (b 7, .inl (cI, 8, .inl ro)), (b 8, .inl (cI, 8, .inl rb)), (b 9, .inl (cI, 8, .inl rv))])) := by
  refine MG.of (cc := cX5_paces) (maxL := 4) (ret := (some .int)) (by decide) rfl (Nat.le_of_ble_eq_true rfl) ?_
  intro P_ E_ S_ M_ B_ T_ K_ hx hb hml hr hts hown hlk hnm A hA hP hK hD hS ls hl
  have hl : lv_has ls 4 [(0, .ref (b 0))] := hl
  have hin5 : ∀ x ∈ u_ws RX5 TX5 30, x ∈ wsX5_paces := iwX5_paces_X5
  refine lv_aload_n hx hb dX5_paces_0 rfl (lv_at hl 0 rfl) ?_
  refine va_get (D := D) (ci := 5) (v := .int (nI h)) (C := RX5) (T := TX5) (N := 30) hx hb hts hin5 hown hK.1 hP 0 rfl rfl 1 (by decide) (hts _ (List.mem_of_getElem? (i := 1) rfl)) (fun _ h9 => h9) rfl dX5_paces_1 ?_
  refine lv_if_ne (tgt := 10) hx hb dX5_paces_4 (by decide) (fun c_1 => ?_) (fun c_1 => ?_)
  · have c_1 : ¬ h = 0 := fun z => c_1 ((nI_eq (a := h) (b := 0) (by omega) (by omega)).mpr z)
    refine lv_aload_n hx hb dX5_paces_10 rfl (lv_at hl 0 rfl) ?_
    refine va_get (D := D) (ci := 5) (v := .int pc) (C := RX5) (T := TX5) (N := 30) hx hb hts hin5 hown hK.1 hP 0 rfl rfl 3 (by decide) (hts _ (List.mem_of_getElem? (i := 2) rfl)) (fun _ h9 => h9) rfl dX5_paces_11 ?_
    refine lv_istore_n (lv' := [(1, .int pc), (0, .ref (b 0))]) hx hb dX5_paces_14 rfl hl (by decide) rfl (fun ls hl => ?_)
    refine lv_iconst (v := 0) hx hb dX5_paces_15 (by decide) ?_
    refine lv_istore_n (lv' := [(2, .int 0), (1, .int pc), (0, .ref (b 0))]) hx hb dX5_paces_16 rfl hl (by decide) rfl (fun ls hl => ?_)
    refine lv_iconst (v := 1) hx hb dX5_paces_17 (by decide) ?_
    refine lv_istore_n (lv' := [(3, .int 1), (2, .int 0), (1, .int pc), (0, .ref (b 0))]) hx hb dX5_paces_18 rfl hl (by decide) rfl (fun ls hl => ?_)
    have key_3 : ∀ (n_2 : Nat) (k : Nat) (x : Int32) (x2_n_2 : Int32), (k ≤ 3) → x2_n_2 = (setF (fun s => soP (nI s) kd et ro rb rv rc) 1 k) → 3 - k < n_2 → ∀ (H : Heap) (locs : List Loc), va_P D vwCl [(b 0, .inr (5, [.int fa, .int (nI h), .int (nI w), .int x, .int br, .ref (b 1), .ref (b 2), .int ra, .int q1, .int q2, .int q3, .int q4, .ref (b 3), .int fw, .int ea, .int sn, .ref (b 4), .ref (b 5), .ref (b 6), .int mo, .int (nI rc), .ref (b 7), .ref (b 8), .ref (b 9), .ref (b 10), .ref (b 11), .ref (b 12), .ref (b 13), .ref (b 14), .int tr])), (b 1, .inl (cI, 16, .inl kd)), (b 2, .inl (cI, 16, .inl et)), (b 7, .inl (cI, 8, .inl ro)), (b 8, .inl (cI, 8, .inl rb)), (b 9, .inl (cI, 8, .inl rv))] H → va_D A [(b 0, .inr (5, [.int fa, .int (nI h), .int (nI w), .int x, .int br, .ref (b 1), .ref (b 2), .int ra, .int q1, .int q2, .int q3, .int q4, .ref (b 3), .int fw, .int ea, .int sn, .ref (b 4), .ref (b 5), .ref (b 6), .int mo, .int (nI rc), .ref (b 7), .ref (b 8), .ref (b 9), .ref (b 10), .ref (b 11), .ref (b 12), .ref (b 13), .ref (b 14), .int tr])), (b 1, .inl (cI, 16, .inl kd)), (b 2, .inl (cI, 16, .inl et)), (b 7, .inl (cI, 8, .inl ro)), (b 8, .inl (cI, 8, .inl rb)), (b 9, .inl (cI, 8, .inl rv))] → va_S A S_.heap H locs → ∀ ls : Array Slot, lv_has ls 4 [(0, .ref (b 0)), (1, .int pc), (2, .int x2_n_2), (3, .int (nI (1 + k)))] → W P_ l E_ ({ frames := 3, cells := 0, slots := 0, locals := 67 } : Room) S_ M_ (([.ref (b 0)] : List Value).toArray) B_ T_ K_ H locs 0 0 (MQ B_ ((QI D (fun (r : Int32) (w1 : va_W) => r = (psR h kd et rc ro rb rv) ∧ w1 = [(b 0, .inr (5, [.int fa, .int (nI h), .int (nI w), .int pc, .int br, .ref (b 1), .ref (b 2), .int ra, .int q1, .int q2, .int q3, .int q4, .ref (b 3), .int fw, .int ea, .int sn, .ref (b 4), .ref (b 5), .ref (b 6), .int mo, .int (nI rc), .ref (b 7), .ref (b 8), .ref (b 9), .ref (b 10), .ref (b 11), .ref (b 12), .ref (b 13), .ref (b 14), .int tr])), (b 1, .inl (cI, 16, .inl kd)), (b 2, .inl (cI, 16, .inl et)), (b 7, .inl (cI, 8, .inl ro)), (b 8, .inl (cI, 8, .inl rb)), (b 9, .inl (cI, 8, .inl rv))])) A) (([.ref (b 0)] : List Value).toArray) S_ 0 0 A) (F0 M_ 19 ls []) := by
      intro n_2
      induction n_2 with
      | zero =>
        intro k x x2_n_2 hk e_x2_n_2 hmu_n_2
        exact absurd hmu_n_2 (Nat.not_lt_zero _)
      | succ n_2 ih_4 =>
        intro k x x2_n_2 hk e_x2_n_2 hmu_n_2 H locs hP hD hS ls hl
        subst e_x2_n_2
        have hl : lv_has ls 4 [(0, .ref (b 0)), (1, .int pc), (2, .int (setF (fun s => soP (nI s) kd et ro rb rv rc) 1 k)), (3, .int (nI (1 + k)))] := hl
        have hP : va_P D vwCl [(b 0, .inr (5, [.int fa, .int (nI h), .int (nI w), .int x, .int br, .ref (b 1), .ref (b 2), .int ra, .int q1, .int q2, .int q3, .int q4, .ref (b 3), .int fw, .int ea, .int sn, .ref (b 4), .ref (b 5), .ref (b 6), .int mo, .int (nI rc), .ref (b 7), .ref (b 8), .ref (b 9), .ref (b 10), .ref (b 11), .ref (b 12), .ref (b 13), .ref (b 14), .int tr])), (b 1, .inl (cI, 16, .inl kd)), (b 2, .inl (cI, 16, .inl et)), (b 7, .inl (cI, 8, .inl ro)), (b 8, .inl (cI, 8, .inl rb)), (b 9, .inl (cI, 8, .inl rv))] H := hP
        have hD : va_D A [(b 0, .inr (5, [.int fa, .int (nI h), .int (nI w), .int x, .int br, .ref (b 1), .ref (b 2), .int ra, .int q1, .int q2, .int q3, .int q4, .ref (b 3), .int fw, .int ea, .int sn, .ref (b 4), .ref (b 5), .ref (b 6), .int mo, .int (nI rc), .ref (b 7), .ref (b 8), .ref (b 9), .ref (b 10), .ref (b 11), .ref (b 12), .ref (b 13), .ref (b 14), .int tr])), (b 1, .inl (cI, 16, .inl kd)), (b 2, .inl (cI, 16, .inl et)), (b 7, .inl (cI, 8, .inl ro)), (b 8, .inl (cI, 8, .inl rb)), (b 9, .inl (cI, 8, .inl rv))] := hD
        refine lv_iload_n hx hb dX5_paces_19 rfl (lv_at hl 3 rfl) ?_
        refine lv_iconst (v := 4) hx hb dX5_paces_20 (by decide) ?_
        refine lv_icmp_ge (tgt := 52) hx hb dX5_paces_21 (by decide) (fun c_5 => ?_) (fun c_5 => ?_)
        · have c_5 : 4 ≤ 1 + k := (nI_leI (a := 4) (b := 1 + k) (by omega) (by omega)).mp c_5
          refine lv_aload_n hx hb dX5_paces_52 rfl (lv_at hl 0 rfl) ?_
          refine lv_iload_n hx hb dX5_paces_53 rfl (lv_at hl 1 rfl) ?_
          refine va_put (D := D) (ci := 5) (v := .int pc) (ty := .int) (C := RX5) (T := TX5) (N := 30) hx hb hts hin5 tyX5 tyX5_ok nmX5 hown hK.1 hP hD hS 0 rfl rfl 3 (by decide) (hts _ (List.mem_of_getElem? (i := 2) rfl)) (fun _ h9 => h9) rfl (by decide +kernel) rfl rfl (Nat.le_of_ble_eq_true rfl) dX5_paces_54 (fun H locs hP hD hS => ?_)
          have hP : va_P D vwCl [(b 0, .inr (5, [.int fa, .int (nI h), .int (nI w), .int pc, .int br, .ref (b 1), .ref (b 2), .int ra, .int q1, .int q2, .int q3, .int q4, .ref (b 3), .int fw, .int ea, .int sn, .ref (b 4), .ref (b 5), .ref (b 6), .int mo, .int (nI rc), .ref (b 7), .ref (b 8), .ref (b 9), .ref (b 10), .ref (b 11), .ref (b 12), .ref (b 13), .ref (b 14), .int tr])), (b 1, .inl (cI, 16, .inl kd)), (b 2, .inl (cI, 16, .inl et)), (b 7, .inl (cI, 8, .inl ro)), (b 8, .inl (cI, 8, .inl rb)), (b 9, .inl (cI, 8, .inl rv))] H := hP
          have hD : va_D A [(b 0, .inr (5, [.int fa, .int (nI h), .int (nI w), .int pc, .int br, .ref (b 1), .ref (b 2), .int ra, .int q1, .int q2, .int q3, .int q4, .ref (b 3), .int fw, .int ea, .int sn, .ref (b 4), .ref (b 5), .ref (b 6), .int mo, .int (nI rc), .ref (b 7), .ref (b 8), .ref (b 9), .ref (b 10), .ref (b 11), .ref (b 12), .ref (b 13), .ref (b 14), .int tr])), (b 1, .inl (cI, 16, .inl kd)), (b 2, .inl (cI, 16, .inl et)), (b 7, .inl (cI, 8, .inl ro)), (b 8, .inl (cI, 8, .inl rb)), (b 9, .inl (cI, 8, .inl rv))] := hD
          refine lv_iload_n hx hb dX5_paces_57 rfl (lv_at hl 2 rfl) ?_
          refine mi_ret (v := (setF (fun s => soP (nI s) kd et ro rb rv rc) 1 k)) hx hb hr hlk hP hD hS dX5_paces_58 ?_
          refine ⟨?_, rfl⟩
          rw [psR, if_neg (show ¬ h = 0 by omega), show k = 3 by omega]
        · have c_5 : 1 + k < 4 := Nat.lt_of_not_le (fun z => c_5 ((nI_leI (a := 4) (b := 1 + k) (by omega) (by omega)).mpr z))
          refine lv_aload_n hx hb dX5_paces_24 rfl (lv_at hl 0 rfl) ?_
          refine lv_iload_n hx hb dX5_paces_25 rfl (lv_at hl 3 rfl) ?_
          refine va_put (D := D) (ci := 5) (v := .int (nI (1 + k))) (ty := .int) (C := RX5) (T := TX5) (N := 30) hx hb hts hin5 tyX5 tyX5_ok nmX5 hown hK.1 hP hD hS 0 rfl rfl 3 (by decide) (hts _ (List.mem_of_getElem? (i := 2) rfl)) (fun _ h9 => h9) rfl (by decide +kernel) rfl rfl (Nat.le_of_ble_eq_true rfl) dX5_paces_26 (fun H locs hP hD hS => ?_)
          have hP : va_P D vwCl [(b 0, .inr (5, [.int fa, .int (nI h), .int (nI w), .int (nI (1 + k)), .int br, .ref (b 1), .ref (b 2), .int ra, .int q1, .int q2, .int q3, .int q4, .ref (b 3), .int fw, .int ea, .int sn, .ref (b 4), .ref (b 5), .ref (b 6), .int mo, .int (nI rc), .ref (b 7), .ref (b 8), .ref (b 9), .ref (b 10), .ref (b 11), .ref (b 12), .ref (b 13), .ref (b 14), .int tr])), (b 1, .inl (cI, 16, .inl kd)), (b 2, .inl (cI, 16, .inl et)), (b 7, .inl (cI, 8, .inl ro)), (b 8, .inl (cI, 8, .inl rb)), (b 9, .inl (cI, 8, .inl rv))] H := hP
          have hD : va_D A [(b 0, .inr (5, [.int fa, .int (nI h), .int (nI w), .int (nI (1 + k)), .int br, .ref (b 1), .ref (b 2), .int ra, .int q1, .int q2, .int q3, .int q4, .ref (b 3), .int fw, .int ea, .int sn, .ref (b 4), .ref (b 5), .ref (b 6), .int mo, .int (nI rc), .ref (b 7), .ref (b 8), .ref (b 9), .ref (b 10), .ref (b 11), .ref (b 12), .ref (b 13), .ref (b 14), .int tr])), (b 1, .inl (cI, 16, .inl kd)), (b 2, .inl (cI, 16, .inl et)), (b 7, .inl (cI, 8, .inl ro)), (b 8, .inl (cI, 8, .inl rb)), (b 9, .inl (cI, 8, .inl rv))] := hD
          refine lv_iload_n hx hb dX5_paces_29 rfl (lv_at hl 2 rfl) ?_
          refine lv_aload_n hx hb dX5_paces_30 rfl (lv_at hl 0 rfl) ?_
          refine k_ri (run_RV (As := []) (rest := [.int (setF (fun s => soP (nI s) kd et ro rb rv rc) 1 k)]) ⟨hx, hb, hml, hown, hts⟩ (c_X5_areSo l D cI cJ cO b fa h w (nI (1 + k)) br ra q1 q2 q3 q4 fw ea sn mo rc tr kd et ro rb rv hro hrc hkd het) (cwV 0 hts gX5_paces_X5_areSo rfl rfl rfl (by decide +kernel) ⟨Nat.le_of_ble_eq_true rfl, Nat.le_of_ble_eq_true rfl⟩) hP hK [0, 1, 2, 3, 4, 5] rfl rfl rfl rfl rfl hl.1 rfl (Nat.le_of_ble_eq_true rfl) dX5_paces_31 ⟨Nat.le_refl _, Nat.le_refl _⟩) (fun r_6 q_7 => ?_)
          obtain rfl := q_7
          refine lv_if_eq (tgt := 43) hx hb dX5_paces_34 (by decide) (fun c_8 => ?_) (fun c_8 => ?_)
          · have c_8 := b2_f c_8
            refine lv_iconst (v := 0) hx hb dX5_paces_43 (by decide) ?_
            refine lv_ior hx hb dX5_paces_44 ?_
            refine lv_istore_n (lv' := [(2, .int ((setF (fun s => soP (nI s) kd et ro rb rv rc) 1 k) ||| 0)), (0, .ref (b 0)), (1, .int pc), (3, .int (nI (1 + k)))]) hx hb dX5_paces_45 rfl hl (by decide) rfl (fun ls hl => ?_)
            refine lv_iinc (v := (nI ((1 + k) + 1))) (lv' := [(3, .int (nI ((1 + k) + 1))), (2, .int ((setF (fun s => soP (nI s) kd et ro rb rv rc) 1 k) ||| 0)), (0, .ref (b 0)), (1, .int pc)]) hx hb dX5_paces_46 hl (k := 3) rfl (nI_add _ 1) (by decide) rfl (fun ls hl => ?_)
            refine lv_goto (tgt := 19) hx hb dX5_paces_49 (by decide) ?_
            exact ih_4 (k + 1) (nI (1 + k)) ((setF (fun s => soP (nI s) kd et ro rb rv rc) 1 k) ||| 0) (by omega) (by first | exact setF_t (by assumption) | exact setF_h (by assumption)) (by omega) _ _ hP hD hS ls (lv_sub hl [2, 3, 1, 0] rfl)
          · have c_8 := b2_t c_8
            refine lv_iconst (v := 1) hx hb dX5_paces_37 (by decide) ?_
            refine lv_iload_n hx hb dX5_paces_38 rfl (lv_at hl 3 rfl) ?_
            refine lv_ishl hx hb dX5_paces_39 ?_
            refine lv_goto (tgt := 44) hx hb dX5_paces_40 (by decide) ?_
            refine lv_ior hx hb dX5_paces_44 ?_
            refine lv_istore_n (lv' := [(2, .int ((setF (fun s => soP (nI s) kd et ro rb rv rc) 1 k) ||| (1 <<< ((nI (1 + k)) &&& 31)))), (0, .ref (b 0)), (1, .int pc), (3, .int (nI (1 + k)))]) hx hb dX5_paces_45 rfl hl (by decide) rfl (fun ls hl => ?_)
            refine lv_iinc (v := (nI ((1 + k) + 1))) (lv' := [(3, .int (nI ((1 + k) + 1))), (2, .int ((setF (fun s => soP (nI s) kd et ro rb rv rc) 1 k) ||| (1 <<< ((nI (1 + k)) &&& 31)))), (0, .ref (b 0)), (1, .int pc)]) hx hb dX5_paces_46 hl (k := 3) rfl (nI_add _ 1) (by decide) rfl (fun ls hl => ?_)
            refine lv_goto (tgt := 19) hx hb dX5_paces_49 (by decide) ?_
            exact ih_4 (k + 1) (nI (1 + k)) ((setF (fun s => soP (nI s) kd et ro rb rv rc) 1 k) ||| (1 <<< ((nI (1 + k)) &&& 31))) (by omega) (by first | exact setF_t (by assumption) | exact setF_h (by assumption)) (by omega) _ _ hP hD hS ls (lv_sub hl [2, 3, 1, 0] rfl)
    exact key_3 _ 0 pc 0 (by omega) rfl (Nat.lt_succ_self _) _ _ hP hD hS ls (lv_sub hl [3, 2, 1, 0] rfl)
  · have c_1 : h = 0 := (nI_eq (a := h) (b := 0) (by omega) (by omega)).mp c_1
    refine lv_bipush (v := (-3)) hx hb dX5_paces_7 (by decide) ?_
    refine mi_ret (v := (-3)) hx hb hr hlk hP hD hS dX5_paces_9 ?_
    exact ⟨by rw [psR, if_pos (show h = 0 by omega)], rfl⟩
