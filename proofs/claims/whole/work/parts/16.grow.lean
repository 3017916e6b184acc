theorem iwX0_grow_X0 : ∀ x ∈ wsX00, x ∈ wsX0_grow := by decide +kernel
set_option maxRecDepth 100000 in
set_option maxHeartbeats 4000000 in
/-- X0_grow -/
theorem c_X0_grow (l : Launch) (D : va_G) (cI cJ cO : ClassId) (r : Nat) (i : Nat) (tx : Nat → Int32) (a : Nat → Nat) (h : Nat) (w : Nat) (pc : Int32) (br : Int32) (kd : Nat → Int32) (et : Nat → Int32) (nb : Nat → Int32) (Hh : Nat) (Ww : Nat) (d1 : tx (i + 1) - 48 = nI Hh) (d2 : tx (i + 2) - 48 = nI Ww) (hH : Hh < 5) (hW : Ww < 5) (h16 : Hh * Ww ≤ 16) (hin : i + 5 + Hh * (Ww + 1) ≤ 60) : MG l yX0_grow wsX0_grow 1 23 0 0 D [(cI, .int), (cJ, .long), (cO, .object "ShornHill$Sheet")] [.ref (a 1), .ref r, .int (nI i)] [(a 1, .inr (0, [.int (nI h), .int (nI w), .int pc, .int br, .ref (a 2), .ref (a 3), .ref (a 4)])), (a 2, .inl (cI, 16, .inl kd)), (a 3, .inl (cI, 16, .inl et)), (a 4, .inl (cI, 64, .inl nb)), (r, .inl (cI, 60, .inl tx))] (QV D (fun (w1 : va_W) => ∃ (nb2 : Nat → Int32), (nbOk Hh Ww nb2 (Hh * Ww)) ∧ w1 = [(a 1, .inr (0, [.int (nI Hh), .int (nI Ww), .int (tx (i + 3) - 48), .int (tx (i + 4) - 48), .ref (a 2), .ref (a 3), .ref (a 4)])), (a 2, .inl (cI, 16, .inl (fil (kdT tx i Ww) kd (Hh * Ww)))), (a 3, .inl (cI, 16, .inl (fil (fun _ => 0) et (Hh * Ww)))), (a 4, .inl (cI, 64, .inl nb2)), (r, .inl (cI, 60, .inl tx))])) := by
  refine MG.of (cc := cX0_grow) (maxL := 7) (ret := none) (by decide) rfl (Nat.le_of_ble_eq_true rfl) ?_
  intro P_ E_ S_ M_ B_ T_ K_ hx hb hml hr hts hown hlk hnm A hA hP hK hD hS ls hl
  have hl : lv_has ls 7 [(0, .ref (a 1)), (1, .ref r), (2, .int (nI i))] := hl
  have hin0 : ∀ x ∈ u_ws RX0 TX0 7, x ∈ wsX0_grow := iwX0_grow_X0
  refine lv_aload_n hx hb dX0_grow_0 rfl (lv_at hl 0 rfl) ?_
  refine lv_aload_n hx hb dX0_grow_1 rfl (lv_at hl 1 rfl) ?_
  refine lv_iload_n hx hb dX0_grow_2 rfl (lv_at hl 2 rfl) ?_
  refine lv_iconst (v := 1) hx hb dX0_grow_3 (by decide) ?_
  refine lv_iadd hx hb dX0_grow_4 ?_
  refine k_top (y := (nI (i + 1))) (nI_add _ 1) ?_
  refine k_iald hx hb hK hP 4 0 rfl rfl (j := i + 1) (vp_in_nI (show i + 1 < 60 by omega) (by decide)) (nI_clamp (by omega)) dX0_grow_5 ?_
  refine lv_bipush (v := 48) hx hb dX0_grow_6 (by decide) ?_
  refine lv_isub hx hb dX0_grow_8 ?_
  refine k_top (y := (nI Hh)) d1 ?_
  refine va_put (D := D) (ci := 0) (v := .int (nI Hh)) (ty := .int) (C := RX0) (T := TX0) (N := 7) hx hb hts hin0 tyX0 tyX0_ok nmX0 hown hK.1 hP hD hS 0 rfl rfl 0 (by decide) (hts _ (List.mem_of_getElem? (i := 1) rfl)) (fun _ h9 => h9) rfl (by decide +kernel) rfl rfl (Nat.le_of_ble_eq_true rfl) dX0_grow_9 (fun H locs hP hD hS => ?_)
  have hP : va_P D vwCl [(a 1, .inr (0, [.int (nI Hh), .int (nI w), .int pc, .int br, .ref (a 2), .ref (a 3), .ref (a 4)])), (a 2, .inl (cI, 16, .inl kd)), (a 3, .inl (cI, 16, .inl et)), (a 4, .inl (cI, 64, .inl nb)), (r, .inl (cI, 60, .inl tx))] H := hP
  have hD : va_D A [(a 1, .inr (0, [.int (nI Hh), .int (nI w), .int pc, .int br, .ref (a 2), .ref (a 3), .ref (a 4)])), (a 2, .inl (cI, 16, .inl kd)), (a 3, .inl (cI, 16, .inl et)), (a 4, .inl (cI, 64, .inl nb)), (r, .inl (cI, 60, .inl tx))] := hD
  refine lv_aload_n hx hb dX0_grow_12 rfl (lv_at hl 0 rfl) ?_
  refine lv_aload_n hx hb dX0_grow_13 rfl (lv_at hl 1 rfl) ?_
  refine lv_iload_n hx hb dX0_grow_14 rfl (lv_at hl 2 rfl) ?_
  refine lv_iconst (v := 2) hx hb dX0_grow_15 (by decide) ?_
  refine lv_iadd hx hb dX0_grow_16 ?_
  refine k_top (y := (nI (i + 2))) (nI_add _ 2) ?_
  refine k_iald hx hb hK hP 4 0 rfl rfl (j := i + 2) (vp_in_nI (show i + 2 < 60 by omega) (by decide)) (nI_clamp (by omega)) dX0_grow_17 ?_
  refine lv_bipush (v := 48) hx hb dX0_grow_18 (by decide) ?_
  refine lv_isub hx hb dX0_grow_20 ?_
  refine k_top (y := (nI Ww)) d2 ?_
  refine va_put (D := D) (ci := 0) (v := .int (nI Ww)) (ty := .int) (C := RX0) (T := TX0) (N := 7) hx hb hts hin0 tyX0 tyX0_ok nmX0 hown hK.1 hP hD hS 0 rfl rfl 1 (by decide) (hts _ (List.mem_of_getElem? (i := 2) rfl)) (fun _ h9 => h9) rfl (by decide +kernel) rfl rfl (Nat.le_of_ble_eq_true rfl) dX0_grow_21 (fun H locs hP hD hS => ?_)
  have hP : va_P D vwCl [(a 1, .inr (0, [.int (nI Hh), .int (nI Ww), .int pc, .int br, .ref (a 2), .ref (a 3), .ref (a 4)])), (a 2, .inl (cI, 16, .inl kd)), (a 3, .inl (cI, 16, .inl et)), (a 4, .inl (cI, 64, .inl nb)), (r, .inl (cI, 60, .inl tx))] H := hP
  have hD : va_D A [(a 1, .inr (0, [.int (nI Hh), .int (nI Ww), .int pc, .int br, .ref (a 2), .ref (a 3), .ref (a 4)])), (a 2, .inl (cI, 16, .inl kd)), (a 3, .inl (cI, 16, .inl et)), (a 4, .inl (cI, 64, .inl nb)), (r, .inl (cI, 60, .inl tx))] := hD
  refine lv_aload_n hx hb dX0_grow_24 rfl (lv_at hl 0 rfl) ?_
  refine lv_aload_n hx hb dX0_grow_25 rfl (lv_at hl 1 rfl) ?_
  refine lv_iload_n hx hb dX0_grow_26 rfl (lv_at hl 2 rfl) ?_
  refine lv_iconst (v := 3) hx hb dX0_grow_27 (by decide) ?_
  refine lv_iadd hx hb dX0_grow_28 ?_
  refine k_top (y := (nI (i + 3))) (nI_add _ 3) ?_
  refine k_iald hx hb hK hP 4 0 rfl rfl (j := i + 3) (vp_in_nI (show i + 3 < 60 by omega) (by decide)) (nI_clamp (by omega)) dX0_grow_29 ?_
  refine lv_bipush (v := 48) hx hb dX0_grow_30 (by decide) ?_
  refine lv_isub hx hb dX0_grow_32 ?_
  refine va_put (D := D) (ci := 0) (v := .int ((tx (i + 3)) - 48)) (ty := .int) (C := RX0) (T := TX0) (N := 7) hx hb hts hin0 tyX0 tyX0_ok nmX0 hown hK.1 hP hD hS 0 rfl rfl 2 (by decide) (hts _ (List.mem_of_getElem? (i := 3) rfl)) (fun _ h9 => h9) rfl (by decide +kernel) rfl rfl (Nat.le_of_ble_eq_true rfl) dX0_grow_33 (fun H locs hP hD hS => ?_)
  have hP : va_P D vwCl [(a 1, .inr (0, [.int (nI Hh), .int (nI Ww), .int ((tx (i + 3)) - 48), .int br, .ref (a 2), .ref (a 3), .ref (a 4)])), (a 2, .inl (cI, 16, .inl kd)), (a 3, .inl (cI, 16, .inl et)), (a 4, .inl (cI, 64, .inl nb)), (r, .inl (cI, 60, .inl tx))] H := hP
  have hD : va_D A [(a 1, .inr (0, [.int (nI Hh), .int (nI Ww), .int ((tx (i + 3)) - 48), .int br, .ref (a 2), .ref (a 3), .ref (a 4)])), (a 2, .inl (cI, 16, .inl kd)), (a 3, .inl (cI, 16, .inl et)), (a 4, .inl (cI, 64, .inl nb)), (r, .inl (cI, 60, .inl tx))] := hD
  refine lv_aload_n hx hb dX0_grow_36 rfl (lv_at hl 0 rfl) ?_
  refine lv_aload_n hx hb dX0_grow_37 rfl (lv_at hl 1 rfl) ?_
  refine lv_iload_n hx hb dX0_grow_38 rfl (lv_at hl 2 rfl) ?_
  refine lv_iconst (v := 4) hx hb dX0_grow_39 (by decide) ?_
  refine lv_iadd hx hb dX0_grow_40 ?_
  refine k_top (y := (nI (i + 4))) (nI_add _ 4) ?_
  refine k_iald hx hb hK hP 4 0 rfl rfl (j := i + 4) (vp_in_nI (show i + 4 < 60 by omega) (by decide)) (nI_clamp (by omega)) dX0_grow_41 ?_
  refine lv_bipush (v := 48) hx hb dX0_grow_42 (by decide) ?_
  refine lv_isub hx hb dX0_grow_44 ?_
  refine va_put (D := D) (ci := 0) (v := .int ((tx (i + 4)) - 48)) (ty := .int) (C := RX0) (T := TX0) (N := 7) hx hb hts hin0 tyX0 tyX0_ok nmX0 hown hK.1 hP hD hS 0 rfl rfl 3 (by decide) (hts _ (List.mem_of_getElem? (i := 4) rfl)) (fun _ h9 => h9) rfl (by decide +kernel) rfl rfl (Nat.le_of_ble_eq_true rfl) dX0_grow_45 (fun H locs hP hD hS => ?_)
  have hP : va_P D vwCl [(a 1, .inr (0, [.int (nI Hh), .int (nI Ww), .int ((tx (i + 3)) - 48), .int ((tx (i + 4)) - 48), .ref (a 2), .ref (a 3), .ref (a 4)])), (a 2, .inl (cI, 16, .inl kd)), (a 3, .inl (cI, 16, .inl et)), (a 4, .inl (cI, 64, .inl nb)), (r, .inl (cI, 60, .inl tx))] H := hP
  have hD : va_D A [(a 1, .inr (0, [.int (nI Hh), .int (nI Ww), .int ((tx (i + 3)) - 48), .int ((tx (i + 4)) - 48), .ref (a 2), .ref (a 3), .ref (a 4)])), (a 2, .inl (cI, 16, .inl kd)), (a 3, .inl (cI, 16, .inl et)), (a 4, .inl (cI, 64, .inl nb)), (r, .inl (cI, 60, .inl tx))] := hD
  refine lv_iconst (v := 0) hx hb dX0_grow_48 (by decide) ?_
  refine lv_istore_n (lv' := [(3, .int 0), (0, .ref (a 1)), (1, .ref r), (2, .int (nI i))]) hx hb dX0_grow_49 rfl hl (by decide) rfl (fun ls hl => ?_)
  refine lv_iconst (v := 0) hx hb dX0_grow_50 (by decide) ?_
  refine lv_istore (lv' := [(4, .int 0), (3, .int 0), (0, .ref (a 1)), (1, .ref r), (2, .int (nI i))]) hx hb dX0_grow_51 hl (by decide) rfl (fun ls hl => ?_)
  have key_2 : ∀ (n_1 : Nat) (dn : Nat) (g : Nat → Int32) (x3_n_1 : Int32) (f1 : Nat → Int32) (f2 : Nat → Int32), (dn ≤ Hh) → (nbOk Hh Ww g (dn * Ww)) → x3_n_1 = (nI (dn * Ww)) → f1 = (fil (kdT tx i Ww) kd (dn * Ww)) → f2 = (fil (fun _ => 0) et (dn * Ww)) → Hh - dn < n_1 → ∀ (H : Heap) (locs : List Loc), va_P D vwCl [(a 1, .inr (0, [.int (nI Hh), .int (nI Ww), .int (tx (i + 3) - 48), .int (tx (i + 4) - 48), .ref (a 2), .ref (a 3), .ref (a 4)])), (a 2, .inl (cI, 16, .inl f1)), (a 3, .inl (cI, 16, .inl f2)), (a 4, .inl (cI, 64, .inl g)), (r, .inl (cI, 60, .inl tx))] H → va_D A [(a 1, .inr (0, [.int (nI Hh), .int (nI Ww), .int (tx (i + 3) - 48), .int (tx (i + 4) - 48), .ref (a 2), .ref (a 3), .ref (a 4)])), (a 2, .inl (cI, 16, .inl f1)), (a 3, .inl (cI, 16, .inl f2)), (a 4, .inl (cI, 64, .inl g)), (r, .inl (cI, 60, .inl tx))] → va_S A S_.heap H locs → ∀ ls : Array Slot, lv_has ls 7 [(0, .ref (a 1)), (1, .ref r), (2, .int (nI i)), (3, .int x3_n_1), (4, .int (nI dn))] → W P_ l E_ ({ frames := 1, cells := 0, slots := 0, locals := 23 } : Room) S_ M_ (([.ref (a 1), .ref r, .int (nI i)] : List Value).toArray) B_ T_ K_ H locs 0 0 (MQ B_ ((QV D (fun (w1 : va_W) => ∃ (nb2 : Nat → Int32), (nbOk Hh Ww nb2 (Hh * Ww)) ∧ w1 = [(a 1, .inr (0, [.int (nI Hh), .int (nI Ww), .int (tx (i + 3) - 48), .int (tx (i + 4) - 48), .ref (a 2), .ref (a 3), .ref (a 4)])), (a 2, .inl (cI, 16, .inl (fil (kdT tx i Ww) kd (Hh * Ww)))), (a 3, .inl (cI, 16, .inl (fil (fun _ => 0) et (Hh * Ww)))), (a 4, .inl (cI, 64, .inl nb2)), (r, .inl (cI, 60, .inl tx))])) A) (([.ref (a 1), .ref r, .int (nI i)] : List Value).toArray) S_ 0 0 A) (F0 M_ 53 ls []) := by
    intro n_1
    induction n_1 with
    | zero =>
      intro dn g x3_n_1 f1 f2 hk hg e_x3_n_1 e_f1 e_f2 hmu_n_1
      exact absurd hmu_n_1 (Nat.not_lt_zero _)
    | succ n_1 ih_3 =>
      intro dn g x3_n_1 f1 f2 hk hg e_x3_n_1 e_f1 e_f2 hmu_n_1 H locs hP hD hS ls hl
      subst e_x3_n_1
      subst e_f1
      subst e_f2
      have hl : lv_has ls 7 [(0, .ref (a 1)), (1, .ref r), (2, .int (nI i)), (3, .int (nI (dn * Ww))), (4, .int (nI dn))] := hl
      have hP : va_P D vwCl [(a 1, .inr (0, [.int (nI Hh), .int (nI Ww), .int (tx (i + 3) - 48), .int (tx (i + 4) - 48), .ref (a 2), .ref (a 3), .ref (a 4)])), (a 2, .inl (cI, 16, .inl (fil (kdT tx i Ww) kd (dn * Ww)))), (a 3, .inl (cI, 16, .inl (fil (fun _ => 0) et (dn * Ww)))), (a 4, .inl (cI, 64, .inl g)), (r, .inl (cI, 60, .inl tx))] H := hP
      have hD : va_D A [(a 1, .inr (0, [.int (nI Hh), .int (nI Ww), .int (tx (i + 3) - 48), .int (tx (i + 4) - 48), .ref (a 2), .ref (a 3), .ref (a 4)])), (a 2, .inl (cI, 16, .inl (fil (kdT tx i Ww) kd (dn * Ww)))), (a 3, .inl (cI, 16, .inl (fil (fun _ => 0) et (dn * Ww)))), (a 4, .inl (cI, 64, .inl g)), (r, .inl (cI, 60, .inl tx))] := hD
      refine lv_iload hx hb dX0_grow_53 (lv_at hl 4 rfl) ?_
      refine lv_aload_n hx hb dX0_grow_55 rfl (lv_at hl 0 rfl) ?_
      refine va_get (D := D) (ci := 0) (v := .int (nI Hh)) (C := RX0) (T := TX0) (N := 7) hx hb hts hin0 hown hK.1 hP 0 rfl rfl 0 (by decide) (hts _ (List.mem_of_getElem? (i := 1) rfl)) (fun _ h9 => h9) rfl dX0_grow_56 ?_
      refine lv_icmp_ge (tgt := 138) hx hb dX0_grow_59 (by decide) (fun c_4 => ?_) (fun c_4 => ?_)
      · have c_4 : Hh ≤ dn := (nI_leI (a := Hh) (b := dn) (by omega) (by omega)).mp c_4
        refine mv_ret hx hb hr hlk hP hD hS dX0_grow_138 ?_
        have hz : dn = Hh := by omega
        subst hz
        exact ⟨g, hg, rfl⟩
      · have c_4 : dn < Hh := Nat.lt_of_not_le (fun z => c_4 ((nI_leI (a := Hh) (b := dn) (by omega) (by omega)).mpr z))
        refine lv_iload_n hx hb dX0_grow_62 rfl (lv_at hl 2 rfl) ?_
        refine lv_iconst (v := 5) hx hb dX0_grow_63 (by decide) ?_
        refine lv_iadd hx hb dX0_grow_64 ?_
        refine k_top (y := (nI (i + 5))) (nI_add _ 5) ?_
        refine lv_iload hx hb dX0_grow_65 (lv_at hl 4 rfl) ?_
        refine lv_aload_n hx hb dX0_grow_67 rfl (lv_at hl 0 rfl) ?_
        refine va_get (D := D) (ci := 0) (v := .int (nI Ww)) (C := RX0) (T := TX0) (N := 7) hx hb hts hin0 hown hK.1 hP 0 rfl rfl 1 (by decide) (hts _ (List.mem_of_getElem? (i := 2) rfl)) (fun _ h9 => h9) rfl dX0_grow_68 ?_
        refine lv_iconst (v := 1) hx hb dX0_grow_71 (by decide) ?_
        refine lv_iadd hx hb dX0_grow_72 ?_
        refine k_top (y := (nI (Ww + 1))) (nI_add _ 1) ?_
        refine lv_imul hx hb dX0_grow_73 ?_
        refine k_top (y := (nI (dn * (Ww + 1)))) (pk_mul _ _) ?_
        refine lv_iadd hx hb dX0_grow_74 ?_
        refine k_top (y := (nI ((i + 5) + (dn * (Ww + 1))))) (nI_add _ _) ?_
        refine lv_iconst (v := 1) hx hb dX0_grow_75 (by decide) ?_
        refine lv_iadd hx hb dX0_grow_76 ?_
        refine k_top (y := (nI (((i + 5) + (dn * (Ww + 1))) + 1))) (nI_add _ 1) ?_
        refine lv_istore (lv' := [(5, .int (nI (((i + 5) + (dn * (Ww + 1))) + 1))), (0, .ref (a 1)), (1, .ref r), (2, .int (nI i)), (3, .int (nI (dn * Ww))), (4, .int (nI dn))]) hx hb dX0_grow_77 hl (by decide) rfl (fun ls hl => ?_)
        refine lv_iconst (v := 0) hx hb dX0_grow_79 (by decide) ?_
        refine lv_istore (lv' := [(6, .int 0), (5, .int (nI (((i + 5) + (dn * (Ww + 1))) + 1))), (0, .ref (a 1)), (1, .ref r), (2, .int (nI i)), (3, .int (nI (dn * Ww))), (4, .int (nI dn))]) hx hb dX0_grow_80 hl (by decide) rfl (fun ls hl => ?_)
        have hdn := Nat.mul_le_mul_right (Ww + 1) (show dn + 1 ≤ Hh by omega)
        rw [Nat.add_mul, Nat.one_mul] at hdn
        have hdw := Nat.mul_le_mul_right Ww (show dn + 1 ≤ Hh by omega)
        rw [Nat.add_mul, Nat.one_mul] at hdw
        have key_6 : ∀ (n_5 : Nat) (q : Nat) (g2 : Nat → Int32) (f1 : Nat → Int32) (f2 : Nat → Int32), (q ≤ Ww) → (nbOk Hh Ww g2 (dn * Ww + q)) → f1 = (fil (kdT tx i Ww) kd (dn * Ww + q)) → f2 = (fil (fun _ => 0) et (dn * Ww + q)) → Ww - q < n_5 → ∀ (H : Heap) (locs : List Loc), va_P D vwCl [(a 1, .inr (0, [.int (nI Hh), .int (nI Ww), .int (tx (i + 3) - 48), .int (tx (i + 4) - 48), .ref (a 2), .ref (a 3), .ref (a 4)])), (a 2, .inl (cI, 16, .inl f1)), (a 3, .inl (cI, 16, .inl f2)), (a 4, .inl (cI, 64, .inl g2)), (r, .inl (cI, 60, .inl tx))] H → va_D A [(a 1, .inr (0, [.int (nI Hh), .int (nI Ww), .int (tx (i + 3) - 48), .int (tx (i + 4) - 48), .ref (a 2), .ref (a 3), .ref (a 4)])), (a 2, .inl (cI, 16, .inl f1)), (a 3, .inl (cI, 16, .inl f2)), (a 4, .inl (cI, 64, .inl g2)), (r, .inl (cI, 60, .inl tx))] → va_S A S_.heap H locs → ∀ ls : Array Slot, lv_has ls 7 [(0, .ref (a 1)), (1, .ref r), (2, .int (nI i)), (3, .int (nI (dn * Ww + q))), (4, .int (nI dn)), (5, .int (nI (((i + 5) + (dn * (Ww + 1))) + 1))), (6, .int (nI q))] → W P_ l E_ ({ frames := 1, cells := 0, slots := 0, locals := 23 } : Room) S_ M_ (([.ref (a 1), .ref r, .int (nI i)] : List Value).toArray) B_ T_ K_ H locs 0 0 (MQ B_ ((QV D (fun (w1 : va_W) => ∃ (nb2 : Nat → Int32), (nbOk Hh Ww nb2 (Hh * Ww)) ∧ w1 = [(a 1, .inr (0, [.int (nI Hh), .int (nI Ww), .int (tx (i + 3) - 48), .int (tx (i + 4) - 48), .ref (a 2), .ref (a 3), .ref (a 4)])), (a 2, .inl (cI, 16, .inl (fil (kdT tx i Ww) kd (Hh * Ww)))), (a 3, .inl (cI, 16, .inl (fil (fun _ => 0) et (Hh * Ww)))), (a 4, .inl (cI, 64, .inl nb2)), (r, .inl (cI, 60, .inl tx))])) A) (([.ref (a 1), .ref r, .int (nI i)] : List Value).toArray) S_ 0 0 A) (F0 M_ 82 ls []) := by
          intro n_5
          induction n_5 with
          | zero =>
            intro q g2 f1 f2 hq hg2 e_f1 e_f2 hmu_n_5
            exact absurd hmu_n_5 (Nat.not_lt_zero _)
          | succ n_5 ih_7 =>
            intro q g2 f1 f2 hq hg2 e_f1 e_f2 hmu_n_5 H locs hP hD hS ls hl
            subst e_f1
            subst e_f2
            have hl : lv_has ls 7 [(0, .ref (a 1)), (1, .ref r), (2, .int (nI i)), (3, .int (nI (dn * Ww + q))), (4, .int (nI dn)), (5, .int (nI (((i + 5) + (dn * (Ww + 1))) + 1))), (6, .int (nI q))] := hl
            have hP : va_P D vwCl [(a 1, .inr (0, [.int (nI Hh), .int (nI Ww), .int (tx (i + 3) - 48), .int (tx (i + 4) - 48), .ref (a 2), .ref (a 3), .ref (a 4)])), (a 2, .inl (cI, 16, .inl (fil (kdT tx i Ww) kd (dn * Ww + q)))), (a 3, .inl (cI, 16, .inl (fil (fun _ => 0) et (dn * Ww + q)))), (a 4, .inl (cI, 64, .inl g2)), (r, .inl (cI, 60, .inl tx))] H := hP
            have hD : va_D A [(a 1, .inr (0, [.int (nI Hh), .int (nI Ww), .int (tx (i + 3) - 48), .int (tx (i + 4) - 48), .ref (a 2), .ref (a 3), .ref (a 4)])), (a 2, .inl (cI, 16, .inl (fil (kdT tx i Ww) kd (dn * Ww + q)))), (a 3, .inl (cI, 16, .inl (fil (fun _ => 0) et (dn * Ww + q)))), (a 4, .inl (cI, 64, .inl g2)), (r, .inl (cI, 60, .inl tx))] := hD
            refine lv_iload hx hb dX0_grow_82 (lv_at hl 6 rfl) ?_
            refine lv_aload_n hx hb dX0_grow_84 rfl (lv_at hl 0 rfl) ?_
            refine va_get (D := D) (ci := 0) (v := .int (nI Ww)) (C := RX0) (T := TX0) (N := 7) hx hb hts hin0 hown hK.1 hP 0 rfl rfl 1 (by decide) (hts _ (List.mem_of_getElem? (i := 2) rfl)) (fun _ h9 => h9) rfl dX0_grow_85 ?_
            refine lv_icmp_ge (tgt := 132) hx hb dX0_grow_88 (by decide) (fun c_8 => ?_) (fun c_8 => ?_)
            · have c_8 : Ww ≤ q := (nI_leI (a := Ww) (b := q) (by omega) (by omega)).mp c_8
              refine lv_iinc (v := (nI (dn + 1))) (lv' := [(4, .int (nI (dn + 1))), (0, .ref (a 1)), (1, .ref r), (2, .int (nI i)), (3, .int (nI (dn * Ww + q))), (5, .int (nI (((i + 5) + (dn * (Ww + 1))) + 1))), (6, .int (nI q))]) hx hb dX0_grow_132 hl (k := 4) rfl (nI_add _ 1) (by decide) rfl (fun ls hl => ?_)
              refine lv_goto (tgt := 53) hx hb dX0_grow_135 (by decide) ?_
              exact ih_3 (dn + 1) g2 (nI (dn * Ww + q)) (fil (kdT tx i Ww) kd (dn * Ww + q)) (fil (fun _ => 0) et (dn * Ww + q)) (by omega) (by rw [Nat.add_mul, Nat.one_mul]; rw [show q = Ww by omega] at hg2; exact hg2) (by rw [show q = Ww by omega, Nat.add_mul, Nat.one_mul]) (by rw [show q = Ww by omega, Nat.add_mul, Nat.one_mul]) (by rw [show q = Ww by omega, Nat.add_mul, Nat.one_mul]) (by omega) _ _ hP hD hS ls (lv_sub hl [1, 2, 3, 4, 0] rfl)
            · have c_8 : q < Ww := Nat.lt_of_not_le (fun z => c_8 ((nI_leI (a := Ww) (b := q) (by omega) (by omega)).mpr z))
              refine lv_aload_n hx hb dX0_grow_91 rfl (lv_at hl 0 rfl) ?_
              refine va_get (D := D) (ci := 0) (v := .ref (a 2)) (C := RX0) (T := TX0) (N := 7) hx hb hts hin0 hown hK.1 hP 0 rfl rfl 4 (by decide) (hts _ (List.mem_of_getElem? (i := 5) rfl)) (fun _ h9 => h9) rfl dX0_grow_92 ?_
              refine lv_iload_n hx hb dX0_grow_95 rfl (lv_at hl 3 rfl) ?_
              refine lv_aload_n hx hb dX0_grow_96 rfl (lv_at hl 1 rfl) ?_
              refine lv_iload hx hb dX0_grow_97 (lv_at hl 5 rfl) ?_
              refine lv_iload hx hb dX0_grow_99 (lv_at hl 6 rfl) ?_
              refine lv_iadd hx hb dX0_grow_101 ?_
              refine k_top (y := (nI ((((i + 5) + (dn * (Ww + 1))) + 1) + q))) (nI_add _ _) ?_
              refine k_iald hx hb hK hP 4 0 rfl rfl (j := (((i + 5) + (dn * (Ww + 1))) + 1) + q) (vp_in_nI (show (((i + 5) + (dn * (Ww + 1))) + 1) + q < 60 by omega) (by decide)) (nI_clamp (by omega)) dX0_grow_102 ?_
              refine k_ri (run_RSN (As := [.int (tx ((((i + 5) + (dn * (Ww + 1))) + 1) + q))]) (rest := [.int (nI (dn * Ww + q)), .ref (a 2)]) ⟨hx, hb, hml, hown, hts⟩ (c_X4_kindOf l D cI cJ cO (tx ((((i + 5) + (dn * (Ww + 1))) + 1) + q))) ⟨va_cnB 1 hts ggX0_grow_X4_kindOf rfl rfl rfl (nw_X0_42 hK) (hts _ (List.mem_of_getElem? (i := 8) rfl)) (by decide +kernel) ⟨Nat.le_of_ble_eq_true rfl, Nat.le_of_ble_eq_true rfl⟩, (hts _ (List.mem_of_getElem? (i := 7) rfl)), trivial⟩ hP hK [] rfl rfl hl.1 rfl (Nat.le_of_ble_eq_true rfl) dX0_grow_103 ⟨Nat.le_refl _, Nat.le_refl _⟩) (fun r_9 q_10 => ?_)
              obtain rfl := q_10
              refine k_iast hx hb hK hP hD hS 1 0 rfl rfl (j := dn * Ww + q) (vp_in_nI (show dn * Ww + q < 16 by omega) (by decide)) (nI_clamp (by omega)) dX0_grow_106 (fun H locs hP hD hS => ?_)
              have hP : va_P D vwCl [(a 1, .inr (0, [.int (nI Hh), .int (nI Ww), .int (tx (i + 3) - 48), .int (tx (i + 4) - 48), .ref (a 2), .ref (a 3), .ref (a 4)])), (a 2, .inl (cI, 16, .inl (upd (fil (kdT tx i Ww) kd (dn * Ww + q)) (dn * Ww + q) (kindF (tx ((((i + 5) + (dn * (Ww + 1))) + 1) + q)))))), (a 3, .inl (cI, 16, .inl (fil (fun _ => 0) et (dn * Ww + q)))), (a 4, .inl (cI, 64, .inl g2)), (r, .inl (cI, 60, .inl tx))] H := hP
              have hD : va_D A [(a 1, .inr (0, [.int (nI Hh), .int (nI Ww), .int (tx (i + 3) - 48), .int (tx (i + 4) - 48), .ref (a 2), .ref (a 3), .ref (a 4)])), (a 2, .inl (cI, 16, .inl (upd (fil (kdT tx i Ww) kd (dn * Ww + q)) (dn * Ww + q) (kindF (tx ((((i + 5) + (dn * (Ww + 1))) + 1) + q)))))), (a 3, .inl (cI, 16, .inl (fil (fun _ => 0) et (dn * Ww + q)))), (a 4, .inl (cI, 64, .inl g2)), (r, .inl (cI, 60, .inl tx))] := hD
              refine lv_aload_n hx hb dX0_grow_107 rfl (lv_at hl 0 rfl) ?_
              refine va_get (D := D) (ci := 0) (v := .ref (a 3)) (C := RX0) (T := TX0) (N := 7) hx hb hts hin0 hown hK.1 hP 0 rfl rfl 5 (by decide) (hts _ (List.mem_of_getElem? (i := 6) rfl)) (fun _ h9 => h9) rfl dX0_grow_108 ?_
              refine lv_iload_n hx hb dX0_grow_111 rfl (lv_at hl 3 rfl) ?_
              refine lv_iconst (v := 0) hx hb dX0_grow_112 (by decide) ?_
              refine k_iast hx hb hK hP hD hS 2 0 rfl rfl (j := dn * Ww + q) (vp_in_nI (show dn * Ww + q < 16 by omega) (by decide)) (nI_clamp (by omega)) dX0_grow_113 (fun H locs hP hD hS => ?_)
              have hP : va_P D vwCl [(a 1, .inr (0, [.int (nI Hh), .int (nI Ww), .int (tx (i + 3) - 48), .int (tx (i + 4) - 48), .ref (a 2), .ref (a 3), .ref (a 4)])), (a 2, .inl (cI, 16, .inl (upd (fil (kdT tx i Ww) kd (dn * Ww + q)) (dn * Ww + q) (kindF (tx ((((i + 5) + (dn * (Ww + 1))) + 1) + q)))))), (a 3, .inl (cI, 16, .inl (upd (fil (fun _ => 0) et (dn * Ww + q)) (dn * Ww + q) 0))), (a 4, .inl (cI, 64, .inl g2)), (r, .inl (cI, 60, .inl tx))] H := hP
              have hD : va_D A [(a 1, .inr (0, [.int (nI Hh), .int (nI Ww), .int (tx (i + 3) - 48), .int (tx (i + 4) - 48), .ref (a 2), .ref (a 3), .ref (a 4)])), (a 2, .inl (cI, 16, .inl (upd (fil (kdT tx i Ww) kd (dn * Ww + q)) (dn * Ww + q) (kindF (tx ((((i + 5) + (dn * (Ww + 1))) + 1) + q)))))), (a 3, .inl (cI, 16, .inl (upd (fil (fun _ => 0) et (dn * Ww + q)) (dn * Ww + q) 0))), (a 4, .inl (cI, 64, .inl g2)), (r, .inl (cI, 60, .inl tx))] := hD
              refine lv_aload_n hx hb dX0_grow_114 rfl (lv_at hl 0 rfl) ?_
              refine lv_iload_n hx hb dX0_grow_115 rfl (lv_at hl 3 rfl) ?_
              refine lv_iload hx hb dX0_grow_116 (lv_at hl 4 rfl) ?_
              refine lv_iload hx hb dX0_grow_118 (lv_at hl 6 rfl) ?_
              refine k_mv (wr := [(r, .inl (cI, 60, .inl tx))]) [0, 1, 2, 3] [4] (run_MV (As := [.int (nI (dn * Ww + q)), .int (nI dn), .int (nI q)]) (rest := []) ⟨hx, hb, hml, hown, hts⟩ (c_X0_meet l D cI cJ cO a Hh Ww (tx (i + 3) - 48) (tx (i + 4) - 48) (upd (fil (kdT tx i Ww) kd (dn * Ww + q)) (dn * Ww + q) (kindF (tx ((((i + 5) + (dn * (Ww + 1))) + 1) + q)))) (upd (fil (fun _ => 0) et (dn * Ww + q)) (dn * Ww + q) 0) g2 (dn * Ww + q) dn q rfl (by omega) (by omega) (by omega) hH hW) (cwV 3 hts gX0_grow_X0_meet rfl rfl rfl (by decide +kernel) ⟨Nat.le_of_ble_eq_true rfl, Nat.le_of_ble_eq_true rfl⟩) hP hK hD [0, 1, 2, 3] (by decide) rfl rfl rfl rfl rfl hl.1 rfl (Nat.le_of_ble_eq_true rfl) dX0_grow_120 ⟨Nat.le_refl _, Nat.le_refl _⟩) hP hD hS hA rfl rfl (by decide) (by decide) (fun w_13 H locs q_12 hP hD hS => ?_)
              obtain rfl := q_12
              have hP : va_P D vwCl [(a 1, .inr (0, [.int (nI Hh), .int (nI Ww), .int (tx (i + 3) - 48), .int (tx (i + 4) - 48), .ref (a 2), .ref (a 3), .ref (a 4)])), (a 2, .inl (cI, 16, .inl (upd (fil (kdT tx i Ww) kd (dn * Ww + q)) (dn * Ww + q) (kindF (tx ((((i + 5) + (dn * (Ww + 1))) + 1) + q)))))), (a 3, .inl (cI, 16, .inl (upd (fil (fun _ => 0) et (dn * Ww + q)) (dn * Ww + q) 0))), (a 4, .inl (cI, 64, .inl (mtF Hh Ww g2 (dn * Ww + q)))), (r, .inl (cI, 60, .inl tx))] H := hP.sub [1, 2, 3, 4, 0] rfl
              have hD : va_D A [(a 1, .inr (0, [.int (nI Hh), .int (nI Ww), .int (tx (i + 3) - 48), .int (tx (i + 4) - 48), .ref (a 2), .ref (a 3), .ref (a 4)])), (a 2, .inl (cI, 16, .inl (upd (fil (kdT tx i Ww) kd (dn * Ww + q)) (dn * Ww + q) (kindF (tx ((((i + 5) + (dn * (Ww + 1))) + 1) + q)))))), (a 3, .inl (cI, 16, .inl (upd (fil (fun _ => 0) et (dn * Ww + q)) (dn * Ww + q) 0))), (a 4, .inl (cI, 64, .inl (mtF Hh Ww g2 (dn * Ww + q)))), (r, .inl (cI, 60, .inl tx))] := hD.sub [1, 2, 3, 4, 0] (by decide) rfl
              refine lv_iinc (v := (nI ((dn * Ww + q) + 1))) (lv' := [(3, .int (nI ((dn * Ww + q) + 1))), (0, .ref (a 1)), (1, .ref r), (2, .int (nI i)), (4, .int (nI dn)), (5, .int (nI (((i + 5) + (dn * (Ww + 1))) + 1))), (6, .int (nI q))]) hx hb dX0_grow_123 hl (k := 3) rfl (nI_add _ 1) (by decide) rfl (fun ls hl => ?_)
              refine lv_iinc (v := (nI (q + 1))) (lv' := [(6, .int (nI (q + 1))), (3, .int (nI ((dn * Ww + q) + 1))), (0, .ref (a 1)), (1, .ref r), (2, .int (nI i)), (4, .int (nI dn)), (5, .int (nI (((i + 5) + (dn * (Ww + 1))) + 1)))]) hx hb dX0_grow_126 hl (k := 6) rfl (nI_add _ 1) (by decide) rfl (fun ls hl => ?_)
              refine lv_goto (tgt := 82) hx hb dX0_grow_129 (by decide) ?_
              exact ih_7 (q + 1) (mtF Hh Ww g2 (dn * Ww + q)) (upd (fil (kdT tx i Ww) kd (dn * Ww + q)) (dn * Ww + q) (kindF (tx ((((i + 5) + (dn * (Ww + 1))) + 1) + q)))) (upd (fil (fun _ => 0) et (dn * Ww + q)) (dn * Ww + q) 0) (by omega) (mtF_ok hg2) (fil_upd _ _ _ (kdT_at (by omega))) (fil_upd _ _ _ rfl) (by omega) _ _ hP hD hS ls (lv_sub hl [2, 3, 4, 1, 5, 6, 0] rfl)
        exact key_6 _ 0 g (fil (kdT tx i Ww) kd (dn * Ww)) (fil (fun _ => 0) et (dn * Ww)) (by omega) hg rfl rfl (Nat.lt_succ_self _) _ _ hP hD hS ls (lv_sub hl [2, 3, 4, 5, 6, 1, 0] rfl)
  exact key_2 _ 0 nb 0 kd et (by omega) (by rw [Nat.zero_mul]; exact fun _ h => absurd h (Nat.not_lt_zero _)) (by rw [Nat.zero_mul]; rfl) (by rw [Nat.zero_mul]; exact (fil_0 _ _).symm) (by rw [Nat.zero_mul]; exact (fil_0 _ _).symm) (Nat.lt_succ_self _) _ _ hP hD hS ls (lv_sub hl [2, 3, 4, 1, 0] rfl)
