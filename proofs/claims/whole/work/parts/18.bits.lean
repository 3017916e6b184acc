set_option maxRecDepth 100000 in
set_option maxHeartbeats 4000000 in
/-- J6_bitCount_0f7a4 -/
theorem c_J6_bitCount_0f7a4 (l : Launch) (D : va_G) (cI cJ cO : ClassId) (s : Int32) (hs : sN s < 65536) : RG l yJ6_bitCount_0f7a4 wsJ6_bitCount_0f7a4 0 0 D [(cI, .int), (cJ, .long), (cO, .object "ShornHill$Sheet")] [.int s] [] (vp_Si (fun (r : Int32) => r = (nI (popN 16 (sN s))))) := by
  refine RG.of (cc := cJ6_bitCount_0f7a4) (maxL := 1) (ret := (some .int)) (by decide) rfl (Nat.le_of_ble_eq_true rfl) ?_
  intro P_ E_ S_ M_ B_ T_ K_ hx hb hml hr hts hown hlk hP hK ls hl
  have hl : lv_has ls 1 [(0, .int s)] := hl
  obtain ⟨v, hv⟩ : ∃ v, sN s = v := ⟨_, rfl⟩
  have hsv : s = nI v := by rw [← hv]; exact sN_eq s
  rw [hv] at hs
  rw [hsv] at hl
  have hb1 := bs1_le hs
  have hb2 := bs2_le (bs1 v)
  have hb3 := bs3_le (bs2 (bs1 v))
  have hb4 := bs4_le hb3
  have hb5 := bs5_le hb4
  refine lv_iload_n hx hb dJ6_bitCount_0f7a4_0 rfl (lv_at hl 0 rfl) ?_
  refine lv_iload_n hx hb dJ6_bitCount_0f7a4_1 rfl (lv_at hl 0 rfl) ?_
  refine lv_iconst (v := 1) hx hb dJ6_bitCount_0f7a4_2 (by decide) ?_
  refine lv_iushr (v := nI (v / 2 ^ 1)) hx hb dJ6_bitCount_0f7a4_3 (pk_ushrN (by omega) _ 1 rfl) ?_
  refine lv_ldcw (v := 1431655765) hx hb hown (hts _ (List.mem_of_getElem? (i := 1) rfl)) dJ6_bitCount_0f7a4_4 ?_
  refine lv_iand hx hb dJ6_bitCount_0f7a4_7 ?_
  refine k_top (y := (nI (v / 2 ^ 1 &&& 1431655765))) (nx_and _ 1431655765) ?_
  refine lv_isub hx hb dJ6_bitCount_0f7a4_8 ?_
  refine k_top (y := (nI (bs1 v))) (pk_sub (bs1_sub v)) ?_
  refine lv_istore_n (lv' := [(0, .int (nI (bs1 v)))]) hx hb dJ6_bitCount_0f7a4_9 rfl hl (by decide) rfl (fun ls hl => ?_)
  refine lv_iload_n hx hb dJ6_bitCount_0f7a4_10 rfl (lv_at hl 0 rfl) ?_
  refine lv_ldcw (v := 858993459) hx hb hown (hts _ (List.mem_of_getElem? (i := 2) rfl)) dJ6_bitCount_0f7a4_11 ?_
  refine lv_iand hx hb dJ6_bitCount_0f7a4_14 ?_
  refine k_top (y := (nI (bs1 v &&& 858993459))) (nx_and _ 858993459) ?_
  refine lv_iload_n hx hb dJ6_bitCount_0f7a4_15 rfl (lv_at hl 0 rfl) ?_
  refine lv_iconst (v := 2) hx hb dJ6_bitCount_0f7a4_16 (by decide) ?_
  refine lv_iushr (v := nI ((bs1 v) / 2 ^ 2)) hx hb dJ6_bitCount_0f7a4_17 (pk_ushrN (by omega) _ 2 rfl) ?_
  refine lv_ldcw (v := 858993459) hx hb hown (hts _ (List.mem_of_getElem? (i := 2) rfl)) dJ6_bitCount_0f7a4_18 ?_
  refine lv_iand hx hb dJ6_bitCount_0f7a4_21 ?_
  refine k_top (y := (nI (bs1 v / 2 ^ 2 &&& 858993459))) (nx_and _ 858993459) ?_
  refine lv_iadd hx hb dJ6_bitCount_0f7a4_22 ?_
  refine k_top (y := (nI ((bs1 v &&& 858993459) + (bs1 v / 2 ^ 2 &&& 858993459)))) (nI_add _ _) ?_
  refine k_top (y := (nI (bs2 (bs1 v)))) rfl ?_
  refine lv_istore_n (lv' := [(0, .int (nI (bs2 (bs1 v))))]) hx hb dJ6_bitCount_0f7a4_23 rfl hl (by decide) rfl (fun ls hl => ?_)
  refine lv_iload_n hx hb dJ6_bitCount_0f7a4_24 rfl (lv_at hl 0 rfl) ?_
  refine lv_iload_n hx hb dJ6_bitCount_0f7a4_25 rfl (lv_at hl 0 rfl) ?_
  refine lv_iconst (v := 4) hx hb dJ6_bitCount_0f7a4_26 (by decide) ?_
  refine lv_iushr (v := nI ((bs2 (bs1 v)) / 2 ^ 4)) hx hb dJ6_bitCount_0f7a4_27 (pk_ushrN (by omega) _ 4 rfl) ?_
  refine lv_iadd hx hb dJ6_bitCount_0f7a4_28 ?_
  refine k_top (y := (nI ((bs2 (bs1 v)) + ((bs2 (bs1 v)) / 2 ^ 4)))) (nI_add _ _) ?_
  refine lv_ldcw (v := 252645135) hx hb hown (hts _ (List.mem_of_getElem? (i := 3) rfl)) dJ6_bitCount_0f7a4_29 ?_
  refine lv_iand hx hb dJ6_bitCount_0f7a4_32 ?_
  refine k_top (y := (nI (bs3 (bs2 (bs1 v))))) (nx_and _ 252645135) ?_
  refine lv_istore_n (lv' := [(0, .int (nI (bs3 (bs2 (bs1 v)))))]) hx hb dJ6_bitCount_0f7a4_33 rfl hl (by decide) rfl (fun ls hl => ?_)
  refine lv_iload_n hx hb dJ6_bitCount_0f7a4_34 rfl (lv_at hl 0 rfl) ?_
  refine lv_iload_n hx hb dJ6_bitCount_0f7a4_35 rfl (lv_at hl 0 rfl) ?_
  refine lv_bipush (v := 8) hx hb dJ6_bitCount_0f7a4_36 (by decide) ?_
  refine lv_iushr (v := nI ((bs3 (bs2 (bs1 v))) / 2 ^ 8)) hx hb dJ6_bitCount_0f7a4_38 (pk_ushrN (by omega) _ 8 rfl) ?_
  refine lv_iadd hx hb dJ6_bitCount_0f7a4_39 ?_
  refine k_top (y := (nI ((bs3 (bs2 (bs1 v))) + ((bs3 (bs2 (bs1 v))) / 2 ^ 8)))) (nI_add _ _) ?_
  refine k_top (y := (nI (bs4 (bs3 (bs2 (bs1 v)))))) rfl ?_
  refine lv_istore_n (lv' := [(0, .int (nI (bs4 (bs3 (bs2 (bs1 v))))))]) hx hb dJ6_bitCount_0f7a4_40 rfl hl (by decide) rfl (fun ls hl => ?_)
  refine lv_iload_n hx hb dJ6_bitCount_0f7a4_41 rfl (lv_at hl 0 rfl) ?_
  refine lv_iload_n hx hb dJ6_bitCount_0f7a4_42 rfl (lv_at hl 0 rfl) ?_
  refine lv_bipush (v := 16) hx hb dJ6_bitCount_0f7a4_43 (by decide) ?_
  refine lv_iushr (v := nI ((bs4 (bs3 (bs2 (bs1 v)))) / 2 ^ 16)) hx hb dJ6_bitCount_0f7a4_45 (pk_ushrN (by omega) _ 16 rfl) ?_
  refine lv_iadd hx hb dJ6_bitCount_0f7a4_46 ?_
  refine k_top (y := (nI ((bs4 (bs3 (bs2 (bs1 v)))) + ((bs4 (bs3 (bs2 (bs1 v)))) / 2 ^ 16)))) (nI_add _ _) ?_
  refine k_top (y := (nI (bs5 (bs4 (bs3 (bs2 (bs1 v))))))) rfl ?_
  refine lv_istore_n (lv' := [(0, .int (nI (bs5 (bs4 (bs3 (bs2 (bs1 v)))))))]) hx hb dJ6_bitCount_0f7a4_47 rfl hl (by decide) rfl (fun ls hl => ?_)
  refine lv_iload_n hx hb dJ6_bitCount_0f7a4_48 rfl (lv_at hl 0 rfl) ?_
  refine lv_bipush (v := 63) hx hb dJ6_bitCount_0f7a4_49 (by decide) ?_
  refine lv_iand hx hb dJ6_bitCount_0f7a4_51 ?_
  refine k_top (y := (nI (bs5 (bs4 (bs3 (bs2 (bs1 v)))) &&& 63))) (nx_and _ 63) ?_
  refine ri_ret (v := (nI (bs5 (bs4 (bs3 (bs2 (bs1 v)))) &&& 63))) hx hb hr hlk dJ6_bitCount_0f7a4_52 ?_
  rw [hv, pop_go hs]
