set_option maxRecDepth 100000 in
set_option maxHeartbeats 4000000 in
/-- THE LAW'S LOOP -/
theorem law_loop {P_ : Program} {l : Launch} {E_ : Env} {S_ : State} {M_ : MethodId} {B_ : List Frame} {T_ : Method} {K_ : Code} {D : va_G} {cI cJ cO : ClassId} {a b : Nat → Nat} {sc L : Nat} {xs : Nat → Int32} (hr : T_.sig.returnType = ret) (hlk : T_.locks = false) (C : LCx P_ S_ M_ T_ K_ D (fun q : Nat => S_.heap.size ≤ q) cI cJ cO sc L xs) : ∀ (n i : Nat), i ≤ L → L < i + n → ∀ (H : Heap) (locs : List Loc) (ls : Array Slot), LSt D (fun q : Nat => S_.heap.size ≤ q) cI cJ cO a b H → va_S (fun q : Nat => S_.heap.size ≤ q) S_.heap H locs → LLv a b sc i ls → W P_ l E_ room_1 S_ M_ #[Value.ref sc] B_ T_ K_ H locs 600000 7302250 (lw_Z B_ #[Value.ref sc] S_) (F0 M_ 18 ls []) := by
  obtain ⟨⟨hx, hb, hml, hts, hown, hK⟩, hA, hX, hbl, hbA, hL⟩ := id C
  intro n
  induction n with
  | zero =>
    intro i h1 h2
    exact absurd h2 (by omega)
  | succ n ih =>
    intro i hi hin H locs ls hst hS hl
    refine lv_iload_n hx hb dL_law_18 rfl (lv_at hl 3 rfl) ?_
    refine lv_aload_n hx hb dL_law_19 rfl (lv_at hl 0 rfl) ?_
    refine va_slen hx hb hX hbl hbA hS dL_law_20 ?_
    refine lv_bipush (v := 8) hx hb dL_law_21 (by decide) ?_
    refine lv_isub hx hb dL_law_23 ?_
    have hs8 : (Int32.ofNat L - 8).toInt = (L : Int) - 8 := pk_sub_toInt (a := L) (b := 8) (by omega) (by decide)
    refine lv_icmp_gt (tgt := 1103) hx hb dL_law_24 (by decide) (fun c_1 => ?_) (fun c_1 => ?_)
    · refine lv_iconst (v := 1) hx hb dL_law_1103 (by decide) ?_
      refine va_forget (fun q hq => hS.2.2 q hq) ?_
      exact lw_ret hx hb hr hlk dL_law_1104
    · have hi8 : i + 8 ≤ L := by
        have z := Int32.not_lt.mp c_1
        rw [Int32.le_iff_toInt_le, hs8, nI_toInt (by omega)] at z
        omega
      have next : LNx P_ l E_ S_ M_ B_ T_ K_ D (fun q : Nat => S_.heap.size ≤ q) cI cJ cO a b sc i (lw_Z B_ #[Value.ref sc] S_) := by
        intro H locs ls hst hS hl
        have hl : lv_has ls 4 [(0, .ref sc), (1, .ref (a 0)), (2, .ref (b 0)), (3, .int (nI i))] := hl
        refine lv_iinc (v := nI (i + 8)) (lv' := [(3, .int (nI (i + 8))), (0, .ref sc), (1, .ref (a 0)), (2, .ref (b 0))]) hx hb dL_law_1097 hl (k := 3) rfl (nI_add _ 8) (by decide) rfl (fun ls hl => ?_)
        refine lv_goto (tgt := 18) hx hb dL_law_1100 (by decide) ?_
        exact ih (i + 8) (by omega) (by omega) H locs ls hst hS (lv_sub hl [1, 2, 3, 0] rfl)
      refine lv_aload_n hx hb dL_law_27 rfl (lv_at hl 0 rfl) ?_
      refine lv_iload_n hx hb dL_law_28 rfl (lv_at hl 3 rfl) ?_
      refine va_sld hx hb hX hbl hbA hS (vp_in_nI (show i < L by omega) (by omega)) dL_law_29 ?_
      refine lv_bipush (v := 31) hx hb dL_law_30 (by decide) ?_
      refine lv_iand hx hb dL_law_32 ?_
      obtain ⟨j, hj, ej⟩ := pk_andE (xs (nI i).toNatClampNeg) (m := 31) 5 rfl
      have hj : j < 32 := hj
      rcases (show j = 0 ∨ j = 1 ∨ j = 2 ∨ j = 3 ∨ j = 4 ∨ j = 5 ∨ j = 6 ∨ j = 7 ∨ j = 8 ∨ j = 9 ∨ j = 10 ∨ j = 11 ∨ j = 12 ∨ j = 13 ∨ j = 14 ∨ j = 15 ∨ j = 16 ∨ j = 17 ∨ j = 18 ∨ j = 19 ∨ j = 20 ∨ j = 21 ∨ j = 22 ∨ j = 23 ∨ j = 24 ∨ j = 25 ∨ j = 26 ∨ j = 27 ∨ j = 28 ∨ 29 ≤ j by omega) with rfl | rfl | rfl | rfl | rfl | rfl | rfl | rfl | rfl | rfl | rfl | rfl | rfl | rfl | rfl | rfl | rfl | rfl | rfl | rfl | rfl | rfl | rfl | rfl | rfl | rfl | rfl | rfl | rfl | h29
      · have ec : xs (nI i).toNatClampNeg &&& 31 = 0 := ej
        refine lv_tableIn (off := 131) (tgt := 164) hx hb dL_law_33 (by rw [ec]; decide) (by rw [ec]; decide) (by rw [ec]; rfl) (by decide) ?_
        exact law_c0 C hi8 next hst hS hl
      · have ec : xs (nI i).toNatClampNeg &&& 31 = 1 := ej
        refine lv_tableIn (off := 184) (tgt := 217) hx hb dL_law_33 (by rw [ec]; decide) (by rw [ec]; decide) (by rw [ec]; rfl) (by decide) ?_
        exact law_c1 C hi8 next hst hS hl
      · have ec : xs (nI i).toNatClampNeg &&& 31 = 2 := ej
        refine lv_tableIn (off := 217) (tgt := 250) hx hb dL_law_33 (by rw [ec]; decide) (by rw [ec]; decide) (by rw [ec]; rfl) (by decide) ?_
        exact law_c2 C hi8 next hst hS hl
      · have ec : xs (nI i).toNatClampNeg &&& 31 = 3 := ej
        refine lv_tableIn (off := 250) (tgt := 283) hx hb dL_law_33 (by rw [ec]; decide) (by rw [ec]; decide) (by rw [ec]; rfl) (by decide) ?_
        exact law_c3 C hi8 next hst hS hl
      · have ec : xs (nI i).toNatClampNeg &&& 31 = 4 := ej
        refine lv_tableIn (off := 273) (tgt := 306) hx hb dL_law_33 (by rw [ec]; decide) (by rw [ec]; decide) (by rw [ec]; rfl) (by decide) ?_
        exact law_c4 C hi8 next hst hS hl
      · have ec : xs (nI i).toNatClampNeg &&& 31 = 5 := ej
        refine lv_tableIn (off := 296) (tgt := 329) hx hb dL_law_33 (by rw [ec]; decide) (by rw [ec]; decide) (by rw [ec]; rfl) (by decide) ?_
        exact law_c5 C hi8 next hst hS hl
      · have ec : xs (nI i).toNatClampNeg &&& 31 = 6 := ej
        refine lv_tableIn (off := 329) (tgt := 362) hx hb dL_law_33 (by rw [ec]; decide) (by rw [ec]; decide) (by rw [ec]; rfl) (by decide) ?_
        exact law_c6 C hi8 next hst hS hl
      · have ec : xs (nI i).toNatClampNeg &&& 31 = 7 := ej
        refine lv_tableIn (off := 352) (tgt := 385) hx hb dL_law_33 (by rw [ec]; decide) (by rw [ec]; decide) (by rw [ec]; rfl) (by decide) ?_
        exact law_c7 C hi8 next hst hS hl
      · have ec : xs (nI i).toNatClampNeg &&& 31 = 8 := ej
        refine lv_tableIn (off := 439) (tgt := 472) hx hb dL_law_33 (by rw [ec]; decide) (by rw [ec]; decide) (by rw [ec]; rfl) (by decide) ?_
        exact law_c8 C hi8 next hst hS hl
      · have ec : xs (nI i).toNatClampNeg &&& 31 = 9 := ej
        refine lv_tableIn (off := 482) (tgt := 515) hx hb dL_law_33 (by rw [ec]; decide) (by rw [ec]; decide) (by rw [ec]; rfl) (by decide) ?_
        exact law_c9 C hi8 next hst hS hl
      · have ec : xs (nI i).toNatClampNeg &&& 31 = 10 := ej
        refine lv_tableIn (off := 505) (tgt := 538) hx hb dL_law_33 (by rw [ec]; decide) (by rw [ec]; decide) (by rw [ec]; rfl) (by decide) ?_
        exact law_c10 C hi8 next hst hS hl
      · have ec : xs (nI i).toNatClampNeg &&& 31 = 11 := ej
        refine lv_tableIn (off := 528) (tgt := 561) hx hb dL_law_33 (by rw [ec]; decide) (by rw [ec]; decide) (by rw [ec]; rfl) (by decide) ?_
        exact law_c11 C hi8 next hst hS hl
      · have ec : xs (nI i).toNatClampNeg &&& 31 = 12 := ej
        refine lv_tableIn (off := 551) (tgt := 584) hx hb dL_law_33 (by rw [ec]; decide) (by rw [ec]; decide) (by rw [ec]; rfl) (by decide) ?_
        exact law_c12 C hi8 next hst hS hl
      · have ec : xs (nI i).toNatClampNeg &&& 31 = 13 := ej
        refine lv_tableIn (off := 594) (tgt := 627) hx hb dL_law_33 (by rw [ec]; decide) (by rw [ec]; decide) (by rw [ec]; rfl) (by decide) ?_
        exact law_c13 C hi8 next hst hS hl
      · have ec : xs (nI i).toNatClampNeg &&& 31 = 14 := ej
        refine lv_tableIn (off := 617) (tgt := 650) hx hb dL_law_33 (by rw [ec]; decide) (by rw [ec]; decide) (by rw [ec]; rfl) (by decide) ?_
        exact law_c14 C hi8 next hst hS hl
      · have ec : xs (nI i).toNatClampNeg &&& 31 = 15 := ej
        refine lv_tableIn (off := 640) (tgt := 673) hx hb dL_law_33 (by rw [ec]; decide) (by rw [ec]; decide) (by rw [ec]; rfl) (by decide) ?_
        exact law_c15 C hi8 next hst hS hl
      · have ec : xs (nI i).toNatClampNeg &&& 31 = 16 := ej
        refine lv_tableIn (off := 653) (tgt := 686) hx hb dL_law_33 (by rw [ec]; decide) (by rw [ec]; decide) (by rw [ec]; rfl) (by decide) ?_
        exact law_c16 C hi8 next hst hS hl
      · have ec : xs (nI i).toNatClampNeg &&& 31 = 17 := ej
        refine lv_tableIn (off := 676) (tgt := 709) hx hb dL_law_33 (by rw [ec]; decide) (by rw [ec]; decide) (by rw [ec]; rfl) (by decide) ?_
        exact law_c17 C hi8 next hst hS hl
      · have ec : xs (nI i).toNatClampNeg &&& 31 = 18 := ej
        refine lv_tableIn (off := 720) (tgt := 753) hx hb dL_law_33 (by rw [ec]; decide) (by rw [ec]; decide) (by rw [ec]; rfl) (by decide) ?_
        exact law_c18 C hi8 next hst hS hl
      · have ec : xs (nI i).toNatClampNeg &&& 31 = 19 := ej
        refine lv_tableIn (off := 763) (tgt := 796) hx hb dL_law_33 (by rw [ec]; decide) (by rw [ec]; decide) (by rw [ec]; rfl) (by decide) ?_
        exact law_c19 C hi8 next hst hS hl
      · have ec : xs (nI i).toNatClampNeg &&& 31 = 20 := ej
        refine lv_tableIn (off := 786) (tgt := 819) hx hb dL_law_33 (by rw [ec]; decide) (by rw [ec]; decide) (by rw [ec]; rfl) (by decide) ?_
        exact law_c20 C hi8 next hst hS hl
      · have ec : xs (nI i).toNatClampNeg &&& 31 = 21 := ej
        refine lv_tableIn (off := 829) (tgt := 862) hx hb dL_law_33 (by rw [ec]; decide) (by rw [ec]; decide) (by rw [ec]; rfl) (by decide) ?_
        exact law_c21 C hi8 next hst hS hl
      · have ec : xs (nI i).toNatClampNeg &&& 31 = 22 := ej
        refine lv_tableIn (off := 873) (tgt := 906) hx hb dL_law_33 (by rw [ec]; decide) (by rw [ec]; decide) (by rw [ec]; rfl) (by decide) ?_
        exact law_c22 C hi8 next hst hS hl
      · have ec : xs (nI i).toNatClampNeg &&& 31 = 23 := ej
        refine lv_tableIn (off := 936) (tgt := 969) hx hb dL_law_33 (by rw [ec]; decide) (by rw [ec]; decide) (by rw [ec]; rfl) (by decide) ?_
        exact law_c23 C hi8 next hst hS hl
      · have ec : xs (nI i).toNatClampNeg &&& 31 = 24 := ej
        refine lv_tableIn (off := 959) (tgt := 992) hx hb dL_law_33 (by rw [ec]; decide) (by rw [ec]; decide) (by rw [ec]; rfl) (by decide) ?_
        exact law_c24 C hi8 next hst hS hl
      · have ec : xs (nI i).toNatClampNeg &&& 31 = 25 := ej
        refine lv_tableIn (off := 982) (tgt := 1015) hx hb dL_law_33 (by rw [ec]; decide) (by rw [ec]; decide) (by rw [ec]; rfl) (by decide) ?_
        exact law_c25 C hi8 next hst hS hl
      · have ec : xs (nI i).toNatClampNeg &&& 31 = 26 := ej
        refine lv_tableIn (off := 1015) (tgt := 1048) hx hb dL_law_33 (by rw [ec]; decide) (by rw [ec]; decide) (by rw [ec]; rfl) (by decide) ?_
        exact law_c26 C hi8 next hst hS hl
      · have ec : xs (nI i).toNatClampNeg &&& 31 = 27 := ej
        refine lv_tableIn (off := 1028) (tgt := 1061) hx hb dL_law_33 (by rw [ec]; decide) (by rw [ec]; decide) (by rw [ec]; rfl) (by decide) ?_
        exact law_c27 C hi8 next hst hS hl
      · have ec : xs (nI i).toNatClampNeg &&& 31 = 28 := ej
        refine lv_tableIn (off := 1041) (tgt := 1074) hx hb dL_law_33 (by rw [ec]; decide) (by rw [ec]; decide) (by rw [ec]; rfl) (by decide) ?_
        exact law_c28 C hi8 next hst hS hl
      · refine lv_tableOut (tgt := 1097) hx hb dL_law_33 (Or.inr (by rw [ej, nI_toInt (by omega)]; show (28 : Int) < _; omega)) (by decide) ?_
        exact next H locs ls hst hS hl
