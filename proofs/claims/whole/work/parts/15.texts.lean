set_option maxRecDepth 100000 in
set_option maxHeartbeats 4000000 in
/-- X4_kindOf -/
theorem c_X4_kindOf (l : Launch) (D : va_G) (cI cJ cO : ClassId) (v : Int32) : RG l yX4_kindOf wsX4_kindOf 0 0 D [(cI, .int), (cJ, .long), (cO, .object "ShornHill$Sheet")] [.int v] [] (vp_Si (fun (r : Int32) => r = (kindF v))) := by
  refine RG.of (cc := cX4_kindOf) (maxL := 1) (ret := (some .int)) (by decide) rfl (Nat.le_of_ble_eq_true rfl) ?_
  intro P_ E_ S_ M_ B_ T_ K_ hx hb hml hr hts hown hlk hP hK ls hl
  have hl : lv_has ls 1 [(0, .int v)] := hl
  refine lv_iload_n hx hb dX4_kindOf_0 rfl (lv_at hl 0 rfl) ?_
  by_cases c_1 : v = 35
  · refine lv_lookup (off := 49) (tgt := 50) hx hb dX4_kindOf_1 (by decide) (by rw [c_1]; rfl) (by decide) ?_
    refine lv_iconst (v := 3) hx hb dX4_kindOf_50 (by decide) ?_
    refine ri_ret (v := 3) hx hb hr hlk dX4_kindOf_51 ?_
    rw [kindF, if_pos c_1]
  · by_cases c_2 : v = 103
    · refine lv_lookup (off := 43) (tgt := 44) hx hb dX4_kindOf_1 (by decide) (by rw [c_2]; rfl) (by decide) ?_
      refine lv_iconst (v := 0) hx hb dX4_kindOf_44 (by decide) ?_
      refine ri_ret (v := 0) hx hb hr hlk dX4_kindOf_45 ?_
      rw [kindF, if_neg c_1, if_pos c_2]
    · by_cases c_3 : v = 111
      · refine lv_lookup (off := 47) (tgt := 48) hx hb dX4_kindOf_1 (by decide) (by rw [c_3]; rfl) (by decide) ?_
        refine lv_iconst (v := 2) hx hb dX4_kindOf_48 (by decide) ?_
        refine ri_ret (v := 2) hx hb hr hlk dX4_kindOf_49 ?_
        rw [kindF, if_neg c_1, if_neg c_2, if_pos c_3]
      · by_cases c_4 : v = 115
        · refine lv_lookup (off := 45) (tgt := 46) hx hb dX4_kindOf_1 (by decide) (by rw [c_4]; rfl) (by decide) ?_
          refine lv_iconst (v := 1) hx hb dX4_kindOf_46 (by decide) ?_
          refine ri_ret (v := 1) hx hb hr hlk dX4_kindOf_47 ?_
          rw [kindF, if_neg c_1, if_neg c_2, if_neg c_3, if_pos c_4]
        · refine lv_lookup (off := 51) (tgt := 52) hx hb dX4_kindOf_1 (by decide) (by rw [lv_osw c_1 (show (35 : Int32).toInt = 35 from rfl)]; rw [lv_osw c_2 (show (103 : Int32).toInt = 103 from rfl)]; rw [lv_osw c_3 (show (111 : Int32).toInt = 111 from rfl)]; rw [lv_osw c_4 (show (115 : Int32).toInt = 115 from rfl)]; rfl) (by decide) ?_
          refine lv_bipush (v := (-9)) hx hb dX4_kindOf_52 (by decide) ?_
          refine ri_ret (v := (-9)) hx hb hr hlk dX4_kindOf_54 ?_
          rw [kindF, if_neg c_1, if_neg c_2, if_neg c_3, if_neg c_4]
set_option maxRecDepth 100000 in
set_option maxHeartbeats 4000000 in
/-- X4_fitsHead -/
theorem c_X4_fitsHead (l : Launch) (D : va_G) (cI cJ cO : ClassId) (p : Nat) (v : Int32) (hp : p < 60) : RG l yX4_fitsHead wsX4_fitsHead 0 0 D [(cI, .int), (cJ, .long), (cO, .object "ShornHill$Sheet")] [.int (nI p), .int v] [] (vp_Si (fun (r : Int32) => r = (b2 (hdP p v)))) := by
  refine RG.of (cc := cX4_fitsHead) (maxL := 2) (ret := (some .boolean)) (by decide) rfl (Nat.le_of_ble_eq_true rfl) ?_
  intro P_ E_ S_ M_ B_ T_ K_ hx hb hml hr hts hown hlk hP hK ls hl
  have hl : lv_has ls 2 [(0, .int (nI p)), (1, .int v)] := hl
  refine lv_iload_n hx hb dX4_fitsHead_0 rfl (lv_at hl 0 rfl) ?_
  rcases sw4 ((nI p)) with c_1 | c_1 | c_1 | c_1 | c_1
  · refine lv_tableIn (off := 31) (tgt := 32) hx hb dX4_fitsHead_1 (by rw [c_1]; decide) (by rw [c_1]; decide) (by rw [c_1]; rfl) (by decide) ?_
    refine lv_iload_n hx hb dX4_fitsHead_32 rfl (lv_at hl 1 rfl) ?_
    refine lv_bipush (v := 104) hx hb dX4_fitsHead_33 (by decide) ?_
    refine lv_icmp_ne (tgt := 42) hx hb dX4_fitsHead_35 (by decide) (fun c_2 => ?_) (fun c_2 => ?_)
    · refine lv_iconst (v := 0) hx hb dX4_fitsHead_42 (by decide) ?_
      refine rz_ret (v := 0) hx hb hr hlk dX4_fitsHead_43 (by decide) ?_
      refine b2_0 ?_
      simp only [hdP, inN, softP, btw, inS, ripP, Int32.lt_iff_toInt_lt, Int32.le_iff_toInt_le, ← Int32.toInt_inj, ti_0, ti_1, ti_2, ti_3, ti_4, ti_8, ti_9, ti_10, ti_14, ti_15, ti_20, ti_60, ti_m1, nI_toInt (show p < 2 ^ 31 by omega), ti_49, ti_50, ti_51, ti_52, ti_57, ti_104] at c_1 c_2 ⊢
      omega
    · refine lv_iconst (v := 1) hx hb dX4_fitsHead_38 (by decide) ?_
      refine lv_goto (tgt := 43) hx hb dX4_fitsHead_39 (by decide) ?_
      refine rz_ret (v := 1) hx hb hr hlk dX4_fitsHead_43 (by decide) ?_
      refine b2_1 ?_
      simp only [hdP, inN, softP, btw, inS, ripP, Int32.lt_iff_toInt_lt, Int32.le_iff_toInt_le, ← Int32.toInt_inj, ti_0, ti_1, ti_2, ti_3, ti_4, ti_8, ti_9, ti_10, ti_14, ti_15, ti_20, ti_60, ti_m1, nI_toInt (show p < 2 ^ 31 by omega), ti_49, ti_50, ti_51, ti_52, ti_57, ti_104] at c_1 c_2 ⊢
      omega
  · refine lv_tableIn (off := 43) (tgt := 44) hx hb dX4_fitsHead_1 (by rw [c_1]; decide) (by rw [c_1]; decide) (by rw [c_1]; rfl) (by decide) ?_
    refine lv_iload_n hx hb dX4_fitsHead_44 rfl (lv_at hl 1 rfl) ?_
    refine lv_bipush (v := 49) hx hb dX4_fitsHead_45 (by decide) ?_
    refine lv_icmp_lt (tgt := 60) hx hb dX4_fitsHead_47 (by decide) (fun c_3 => ?_) (fun c_3 => ?_)
    · refine lv_iconst (v := 0) hx hb dX4_fitsHead_60 (by decide) ?_
      refine rz_ret (v := 0) hx hb hr hlk dX4_fitsHead_61 (by decide) ?_
      refine b2_0 ?_
      simp only [hdP, inN, softP, btw, inS, ripP, Int32.lt_iff_toInt_lt, Int32.le_iff_toInt_le, ← Int32.toInt_inj, ti_0, ti_1, ti_2, ti_3, ti_4, ti_8, ti_9, ti_10, ti_14, ti_15, ti_20, ti_60, ti_m1, nI_toInt (show p < 2 ^ 31 by omega), ti_49, ti_50, ti_51, ti_52, ti_57, ti_104] at c_1 c_3 ⊢
      omega
    · refine lv_iload_n hx hb dX4_fitsHead_50 rfl (lv_at hl 1 rfl) ?_
      refine lv_bipush (v := 52) hx hb dX4_fitsHead_51 (by decide) ?_
      refine lv_icmp_gt (tgt := 60) hx hb dX4_fitsHead_53 (by decide) (fun c_4 => ?_) (fun c_4 => ?_)
      · refine lv_iconst (v := 0) hx hb dX4_fitsHead_60 (by decide) ?_
        refine rz_ret (v := 0) hx hb hr hlk dX4_fitsHead_61 (by decide) ?_
        refine b2_0 ?_
        simp only [hdP, inN, softP, btw, inS, ripP, Int32.lt_iff_toInt_lt, Int32.le_iff_toInt_le, ← Int32.toInt_inj, ti_0, ti_1, ti_2, ti_3, ti_4, ti_8, ti_9, ti_10, ti_14, ti_15, ti_20, ti_60, ti_m1, nI_toInt (show p < 2 ^ 31 by omega), ti_49, ti_50, ti_51, ti_52, ti_57, ti_104] at c_1 c_3 c_4 ⊢
        omega
      · refine lv_iconst (v := 1) hx hb dX4_fitsHead_56 (by decide) ?_
        refine lv_goto (tgt := 61) hx hb dX4_fitsHead_57 (by decide) ?_
        refine rz_ret (v := 1) hx hb hr hlk dX4_fitsHead_61 (by decide) ?_
        refine b2_1 ?_
        simp only [hdP, inN, softP, btw, inS, ripP, Int32.lt_iff_toInt_lt, Int32.le_iff_toInt_le, ← Int32.toInt_inj, ti_0, ti_1, ti_2, ti_3, ti_4, ti_8, ti_9, ti_10, ti_14, ti_15, ti_20, ti_60, ti_m1, nI_toInt (show p < 2 ^ 31 by omega), ti_49, ti_50, ti_51, ti_52, ti_57, ti_104] at c_1 c_3 c_4 ⊢
        omega
  · refine lv_tableIn (off := 61) (tgt := 62) hx hb dX4_fitsHead_1 (by rw [c_1]; decide) (by rw [c_1]; decide) (by rw [c_1]; rfl) (by decide) ?_
    refine lv_iload_n hx hb dX4_fitsHead_62 rfl (lv_at hl 1 rfl) ?_
    refine lv_bipush (v := 50) hx hb dX4_fitsHead_63 (by decide) ?_
    refine lv_icmp_lt (tgt := 78) hx hb dX4_fitsHead_65 (by decide) (fun c_5 => ?_) (fun c_5 => ?_)
    · refine lv_iconst (v := 0) hx hb dX4_fitsHead_78 (by decide) ?_
      refine rz_ret (v := 0) hx hb hr hlk dX4_fitsHead_79 (by decide) ?_
      refine b2_0 ?_
      simp only [hdP, inN, softP, btw, inS, ripP, Int32.lt_iff_toInt_lt, Int32.le_iff_toInt_le, ← Int32.toInt_inj, ti_0, ti_1, ti_2, ti_3, ti_4, ti_8, ti_9, ti_10, ti_14, ti_15, ti_20, ti_60, ti_m1, nI_toInt (show p < 2 ^ 31 by omega), ti_49, ti_50, ti_51, ti_52, ti_57, ti_104] at c_1 c_5 ⊢
      omega
    · refine lv_iload_n hx hb dX4_fitsHead_68 rfl (lv_at hl 1 rfl) ?_
      refine lv_bipush (v := 52) hx hb dX4_fitsHead_69 (by decide) ?_
      refine lv_icmp_gt (tgt := 78) hx hb dX4_fitsHead_71 (by decide) (fun c_6 => ?_) (fun c_6 => ?_)
      · refine lv_iconst (v := 0) hx hb dX4_fitsHead_78 (by decide) ?_
        refine rz_ret (v := 0) hx hb hr hlk dX4_fitsHead_79 (by decide) ?_
        refine b2_0 ?_
        simp only [hdP, inN, softP, btw, inS, ripP, Int32.lt_iff_toInt_lt, Int32.le_iff_toInt_le, ← Int32.toInt_inj, ti_0, ti_1, ti_2, ti_3, ti_4, ti_8, ti_9, ti_10, ti_14, ti_15, ti_20, ti_60, ti_m1, nI_toInt (show p < 2 ^ 31 by omega), ti_49, ti_50, ti_51, ti_52, ti_57, ti_104] at c_1 c_5 c_6 ⊢
        omega
      · refine lv_iconst (v := 1) hx hb dX4_fitsHead_74 (by decide) ?_
        refine lv_goto (tgt := 79) hx hb dX4_fitsHead_75 (by decide) ?_
        refine rz_ret (v := 1) hx hb hr hlk dX4_fitsHead_79 (by decide) ?_
        refine b2_1 ?_
        simp only [hdP, inN, softP, btw, inS, ripP, Int32.lt_iff_toInt_lt, Int32.le_iff_toInt_le, ← Int32.toInt_inj, ti_0, ti_1, ti_2, ti_3, ti_4, ti_8, ti_9, ti_10, ti_14, ti_15, ti_20, ti_60, ti_m1, nI_toInt (show p < 2 ^ 31 by omega), ti_49, ti_50, ti_51, ti_52, ti_57, ti_104] at c_1 c_5 c_6 ⊢
        omega
  · refine lv_tableIn (off := 79) (tgt := 80) hx hb dX4_fitsHead_1 (by rw [c_1]; decide) (by rw [c_1]; decide) (by rw [c_1]; rfl) (by decide) ?_
    refine lv_iload_n hx hb dX4_fitsHead_80 rfl (lv_at hl 1 rfl) ?_
    refine lv_bipush (v := 49) hx hb dX4_fitsHead_81 (by decide) ?_
    refine lv_icmp_lt (tgt := 96) hx hb dX4_fitsHead_83 (by decide) (fun c_7 => ?_) (fun c_7 => ?_)
    · refine lv_iconst (v := 0) hx hb dX4_fitsHead_96 (by decide) ?_
      refine rz_ret (v := 0) hx hb hr hlk dX4_fitsHead_97 (by decide) ?_
      refine b2_0 ?_
      simp only [hdP, inN, softP, btw, inS, ripP, Int32.lt_iff_toInt_lt, Int32.le_iff_toInt_le, ← Int32.toInt_inj, ti_0, ti_1, ti_2, ti_3, ti_4, ti_8, ti_9, ti_10, ti_14, ti_15, ti_20, ti_60, ti_m1, nI_toInt (show p < 2 ^ 31 by omega), ti_49, ti_50, ti_51, ti_52, ti_57, ti_104] at c_1 c_7 ⊢
      omega
    · refine lv_iload_n hx hb dX4_fitsHead_86 rfl (lv_at hl 1 rfl) ?_
      refine lv_bipush (v := 51) hx hb dX4_fitsHead_87 (by decide) ?_
      refine lv_icmp_gt (tgt := 96) hx hb dX4_fitsHead_89 (by decide) (fun c_8 => ?_) (fun c_8 => ?_)
      · refine lv_iconst (v := 0) hx hb dX4_fitsHead_96 (by decide) ?_
        refine rz_ret (v := 0) hx hb hr hlk dX4_fitsHead_97 (by decide) ?_
        refine b2_0 ?_
        simp only [hdP, inN, softP, btw, inS, ripP, Int32.lt_iff_toInt_lt, Int32.le_iff_toInt_le, ← Int32.toInt_inj, ti_0, ti_1, ti_2, ti_3, ti_4, ti_8, ti_9, ti_10, ti_14, ti_15, ti_20, ti_60, ti_m1, nI_toInt (show p < 2 ^ 31 by omega), ti_49, ti_50, ti_51, ti_52, ti_57, ti_104] at c_1 c_7 c_8 ⊢
        omega
      · refine lv_iconst (v := 1) hx hb dX4_fitsHead_92 (by decide) ?_
        refine lv_goto (tgt := 97) hx hb dX4_fitsHead_93 (by decide) ?_
        refine rz_ret (v := 1) hx hb hr hlk dX4_fitsHead_97 (by decide) ?_
        refine b2_1 ?_
        simp only [hdP, inN, softP, btw, inS, ripP, Int32.lt_iff_toInt_lt, Int32.le_iff_toInt_le, ← Int32.toInt_inj, ti_0, ti_1, ti_2, ti_3, ti_4, ti_8, ti_9, ti_10, ti_14, ti_15, ti_20, ti_60, ti_m1, nI_toInt (show p < 2 ^ 31 by omega), ti_49, ti_50, ti_51, ti_52, ti_57, ti_104] at c_1 c_7 c_8 ⊢
        omega
  · refine lv_tableOut (tgt := 98) hx hb dX4_fitsHead_1 c_1 (by decide) ?_
    refine lv_iload_n hx hb dX4_fitsHead_98 rfl (lv_at hl 1 rfl) ?_
    refine lv_bipush (v := 49) hx hb dX4_fitsHead_99 (by decide) ?_
    refine lv_icmp_lt (tgt := 114) hx hb dX4_fitsHead_101 (by decide) (fun c_9 => ?_) (fun c_9 => ?_)
    · refine lv_iconst (v := 0) hx hb dX4_fitsHead_114 (by decide) ?_
      refine rz_ret (v := 0) hx hb hr hlk dX4_fitsHead_115 (by decide) ?_
      refine b2_0 ?_
      simp only [hdP, inN, softP, btw, inS, ripP, Int32.lt_iff_toInt_lt, Int32.le_iff_toInt_le, ← Int32.toInt_inj, ti_0, ti_1, ti_2, ti_3, ti_4, ti_8, ti_9, ti_10, ti_14, ti_15, ti_20, ti_60, ti_m1, nI_toInt (show p < 2 ^ 31 by omega), ti_49, ti_50, ti_51, ti_52, ti_57, ti_104] at c_1 c_9 ⊢
      omega
    · refine lv_iload_n hx hb dX4_fitsHead_104 rfl (lv_at hl 1 rfl) ?_
      refine lv_bipush (v := 57) hx hb dX4_fitsHead_105 (by decide) ?_
      refine lv_icmp_gt (tgt := 114) hx hb dX4_fitsHead_107 (by decide) (fun c_10 => ?_) (fun c_10 => ?_)
      · refine lv_iconst (v := 0) hx hb dX4_fitsHead_114 (by decide) ?_
        refine rz_ret (v := 0) hx hb hr hlk dX4_fitsHead_115 (by decide) ?_
        refine b2_0 ?_
        simp only [hdP, inN, softP, btw, inS, ripP, Int32.lt_iff_toInt_lt, Int32.le_iff_toInt_le, ← Int32.toInt_inj, ti_0, ti_1, ti_2, ti_3, ti_4, ti_8, ti_9, ti_10, ti_14, ti_15, ti_20, ti_60, ti_m1, nI_toInt (show p < 2 ^ 31 by omega), ti_49, ti_50, ti_51, ti_52, ti_57, ti_104] at c_1 c_10 c_9 ⊢
        omega
      · refine lv_iconst (v := 1) hx hb dX4_fitsHead_110 (by decide) ?_
        refine lv_goto (tgt := 115) hx hb dX4_fitsHead_111 (by decide) ?_
        refine rz_ret (v := 1) hx hb hr hlk dX4_fitsHead_115 (by decide) ?_
        refine b2_1 ?_
        simp only [hdP, inN, softP, btw, inS, ripP, Int32.lt_iff_toInt_lt, Int32.le_iff_toInt_le, ← Int32.toInt_inj, ti_0, ti_1, ti_2, ti_3, ti_4, ti_8, ti_9, ti_10, ti_14, ti_15, ti_20, ti_60, ti_m1, nI_toInt (show p < 2 ^ 31 by omega), ti_49, ti_50, ti_51, ti_52, ti_57, ti_104] at c_1 c_10 c_9 ⊢
        omega
set_option maxRecDepth 100000 in
set_option maxHeartbeats 4000000 in
/-- X4_fitsRow -/
theorem c_X4_fitsRow (l : Launch) (D : va_G) (cI cJ cO : ClassId) (p : Nat) (v : Int32) (hp : p < 60) : RG l yX4_fitsRow wsX4_fitsRow 1 20 D [(cI, .int), (cJ, .long), (cO, .object "ShornHill$Sheet")] [.int (nI p), .int v] [] (vp_Si (fun (r : Int32) => r = (b2 (rwP p v)))) := by
  refine RG.of (cc := cX4_fitsRow) (maxL := 2) (ret := (some .boolean)) (by decide) rfl (Nat.le_of_ble_eq_true rfl) ?_
  intro P_ E_ S_ M_ B_ T_ K_ hx hb hml hr hts hown hlk hP hK ls hl
  have hl : lv_has ls 2 [(0, .int (nI p)), (1, .int v)] := hl
  refine lv_iload_n hx hb dX4_fitsRow_0 rfl (lv_at hl 0 rfl) ?_
  refine lv_if_ne (tgt := 18) hx hb dX4_fitsRow_1 (by decide) (fun c_1 => ?_) (fun c_1 => ?_)
  · have c_1 : ¬ p = 0 := fun z => c_1 ((nI_eq (a := p) (b := 0) (by omega) (by omega)).mpr z)
    refine lv_iload_n hx hb dX4_fitsRow_18 rfl (lv_at hl 1 rfl) ?_
    refine k_ri (run_RS (As := [.int v]) (rest := []) ⟨hx, hb, hml, hown, hts⟩ (c_X4_kindOf l D cI cJ cO v) (va_cwS 1 hts gX4_fitsRow_X4_kindOf rfl rfl rfl (by decide +kernel) ⟨Nat.le_of_ble_eq_true rfl, Nat.le_of_ble_eq_true rfl⟩) hP hK [] rfl rfl hl.1 rfl (Nat.le_of_ble_eq_true rfl) dX4_fitsRow_19 ⟨Nat.le_refl _, Nat.le_refl _⟩) (fun r_2 q_3 => ?_)
    obtain rfl := q_3
    refine lv_bipush (v := (-9)) hx hb dX4_fitsRow_22 (by decide) ?_
    refine lv_icmp_eq (tgt := 31) hx hb dX4_fitsRow_24 (by decide) (fun c_4 => ?_) (fun c_4 => ?_)
    · refine lv_iconst (v := 0) hx hb dX4_fitsRow_31 (by decide) ?_
      refine rz_ret (v := 0) hx hb hr hlk dX4_fitsRow_32 (by decide) ?_
      exact b2_0 (by first | exact Or.inl ⟨by assumption, by assumption⟩ | exact Or.inr ⟨by assumption, by assumption⟩ | (rintro (⟨z1, z2⟩ | ⟨z1, z2⟩) <;> first | exact absurd z1 (by assumption) | exact absurd z2 (by assumption) | exact absurd (by assumption) z1 | exact absurd (by assumption) z2))
    · refine lv_iconst (v := 1) hx hb dX4_fitsRow_27 (by decide) ?_
      refine lv_goto (tgt := 32) hx hb dX4_fitsRow_28 (by decide) ?_
      refine rz_ret (v := 1) hx hb hr hlk dX4_fitsRow_32 (by decide) ?_
      exact b2_1 (by first | exact Or.inl ⟨by assumption, by assumption⟩ | exact Or.inr ⟨by assumption, by assumption⟩ | (rintro (⟨z1, z2⟩ | ⟨z1, z2⟩) <;> first | exact absurd z1 (by assumption) | exact absurd z2 (by assumption) | exact absurd (by assumption) z1 | exact absurd (by assumption) z2))
  · have c_1 : p = 0 := (nI_eq (a := p) (b := 0) (by omega) (by omega)).mp c_1
    refine lv_iload_n hx hb dX4_fitsRow_4 rfl (lv_at hl 1 rfl) ?_
    refine lv_bipush (v := 59) hx hb dX4_fitsRow_5 (by decide) ?_
    refine lv_icmp_ne (tgt := 14) hx hb dX4_fitsRow_7 (by decide) (fun c_5 => ?_) (fun c_5 => ?_)
    · refine lv_iconst (v := 0) hx hb dX4_fitsRow_14 (by decide) ?_
      refine lv_goto (tgt := 32) hx hb dX4_fitsRow_15 (by decide) ?_
      refine rz_ret (v := 0) hx hb hr hlk dX4_fitsRow_32 (by decide) ?_
      exact b2_0 (by first | exact Or.inl ⟨by assumption, by assumption⟩ | exact Or.inr ⟨by assumption, by assumption⟩ | (rintro (⟨z1, z2⟩ | ⟨z1, z2⟩) <;> first | exact absurd z1 (by assumption) | exact absurd z2 (by assumption) | exact absurd (by assumption) z1 | exact absurd (by assumption) z2))
    · refine lv_iconst (v := 1) hx hb dX4_fitsRow_10 (by decide) ?_
      refine lv_goto (tgt := 32) hx hb dX4_fitsRow_11 (by decide) ?_
      refine rz_ret (v := 1) hx hb hr hlk dX4_fitsRow_32 (by decide) ?_
      exact b2_1 (by first | exact Or.inl ⟨by assumption, by assumption⟩ | exact Or.inr ⟨by assumption, by assumption⟩ | (rintro (⟨z1, z2⟩ | ⟨z1, z2⟩) <;> first | exact absurd z1 (by assumption) | exact absurd z2 (by assumption) | exact absurd (by assumption) z1 | exact absurd (by assumption) z2))
set_option maxRecDepth 100000 in
set_option maxHeartbeats 4000000 in
/-- X4_firstFault -/
theorem c_X4_firstFault (l : Launch) (D : va_G) (cI cJ cO : ClassId) (r : Nat) (i : Nat) (n : Nat) (tx : Nat → Int32) (hin : i + n ≤ 60) : RG l yX4_firstFault wsX4_firstFault 2 41 D [(cI, .int), (cJ, .long), (cO, .object "ShornHill$Sheet")] [.ref r, .int (nI i), .int (nI n)] [(r, .inl (cI, 60, .inl tx))] (vp_Si (fun (r : Int32) => r = (ffR tx i n))) := by
  refine RG.of (cc := cX4_firstFault) (maxL := 9) (ret := (some .int)) (by decide) rfl (Nat.le_of_ble_eq_true rfl) ?_
  intro P_ E_ S_ M_ B_ T_ K_ hx hb hml hr hts hown hlk hP hK ls hl
  have hl : lv_has ls 9 [(0, .ref r), (1, .int (nI i)), (2, .int (nI n))] := hl
  refine lv_iconst (v := 0) hx hb dX4_firstFault_0 (by decide) ?_
  refine lv_istore_n (lv' := [(3, .int 0), (0, .ref r), (1, .int (nI i)), (2, .int (nI n))]) hx hb dX4_firstFault_1 rfl hl (by decide) rfl (fun ls hl => ?_)
  refine lv_iconst (v := 0) hx hb dX4_firstFault_2 (by decide) ?_
  refine lv_istore (lv' := [(4, .int 0), (3, .int 0), (0, .ref r), (1, .int (nI i)), (2, .int (nI n))]) hx hb dX4_firstFault_3 hl (by decide) rfl (fun ls hl => ?_)
  refine lv_iconst (v := 0) hx hb dX4_firstFault_5 (by decide) ?_
  refine lv_istore (lv' := [(5, .int 0), (4, .int 0), (3, .int 0), (0, .ref r), (1, .int (nI i)), (2, .int (nI n))]) hx hb dX4_firstFault_6 hl (by decide) rfl (fun ls hl => ?_)
  refine lv_iconst (v := 0) hx hb dX4_firstFault_8 (by decide) ?_
  refine lv_istore (lv' := [(6, .int 0), (5, .int 0), (4, .int 0), (3, .int 0), (0, .ref r), (1, .int (nI i)), (2, .int (nI n))]) hx hb dX4_firstFault_9 hl (by decide) rfl (fun ls hl => ?_)
  have key_2 : ∀ (n_1 : Nat) (p : Nat) (rl : Nat) (wd : Nat) (cl : Nat), (p ≤ n) → (FI tx i p rl wd cl) → n - p < n_1 → ∀ ls : Array Slot, lv_has ls 9 [(0, .ref r), (1, .int (nI i)), (2, .int (nI n)), (3, .int (nI rl)), (4, .int (nI wd)), (5, .int (nI cl)), (6, .int (nI p))] → W P_ l E_ ({ frames := 2, cells := 0, slots := 0, locals := 41 } : Room) S_ M_ (([.ref r, .int (nI i), .int (nI n)] : List Value).toArray) B_ T_ K_ S_.heap [] 0 0 (MQ B_ (vp_Si (fun (r : Int32) => r = (ffR tx i n))) (([.ref r, .int (nI i), .int (nI n)] : List Value).toArray) S_ 0 0 (fun _ => False)) (F0 M_ 11 ls []) := by
    intro n_1
    induction n_1 with
    | zero =>
      intro p rl wd cl hk hF hmu_n_1
      exact absurd hmu_n_1 (Nat.not_lt_zero _)
    | succ n_1 ih_3 =>
      intro p rl wd cl hk hF hmu_n_1 ls hl
      have hl : lv_has ls 9 [(0, .ref r), (1, .int (nI i)), (2, .int (nI n)), (3, .int (nI rl)), (4, .int (nI wd)), (5, .int (nI cl)), (6, .int (nI p))] := hl
      refine lv_iload hx hb dX4_firstFault_11 (lv_at hl 6 rfl) ?_
      refine lv_iload_n hx hb dX4_firstFault_13 rfl (lv_at hl 2 rfl) ?_
      refine lv_icmp_ge (tgt := 139) hx hb dX4_firstFault_14 (by decide) (fun c_4 => ?_) (fun c_4 => ?_)
      · have c_4 : n ≤ p := (nI_leI (a := n) (b := p) (by omega) (by omega)).mp c_4
        have hrl : rl < 60 := FI_rl hF
        have hpn : p = n := by omega
        rw [hpn] at hF
        refine lv_iload_n hx hb dX4_firstFault_139 rfl (lv_at hl 2 rfl) ?_
        refine lv_iconst (v := 5) hx hb dX4_firstFault_140 (by decide) ?_
        refine lv_icmp_lt (tgt := 148) hx hb dX4_firstFault_141 (by decide) (fun c_5 => ?_) (fun c_5 => ?_)
        · have c_5 : n < 5 := (nI_ltI (a := n) (b := 5) (by omega) (by omega)).mp c_5
          refine lv_iload_n hx hb dX4_firstFault_148 rfl (lv_at hl 2 rfl) ?_
          refine lv_goto (tgt := 154) hx hb dX4_firstFault_149 (by decide) ?_
          refine ri_ret (v := (nI n)) hx hb hr hlk dX4_firstFault_154 ?_
          exact ffR_short hF (by omega)
        · have c_5 : 5 ≤ n := Nat.le_of_not_lt (fun z => c_5 ((nI_ltI (a := n) (b := 5) (by omega) (by omega)).mpr z))
          refine lv_iload_n hx hb dX4_firstFault_144 rfl (lv_at hl 3 rfl) ?_
          refine lv_if_le (tgt := 152) hx hb dX4_firstFault_145 (by decide) (fun c_6 => ?_) (fun c_6 => ?_)
          · have c_6 : rl ≤ 0 := (nI_leI (a := rl) (b := 0) (by omega) (by omega)).mp c_6
            refine lv_bipush (v := (-9)) hx hb dX4_firstFault_152 (by decide) ?_
            refine ri_ret (v := (-9)) hx hb hr hlk dX4_firstFault_154 ?_
            exact ffR_full hF (by omega) (by omega)
          · have c_6 : 0 < rl := Nat.lt_of_not_le (fun z => c_6 ((nI_leI (a := rl) (b := 0) (by omega) (by omega)).mpr z))
            refine lv_iload_n hx hb dX4_firstFault_148 rfl (lv_at hl 2 rfl) ?_
            refine lv_goto (tgt := 154) hx hb dX4_firstFault_149 (by decide) ?_
            refine ri_ret (v := (nI n)) hx hb hr hlk dX4_firstFault_154 ?_
            exact ffR_more hF (by omega) (by omega)
      · have c_4 : p < n := Nat.lt_of_not_le (fun z => c_4 ((nI_leI (a := n) (b := p) (by omega) (by omega)).mpr z))
        have hcl : cl < 60 := FI_cl hF (by omega)
        have hwd : wd < 60 := FI_wd hF
        have hrl : rl < 60 := FI_rl hF
        refine lv_aload_n hx hb dX4_firstFault_17 rfl (lv_at hl 0 rfl) ?_
        refine lv_iload_n hx hb dX4_firstFault_18 rfl (lv_at hl 1 rfl) ?_
        refine lv_iload hx hb dX4_firstFault_19 (lv_at hl 6 rfl) ?_
        refine lv_iadd hx hb dX4_firstFault_21 ?_
        refine k_top (y := (nI (i + p))) (nI_add _ _) ?_
        refine k_iald hx hb hK hP 0 0 rfl rfl (j := i + p) (vp_in_nI (show i + p < 60 by omega) (by decide)) (nI_clamp (by omega)) dX4_firstFault_22 ?_
        refine lv_istore (lv' := [(7, .int (tx (i + p))), (0, .ref r), (1, .int (nI i)), (2, .int (nI n)), (3, .int (nI rl)), (4, .int (nI wd)), (5, .int (nI cl)), (6, .int (nI p))]) hx hb dX4_firstFault_23 hl (by decide) rfl (fun ls hl => ?_)
        refine lv_iload hx hb dX4_firstFault_25 (lv_at hl 7 rfl) ?_
        refine lv_iconst (v := 5) hx hb dX4_firstFault_27 (by decide) ?_
        refine lv_icmp_ge (tgt := 35) hx hb dX4_firstFault_28 (by decide) (fun c_7 => ?_) (fun c_7 => ?_)
        · have c_7 : 5 ≤ p := (nI_leI (a := 5) (b := p) (by omega) (by omega)).mp c_7
          refine lv_iconst (v := 0) hx hb dX4_firstFault_35 (by decide) ?_
          refine lv_istore (lv' := [(8, .int 0), (7, .int (tx (i + p))), (0, .ref r), (1, .int (nI i)), (2, .int (nI n)), (3, .int (nI rl)), (4, .int (nI wd)), (5, .int (nI cl)), (6, .int (nI p))]) hx hb dX4_firstFault_36 hl (by decide) rfl (fun ls hl => ?_)
          refine lv_iload hx hb dX4_firstFault_38 (lv_at hl 0 rfl) ?_
          refine lv_if_eq (tgt := 56) hx hb dX4_firstFault_40 (by decide) (fun c_8 => ?_) (fun c_8 => ?_)
          · refine lv_iload_n hx hb dX4_firstFault_56 rfl (lv_at hl 5 rfl) ?_
            refine lv_if_eq (tgt := 70) hx hb dX4_firstFault_57 (by decide) (fun c_9 => ?_) (fun c_9 => ?_)
            · have c_9 : rl = 0 := (nI_eq (a := rl) (b := 0) (by omega) (by omega)).mp c_9
              refine lv_iload hx hb dX4_firstFault_70 (lv_at hl 8 rfl) ?_
              refine ri_ret (v := (nI p)) hx hb hr hlk dX4_firstFault_72 ?_
              exact ffR_at hF (by omega) (no_left hF (by omega) (by omega))
            · have c_9 : ¬ rl = 0 := fun z => c_9 ((nI_eq (a := rl) (b := 0) (by omega) (by omega)).mpr z)
              refine lv_iload hx hb dX4_firstFault_60 (lv_at hl 7 rfl) ?_
              refine lv_iload hx hb dX4_firstFault_62 (lv_at hl 1 rfl) ?_
              refine k_ri (run_RS (As := [.int (nI cl), .int (tx (i + p))]) (rest := []) ⟨hx, hb, hml, hown, hts⟩ (c_X4_fitsRow l D cI cJ cO cl (tx (i + p)) hcl) (va_cwS 2 hts gX4_firstFault_X4_fitsRow rfl rfl rfl (by decide +kernel) ⟨Nat.le_of_ble_eq_true rfl, Nat.le_of_ble_eq_true rfl⟩) hP hK [] rfl rfl hl.1 rfl (Nat.le_of_ble_eq_true rfl) dX4_firstFault_64 ⟨Nat.le_refl _, Nat.le_refl _⟩) (fun r_10 q_11 => ?_)
              obtain rfl := q_11
              refine lv_if_ne (tgt := 73) hx hb dX4_firstFault_67 (by decide) (fun c_12 => ?_) (fun c_12 => ?_)
              · have c_12 := b2_t c_12
                refine lv_iload hx hb dX4_firstFault_73 (lv_at hl 8 rfl) ?_
                refine lv_iconst (v := 1) hx hb dX4_firstFault_75 (by decide) ?_
                refine lv_icmp_ne (tgt := 88) hx hb dX4_firstFault_76 (by decide) (fun c_13 => ?_) (fun c_13 => ?_)
                · have c_13 : ¬ p = 1 := fun z => c_13 ((nI_eq (a := p) (b := 1) (by omega) (by omega)).mpr z)
                  refine lv_iload hx hb dX4_firstFault_88 (lv_at hl 8 rfl) ?_
                  refine lv_iconst (v := 2) hx hb dX4_firstFault_90 (by decide) ?_
                  refine lv_icmp_ne (tgt := 104) hx hb dX4_firstFault_91 (by decide) (fun c_14 => ?_) (fun c_14 => ?_)
                  · have c_14 : ¬ p = 2 := fun z => c_14 ((nI_eq (a := p) (b := 2) (by omega) (by omega)).mpr z)
                    refine lv_iload hx hb dX4_firstFault_104 (lv_at hl 0 rfl) ?_
                    refine lv_if_ne (tgt := 122) hx hb dX4_firstFault_106 (by decide) (fun c_15 => ?_) (fun c_15 => ?_)
                    · exact absurd c_15 (by decide)
                    · refine lv_iload hx hb dX4_firstFault_109 (lv_at hl 7 rfl) ?_
                      refine lv_iload hx hb dX4_firstFault_111 (lv_at hl 6 rfl) ?_
                      refine lv_icmp_ge (tgt := 122) hx hb dX4_firstFault_113 (by decide) (fun c_16 => ?_) (fun c_16 => ?_)
                      · have c_16 : wd ≤ cl := (nI_leI (a := wd) (b := cl) (by omega) (by omega)).mp c_16
                        refine lv_iload hx hb dX4_firstFault_122 (lv_at hl 0 rfl) ?_
                        refine lv_if_ne (tgt := 133) hx hb dX4_firstFault_124 (by decide) (fun c_17 => ?_) (fun c_17 => ?_)
                        · exact absurd c_17 (by decide)
                        · refine lv_iconst (v := 0) hx hb dX4_firstFault_127 (by decide) ?_
                          refine lv_istore (lv' := [(5, .int 0), (8, .int 0), (7, .int (tx (i + p))), (0, .ref r), (1, .int (nI i)), (2, .int (nI n)), (3, .int (nI rl)), (4, .int (nI wd)), (6, .int (nI p))]) hx hb dX4_firstFault_128 hl (by decide) rfl (fun ls hl => ?_)
                          refine lv_iinc (v := (nI (rl - 1))) (lv' := [(3, .int (nI (rl - 1))), (5, .int 0), (8, .int 0), (7, .int (tx (i + p))), (0, .ref r), (1, .int (nI i)), (2, .int (nI n)), (4, .int (nI wd)), (6, .int (nI p))]) hx hb dX4_firstFault_130 hl (k := 6) rfl (iinc_m1 (by omega)) (by decide) rfl (fun ls hl => ?_)
                          refine lv_iinc (v := (nI (p + 1))) (lv' := [(6, .int (nI (p + 1))), (3, .int (nI (rl - 1))), (5, .int 0), (8, .int 0), (7, .int (tx (i + p))), (0, .ref r), (1, .int (nI i)), (2, .int (nI n)), (4, .int (nI wd))]) hx hb dX4_firstFault_133 hl (k := 8) rfl (nI_add _ 1) (by decide) rfl (fun ls hl => ?_)
                          refine lv_goto (tgt := 11) hx hb dX4_firstFault_136 (by decide) ?_
                          exact ih_3 (p + 1) (rl - 1) wd 0 (by omega) (FI_e hF (by omega) (by omega) (by assumption) (by omega)) (by omega) ls (lv_sub hl [5, 6, 7, 1, 8, 2, 0] rfl)
                      · have c_16 : cl < wd := Nat.lt_of_not_le (fun z => c_16 ((nI_leI (a := wd) (b := cl) (by omega) (by omega)).mpr z))
                        refine lv_iinc (v := (nI (cl + 1))) (lv' := [(5, .int (nI (cl + 1))), (8, .int 0), (7, .int (tx (i + p))), (0, .ref r), (1, .int (nI i)), (2, .int (nI n)), (3, .int (nI rl)), (4, .int (nI wd)), (6, .int (nI p))]) hx hb dX4_firstFault_116 hl (k := 7) rfl (nI_add _ 1) (by decide) rfl (fun ls hl => ?_)
                        refine lv_goto (tgt := 133) hx hb dX4_firstFault_119 (by decide) ?_
                        refine lv_iinc (v := (nI (p + 1))) (lv' := [(6, .int (nI (p + 1))), (5, .int (nI (cl + 1))), (8, .int 0), (7, .int (tx (i + p))), (0, .ref r), (1, .int (nI i)), (2, .int (nI n)), (3, .int (nI rl)), (4, .int (nI wd))]) hx hb dX4_firstFault_133 hl (k := 8) rfl (nI_add _ 1) (by decide) rfl (fun ls hl => ?_)
                        refine lv_goto (tgt := 11) hx hb dX4_firstFault_136 (by decide) ?_
                        exact ih_3 (p + 1) rl wd (cl + 1) (by omega) (FI_c hF (by omega) (by omega) (by assumption) (by omega)) (by omega) ls (lv_sub hl [4, 5, 6, 7, 8, 1, 0] rfl)
                  · exact absurd ((nI_eq (a := p) (b := 2) (by omega) (by omega)).mp c_14) (by omega)
                · exact absurd ((nI_eq (a := p) (b := 1) (by omega) (by omega)).mp c_13) (by omega)
              · have c_12 := b2_f c_12
                refine lv_iload hx hb dX4_firstFault_70 (lv_at hl 8 rfl) ?_
                refine ri_ret (v := (nI p)) hx hb hr hlk dX4_firstFault_72 ?_
                exact ffR_at hF (by omega) (no_row hF (by omega) (by assumption))
          · exact absurd c_8 (by decide)
        · have c_7 : p < 5 := Nat.lt_of_not_le (fun z => c_7 ((nI_leI (a := 5) (b := p) (by omega) (by omega)).mpr z))
          refine lv_iconst (v := 1) hx hb dX4_firstFault_31 (by decide) ?_
          refine lv_goto (tgt := 36) hx hb dX4_firstFault_32 (by decide) ?_
          refine lv_istore (lv' := [(8, .int 1), (7, .int (tx (i + p))), (0, .ref r), (1, .int (nI i)), (2, .int (nI n)), (3, .int (nI rl)), (4, .int (nI wd)), (5, .int (nI cl)), (6, .int (nI p))]) hx hb dX4_firstFault_36 hl (by decide) rfl (fun ls hl => ?_)
          refine lv_iload hx hb dX4_firstFault_38 (lv_at hl 0 rfl) ?_
          refine lv_if_eq (tgt := 56) hx hb dX4_firstFault_40 (by decide) (fun c_18 => ?_) (fun c_18 => ?_)
          · exact absurd c_18 (by decide)
          · refine lv_iload hx hb dX4_firstFault_43 (lv_at hl 8 rfl) ?_
            refine lv_iload hx hb dX4_firstFault_45 (lv_at hl 1 rfl) ?_
            refine k_ri (run_RS (As := [.int (nI p), .int (tx (i + p))]) (rest := []) ⟨hx, hb, hml, hown, hts⟩ (c_X4_fitsHead l D cI cJ cO p (tx (i + p)) (by omega)) (va_cwS 2 hts gX4_firstFault_X4_fitsHead rfl rfl rfl (by decide +kernel) ⟨Nat.le_of_ble_eq_true rfl, Nat.le_of_ble_eq_true rfl⟩) hP hK [] rfl rfl hl.1 rfl (Nat.le_of_ble_eq_true rfl) dX4_firstFault_47 ⟨Nat.le_refl _, Nat.le_refl _⟩) (fun r_19 q_20 => ?_)
            obtain rfl := q_20
            refine lv_if_ne (tgt := 73) hx hb dX4_firstFault_50 (by decide) (fun c_21 => ?_) (fun c_21 => ?_)
            · have c_21 := b2_t c_21
              refine lv_iload hx hb dX4_firstFault_73 (lv_at hl 8 rfl) ?_
              refine lv_iconst (v := 1) hx hb dX4_firstFault_75 (by decide) ?_
              refine lv_icmp_ne (tgt := 88) hx hb dX4_firstFault_76 (by decide) (fun c_22 => ?_) (fun c_22 => ?_)
              · have c_22 : ¬ p = 1 := fun z => c_22 ((nI_eq (a := p) (b := 1) (by omega) (by omega)).mpr z)
                refine lv_iload hx hb dX4_firstFault_88 (lv_at hl 8 rfl) ?_
                refine lv_iconst (v := 2) hx hb dX4_firstFault_90 (by decide) ?_
                refine lv_icmp_ne (tgt := 104) hx hb dX4_firstFault_91 (by decide) (fun c_23 => ?_) (fun c_23 => ?_)
                · have c_23 : ¬ p = 2 := fun z => c_23 ((nI_eq (a := p) (b := 2) (by omega) (by omega)).mpr z)
                  refine lv_iload hx hb dX4_firstFault_104 (lv_at hl 0 rfl) ?_
                  refine lv_if_ne (tgt := 122) hx hb dX4_firstFault_106 (by decide) (fun c_24 => ?_) (fun c_24 => ?_)
                  · refine lv_iload hx hb dX4_firstFault_122 (lv_at hl 0 rfl) ?_
                    refine lv_if_ne (tgt := 133) hx hb dX4_firstFault_124 (by decide) (fun c_25 => ?_) (fun c_25 => ?_)
                    · refine lv_iinc (v := (nI (p + 1))) (lv' := [(6, .int (nI (p + 1))), (8, .int 1), (7, .int (tx (i + p))), (0, .ref r), (1, .int (nI i)), (2, .int (nI n)), (3, .int (nI rl)), (4, .int (nI wd)), (5, .int (nI cl))]) hx hb dX4_firstFault_133 hl (k := 8) rfl (nI_add _ 1) (by decide) rfl (fun ls hl => ?_)
                      refine lv_goto (tgt := 11) hx hb dX4_firstFault_136 (by decide) ?_
                      exact ih_3 (p + 1) rl wd cl (by omega) (FI_h hF (by omega) (by omega) (by omega) (by assumption)) (by omega) ls (lv_sub hl [3, 4, 5, 6, 7, 8, 0] rfl)
                    · exact absurd c_25 (by decide)
                  · exact absurd c_24 (by decide)
                · have c_23 : p = 2 := (nI_eq (a := p) (b := 2) (by omega) (by omega)).mp c_23
                  refine lv_iload hx hb dX4_firstFault_94 (lv_at hl 1 rfl) ?_
                  refine lv_bipush (v := 48) hx hb dX4_firstFault_96 (by decide) ?_
                  refine lv_isub hx hb dX4_firstFault_98 ?_
                  refine k_top (y := (nI (hN (tx (i + 2))))) (FI_d2 hF (by omega) (by assumption)) ?_
                  refine lv_istore (lv' := [(4, .int (nI (hN (tx (i + 2))))), (8, .int 1), (7, .int (tx (i + p))), (0, .ref r), (1, .int (nI i)), (2, .int (nI n)), (3, .int (nI rl)), (5, .int (nI cl)), (6, .int (nI p))]) hx hb dX4_firstFault_99 hl (by decide) rfl (fun ls hl => ?_)
                  refine lv_goto (tgt := 133) hx hb dX4_firstFault_101 (by decide) ?_
                  refine lv_iinc (v := (nI (p + 1))) (lv' := [(6, .int (nI (p + 1))), (4, .int (nI (hN (tx (i + 2))))), (8, .int 1), (7, .int (tx (i + p))), (0, .ref r), (1, .int (nI i)), (2, .int (nI n)), (3, .int (nI rl)), (5, .int (nI cl))]) hx hb dX4_firstFault_133 hl (k := 8) rfl (nI_add _ 1) (by decide) rfl (fun ls hl => ?_)
                  refine lv_goto (tgt := 11) hx hb dX4_firstFault_136 (by decide) ?_
                  exact ih_3 (p + 1) rl (hN (tx (i + 2))) cl (by omega) (FI_h2 hF (by omega) (by assumption)) (by omega) ls (lv_sub hl [4, 5, 6, 7, 1, 8, 0] rfl)
              · have c_22 : p = 1 := (nI_eq (a := p) (b := 1) (by omega) (by omega)).mp c_22
                refine lv_iload hx hb dX4_firstFault_79 (lv_at hl 1 rfl) ?_
                refine lv_bipush (v := 48) hx hb dX4_firstFault_81 (by decide) ?_
                refine lv_isub hx hb dX4_firstFault_83 ?_
                refine k_top (y := (nI (hN (tx (i + 1))))) (FI_d1 hF (by omega) (by assumption)) ?_
                refine lv_istore_n (lv' := [(3, .int (nI (hN (tx (i + 1))))), (8, .int 1), (7, .int (tx (i + p))), (0, .ref r), (1, .int (nI i)), (2, .int (nI n)), (4, .int (nI wd)), (5, .int (nI cl)), (6, .int (nI p))]) hx hb dX4_firstFault_84 rfl hl (by decide) rfl (fun ls hl => ?_)
                refine lv_goto (tgt := 133) hx hb dX4_firstFault_85 (by decide) ?_
                refine lv_iinc (v := (nI (p + 1))) (lv' := [(6, .int (nI (p + 1))), (3, .int (nI (hN (tx (i + 1))))), (8, .int 1), (7, .int (tx (i + p))), (0, .ref r), (1, .int (nI i)), (2, .int (nI n)), (4, .int (nI wd)), (5, .int (nI cl))]) hx hb dX4_firstFault_133 hl (k := 8) rfl (nI_add _ 1) (by decide) rfl (fun ls hl => ?_)
                refine lv_goto (tgt := 11) hx hb dX4_firstFault_136 (by decide) ?_
                exact ih_3 (p + 1) (hN (tx (i + 1))) wd cl (by omega) (FI_h1 hF (by omega) (by assumption)) (by omega) ls (lv_sub hl [4, 5, 6, 1, 7, 8, 0] rfl)
            · have c_21 := b2_f c_21
              refine lv_goto (tgt := 70) hx hb dX4_firstFault_53 (by decide) ?_
              refine lv_iload hx hb dX4_firstFault_70 (lv_at hl 8 rfl) ?_
              refine ri_ret (v := (nI p)) hx hb hr hlk dX4_firstFault_72 ?_
              exact ffR_at hF (by omega) (no_head (by omega) (by assumption))
  exact key_2 _ 0 0 0 0 (by omega) (FI_0 tx i) (Nat.lt_succ_self _) ls (lv_sub hl [4, 5, 6, 3, 2, 1, 0] rfl)
theorem iwX0_meet_X0 : ∀ x ∈ wsX00, x ∈ wsX0_meet := by decide +kernel
set_option maxRecDepth 100000 in
set_option maxHeartbeats 4000000 in
/-- X0_meet -/
theorem c_X0_meet (l : Launch) (D : va_G) (cI cJ cO : ClassId) (a : Nat → Nat) (h : Nat) (w : Nat) (pc : Int32) (br : Int32) (kd : Nat → Int32) (et : Nat → Int32) (nb : Nat → Int32) (j : Nat) (r : Nat) (q : Nat) (hj : j = r * w + q) (hj16 : j < 16) (hq : q < w) (hrh : r < h) (hh : h < 5) (hw : w < 5) : MG l yX0_meet wsX0_meet 0 0 0 0 D [(cI, .int), (cJ, .long), (cO, .object "ShornHill$Sheet")] [.ref (a 1), .int (nI j), .int (nI r), .int (nI q)] [(a 1, .inr (0, [.int (nI h), .int (nI w), .int pc, .int br, .ref (a 2), .ref (a 3), .ref (a 4)])), (a 2, .inl (cI, 16, .inl kd)), (a 3, .inl (cI, 16, .inl et)), (a 4, .inl (cI, 64, .inl nb))] (QV D (fun (w1 : va_W) => w1 = [(a 1, .inr (0, [.int (nI h), .int (nI w), .int pc, .int br, .ref (a 2), .ref (a 3), .ref (a 4)])), (a 2, .inl (cI, 16, .inl kd)), (a 3, .inl (cI, 16, .inl et)), (a 4, .inl (cI, 64, .inl (mtF h w nb j)))])) := by
  refine MG.of (cc := cX0_meet) (maxL := 4) (ret := none) (by decide) rfl (Nat.le_of_ble_eq_true rfl) ?_
  intro P_ E_ S_ M_ B_ T_ K_ hx hb hml hr hts hown hlk hnm A hA hP hK hD hS ls hl
  have hl : lv_has ls 4 [(0, .ref (a 1)), (1, .int (nI j)), (2, .int (nI r)), (3, .int (nI q))] := hl
  have hin0 : ∀ x ∈ u_ws RX0 TX0 7, x ∈ wsX0_meet := iwX0_meet_X0
  refine lv_aload_n hx hb dX0_meet_0 rfl (lv_at hl 0 rfl) ?_
  refine va_get (D := D) (ci := 0) (v := .ref (a 4)) (C := RX0) (T := TX0) (N := 7) hx hb hts hin0 hown hK.1 hP 0 rfl rfl 6 (by decide) (hts _ (List.mem_of_getElem? (i := 1) rfl)) (fun _ h9 => h9) rfl dX0_meet_1 ?_
  refine lv_iconst (v := 4) hx hb dX0_meet_4 (by decide) ?_
  refine lv_iload_n hx hb dX0_meet_5 rfl (lv_at hl 1 rfl) ?_
  refine lv_imul hx hb dX0_meet_6 ?_
  refine k_top (y := (nI (4 * j))) (pk_mul 4 _) ?_
  refine lv_iload_n hx hb dX0_meet_7 rfl (lv_at hl 2 rfl) ?_
  have jn_1 : ∀ v_2 : Int32, v_2 = (if (nI r) ≤ 0 then (-9) else ((nI j) - (nI w))) → W P_ l E_ ({ frames := 0, cells := 0, slots := 0, locals := 0 } : Room) S_ M_ (([.ref (a 1), .int (nI j), .int (nI r), .int (nI q)] : List Value).toArray) B_ T_ K_ S_.heap [] 0 0 (MQ B_ ((QV D (fun (w1 : va_W) => w1 = [(a 1, .inr (0, [.int (nI h), .int (nI w), .int pc, .int br, .ref (a 2), .ref (a 3), .ref (a 4)])), (a 2, .inl (cI, 16, .inl kd)), (a 3, .inl (cI, 16, .inl et)), (a 4, .inl (cI, 64, .inl (mtF h w nb j)))])) A) (([.ref (a 1), .int (nI j), .int (nI r), .int (nI q)] : List Value).toArray) S_ 0 0 A) (F0 M_ 22 ls [.int v_2, .int (nI (4 * j)), .ref (a 4)]) := by
    intro v_2 e_v_2
    subst e_v_2
    refine k_top (y := (nbF h w j 0)) (nb_0 hj hq (by omega) hw) ?_
    refine k_iast hx hb hK hP hD hS 3 0 rfl rfl (j := 4 * j) (vp_in_nI (show 4 * j < 64 by omega) (by decide)) (nI_clamp (by omega)) dX0_meet_22 (fun H locs hP hD hS => ?_)
    have hP : va_P D vwCl [(a 1, .inr (0, [.int (nI h), .int (nI w), .int pc, .int br, .ref (a 2), .ref (a 3), .ref (a 4)])), (a 2, .inl (cI, 16, .inl kd)), (a 3, .inl (cI, 16, .inl et)), (a 4, .inl (cI, 64, .inl (upd nb (4 * j) (nbF h w j 0))))] H := hP
    have hD : va_D A [(a 1, .inr (0, [.int (nI h), .int (nI w), .int pc, .int br, .ref (a 2), .ref (a 3), .ref (a 4)])), (a 2, .inl (cI, 16, .inl kd)), (a 3, .inl (cI, 16, .inl et)), (a 4, .inl (cI, 64, .inl (upd nb (4 * j) (nbF h w j 0))))] := hD
    refine lv_aload_n hx hb dX0_meet_23 rfl (lv_at hl 0 rfl) ?_
    refine va_get (D := D) (ci := 0) (v := .ref (a 4)) (C := RX0) (T := TX0) (N := 7) hx hb hts hin0 hown hK.1 hP 0 rfl rfl 6 (by decide) (hts _ (List.mem_of_getElem? (i := 1) rfl)) (fun _ h9 => h9) rfl dX0_meet_24 ?_
    refine lv_iconst (v := 4) hx hb dX0_meet_27 (by decide) ?_
    refine lv_iload_n hx hb dX0_meet_28 rfl (lv_at hl 1 rfl) ?_
    refine lv_imul hx hb dX0_meet_29 ?_
    refine k_top (y := (nI (4 * j))) (pk_mul 4 _) ?_
    refine lv_iconst (v := 1) hx hb dX0_meet_30 (by decide) ?_
    refine lv_iadd hx hb dX0_meet_31 ?_
    refine k_top (y := (nI ((4 * j) + 1))) (nI_add _ 1) ?_
    refine lv_iload_n hx hb dX0_meet_32 rfl (lv_at hl 3 rfl) ?_
    refine lv_aload_n hx hb dX0_meet_33 rfl (lv_at hl 0 rfl) ?_
    refine va_get (D := D) (ci := 0) (v := .int (nI w)) (C := RX0) (T := TX0) (N := 7) hx hb hts hin0 hown hK.1 hP 0 rfl rfl 1 (by decide) (hts _ (List.mem_of_getElem? (i := 2) rfl)) (fun _ h9 => h9) rfl dX0_meet_34 ?_
    refine lv_iconst (v := 1) hx hb dX0_meet_37 (by decide) ?_
    refine lv_isub hx hb dX0_meet_38 ?_
    have jn_3 : ∀ v_4 : Int32, v_4 = (if ((nI w) - 1) ≤ (nI q) then (-9) else (nI (j + 1))) → W P_ l E_ ({ frames := 0, cells := 0, slots := 0, locals := 0 } : Room) S_ M_ (([.ref (a 1), .int (nI j), .int (nI r), .int (nI q)] : List Value).toArray) B_ T_ K_ H locs 0 0 (MQ B_ ((QV D (fun (w1 : va_W) => w1 = [(a 1, .inr (0, [.int (nI h), .int (nI w), .int pc, .int br, .ref (a 2), .ref (a 3), .ref (a 4)])), (a 2, .inl (cI, 16, .inl kd)), (a 3, .inl (cI, 16, .inl et)), (a 4, .inl (cI, 64, .inl (mtF h w nb j)))])) A) (([.ref (a 1), .int (nI j), .int (nI r), .int (nI q)] : List Value).toArray) S_ 0 0 A) (F0 M_ 50 ls [.int v_4, .int (nI ((4 * j) + 1)), .ref (a 4)]) := by
      intro v_4 e_v_4
      subst e_v_4
      refine k_top (y := (nbF h w j 1)) (nb_1 hj hq hw) ?_
      refine k_iast hx hb hK hP hD hS 3 0 rfl rfl (j := (4 * j) + 1) (vp_in_nI (show (4 * j) + 1 < 64 by omega) (by decide)) (nI_clamp (by omega)) dX0_meet_50 (fun H locs hP hD hS => ?_)
      have hP : va_P D vwCl [(a 1, .inr (0, [.int (nI h), .int (nI w), .int pc, .int br, .ref (a 2), .ref (a 3), .ref (a 4)])), (a 2, .inl (cI, 16, .inl kd)), (a 3, .inl (cI, 16, .inl et)), (a 4, .inl (cI, 64, .inl (upd (upd nb (4 * j) (nbF h w j 0)) ((4 * j) + 1) (nbF h w j 1))))] H := hP
      have hD : va_D A [(a 1, .inr (0, [.int (nI h), .int (nI w), .int pc, .int br, .ref (a 2), .ref (a 3), .ref (a 4)])), (a 2, .inl (cI, 16, .inl kd)), (a 3, .inl (cI, 16, .inl et)), (a 4, .inl (cI, 64, .inl (upd (upd nb (4 * j) (nbF h w j 0)) ((4 * j) + 1) (nbF h w j 1))))] := hD
      refine lv_aload_n hx hb dX0_meet_51 rfl (lv_at hl 0 rfl) ?_
      refine va_get (D := D) (ci := 0) (v := .ref (a 4)) (C := RX0) (T := TX0) (N := 7) hx hb hts hin0 hown hK.1 hP 0 rfl rfl 6 (by decide) (hts _ (List.mem_of_getElem? (i := 1) rfl)) (fun _ h9 => h9) rfl dX0_meet_52 ?_
      refine lv_iconst (v := 4) hx hb dX0_meet_55 (by decide) ?_
      refine lv_iload_n hx hb dX0_meet_56 rfl (lv_at hl 1 rfl) ?_
      refine lv_imul hx hb dX0_meet_57 ?_
      refine k_top (y := (nI (4 * j))) (pk_mul 4 _) ?_
      refine lv_iconst (v := 2) hx hb dX0_meet_58 (by decide) ?_
      refine lv_iadd hx hb dX0_meet_59 ?_
      refine k_top (y := (nI ((4 * j) + 2))) (nI_add _ 2) ?_
      refine lv_iload_n hx hb dX0_meet_60 rfl (lv_at hl 2 rfl) ?_
      refine lv_aload_n hx hb dX0_meet_61 rfl (lv_at hl 0 rfl) ?_
      refine va_get (D := D) (ci := 0) (v := .int (nI h)) (C := RX0) (T := TX0) (N := 7) hx hb hts hin0 hown hK.1 hP 0 rfl rfl 0 (by decide) (hts _ (List.mem_of_getElem? (i := 3) rfl)) (fun _ h9 => h9) rfl dX0_meet_62 ?_
      refine lv_iconst (v := 1) hx hb dX0_meet_65 (by decide) ?_
      refine lv_isub hx hb dX0_meet_66 ?_
      have jn_5 : ∀ v_6 : Int32, v_6 = (if ((nI h) - 1) ≤ (nI r) then (-9) else (nI (j + w))) → W P_ l E_ ({ frames := 0, cells := 0, slots := 0, locals := 0 } : Room) S_ M_ (([.ref (a 1), .int (nI j), .int (nI r), .int (nI q)] : List Value).toArray) B_ T_ K_ H locs 0 0 (MQ B_ ((QV D (fun (w1 : va_W) => w1 = [(a 1, .inr (0, [.int (nI h), .int (nI w), .int pc, .int br, .ref (a 2), .ref (a 3), .ref (a 4)])), (a 2, .inl (cI, 16, .inl kd)), (a 3, .inl (cI, 16, .inl et)), (a 4, .inl (cI, 64, .inl (mtF h w nb j)))])) A) (([.ref (a 1), .int (nI j), .int (nI r), .int (nI q)] : List Value).toArray) S_ 0 0 A) (F0 M_ 81 ls [.int v_6, .int (nI ((4 * j) + 2)), .ref (a 4)]) := by
        intro v_6 e_v_6
        subst e_v_6
        refine k_top (y := (nbF h w j 2)) (nb_2 hj hq hrh hh) ?_
        refine k_iast hx hb hK hP hD hS 3 0 rfl rfl (j := (4 * j) + 2) (vp_in_nI (show (4 * j) + 2 < 64 by omega) (by decide)) (nI_clamp (by omega)) dX0_meet_81 (fun H locs hP hD hS => ?_)
        have hP : va_P D vwCl [(a 1, .inr (0, [.int (nI h), .int (nI w), .int pc, .int br, .ref (a 2), .ref (a 3), .ref (a 4)])), (a 2, .inl (cI, 16, .inl kd)), (a 3, .inl (cI, 16, .inl et)), (a 4, .inl (cI, 64, .inl (upd (upd (upd nb (4 * j) (nbF h w j 0)) ((4 * j) + 1) (nbF h w j 1)) ((4 * j) + 2) (nbF h w j 2))))] H := hP
        have hD : va_D A [(a 1, .inr (0, [.int (nI h), .int (nI w), .int pc, .int br, .ref (a 2), .ref (a 3), .ref (a 4)])), (a 2, .inl (cI, 16, .inl kd)), (a 3, .inl (cI, 16, .inl et)), (a 4, .inl (cI, 64, .inl (upd (upd (upd nb (4 * j) (nbF h w j 0)) ((4 * j) + 1) (nbF h w j 1)) ((4 * j) + 2) (nbF h w j 2))))] := hD
        refine lv_aload_n hx hb dX0_meet_82 rfl (lv_at hl 0 rfl) ?_
        refine va_get (D := D) (ci := 0) (v := .ref (a 4)) (C := RX0) (T := TX0) (N := 7) hx hb hts hin0 hown hK.1 hP 0 rfl rfl 6 (by decide) (hts _ (List.mem_of_getElem? (i := 1) rfl)) (fun _ h9 => h9) rfl dX0_meet_83 ?_
        refine lv_iconst (v := 4) hx hb dX0_meet_86 (by decide) ?_
        refine lv_iload_n hx hb dX0_meet_87 rfl (lv_at hl 1 rfl) ?_
        refine lv_imul hx hb dX0_meet_88 ?_
        refine k_top (y := (nI (4 * j))) (pk_mul 4 _) ?_
        refine lv_iconst (v := 3) hx hb dX0_meet_89 (by decide) ?_
        refine lv_iadd hx hb dX0_meet_90 ?_
        refine k_top (y := (nI ((4 * j) + 3))) (nI_add _ 3) ?_
        refine lv_iload_n hx hb dX0_meet_91 rfl (lv_at hl 3 rfl) ?_
        have jn_7 : ∀ v_8 : Int32, v_8 = (if (nI q) ≤ 0 then (-9) else ((nI j) - 1)) → W P_ l E_ ({ frames := 0, cells := 0, slots := 0, locals := 0 } : Room) S_ M_ (([.ref (a 1), .int (nI j), .int (nI r), .int (nI q)] : List Value).toArray) B_ T_ K_ H locs 0 0 (MQ B_ ((QV D (fun (w1 : va_W) => w1 = [(a 1, .inr (0, [.int (nI h), .int (nI w), .int pc, .int br, .ref (a 2), .ref (a 3), .ref (a 4)])), (a 2, .inl (cI, 16, .inl kd)), (a 3, .inl (cI, 16, .inl et)), (a 4, .inl (cI, 64, .inl (mtF h w nb j)))])) A) (([.ref (a 1), .int (nI j), .int (nI r), .int (nI q)] : List Value).toArray) S_ 0 0 A) (F0 M_ 103 ls [.int v_8, .int (nI ((4 * j) + 3)), .ref (a 4)]) := by
          intro v_8 e_v_8
          subst e_v_8
          refine k_top (y := (nbF h w j 3)) (nb_3 hj hq hw) ?_
          refine k_iast hx hb hK hP hD hS 3 0 rfl rfl (j := (4 * j) + 3) (vp_in_nI (show (4 * j) + 3 < 64 by omega) (by decide)) (nI_clamp (by omega)) dX0_meet_103 (fun H locs hP hD hS => ?_)
          have hP : va_P D vwCl [(a 1, .inr (0, [.int (nI h), .int (nI w), .int pc, .int br, .ref (a 2), .ref (a 3), .ref (a 4)])), (a 2, .inl (cI, 16, .inl kd)), (a 3, .inl (cI, 16, .inl et)), (a 4, .inl (cI, 64, .inl (upd (upd (upd (upd nb (4 * j) (nbF h w j 0)) ((4 * j) + 1) (nbF h w j 1)) ((4 * j) + 2) (nbF h w j 2)) ((4 * j) + 3) (nbF h w j 3))))] H := hP
          have hD : va_D A [(a 1, .inr (0, [.int (nI h), .int (nI w), .int pc, .int br, .ref (a 2), .ref (a 3), .ref (a 4)])), (a 2, .inl (cI, 16, .inl kd)), (a 3, .inl (cI, 16, .inl et)), (a 4, .inl (cI, 64, .inl (upd (upd (upd (upd nb (4 * j) (nbF h w j 0)) ((4 * j) + 1) (nbF h w j 1)) ((4 * j) + 2) (nbF h w j 2)) ((4 * j) + 3) (nbF h w j 3))))] := hD
          refine mv_ret hx hb hr hlk hP hD hS dX0_meet_104 ?_
          rfl
        refine lv_if_le (tgt := 101) hx hb dX0_meet_92 (by decide) (fun c_9 => ?_) (fun c_9 => ?_)
        · refine lv_bipush (v := (-9)) hx hb dX0_meet_101 (by decide) ?_
          exact jn_7 _ (by rw [if_pos c_9])
        · refine lv_iload_n hx hb dX0_meet_95 rfl (lv_at hl 1 rfl) ?_
          refine lv_iconst (v := 1) hx hb dX0_meet_96 (by decide) ?_
          refine lv_isub hx hb dX0_meet_97 ?_
          refine lv_goto (tgt := 103) hx hb dX0_meet_98 (by decide) ?_
          exact jn_7 _ (by rw [if_neg c_9])
      refine lv_icmp_ge (tgt := 79) hx hb dX0_meet_67 (by decide) (fun c_10 => ?_) (fun c_10 => ?_)
      · refine lv_bipush (v := (-9)) hx hb dX0_meet_79 (by decide) ?_
        exact jn_5 _ (by rw [if_pos c_10])
      · refine lv_iload_n hx hb dX0_meet_70 rfl (lv_at hl 1 rfl) ?_
        refine lv_aload_n hx hb dX0_meet_71 rfl (lv_at hl 0 rfl) ?_
        refine va_get (D := D) (ci := 0) (v := .int (nI w)) (C := RX0) (T := TX0) (N := 7) hx hb hts hin0 hown hK.1 hP 0 rfl rfl 1 (by decide) (hts _ (List.mem_of_getElem? (i := 2) rfl)) (fun _ h9 => h9) rfl dX0_meet_72 ?_
        refine lv_iadd hx hb dX0_meet_75 ?_
        refine k_top (y := (nI (j + w))) (nI_add _ _) ?_
        refine lv_goto (tgt := 81) hx hb dX0_meet_76 (by decide) ?_
        exact jn_5 _ (by rw [if_neg c_10])
    refine lv_icmp_ge (tgt := 48) hx hb dX0_meet_39 (by decide) (fun c_11 => ?_) (fun c_11 => ?_)
    · refine lv_bipush (v := (-9)) hx hb dX0_meet_48 (by decide) ?_
      exact jn_3 _ (by rw [if_pos c_11])
    · refine lv_iload_n hx hb dX0_meet_42 rfl (lv_at hl 1 rfl) ?_
      refine lv_iconst (v := 1) hx hb dX0_meet_43 (by decide) ?_
      refine lv_iadd hx hb dX0_meet_44 ?_
      refine k_top (y := (nI (j + 1))) (nI_add _ 1) ?_
      refine lv_goto (tgt := 50) hx hb dX0_meet_45 (by decide) ?_
      exact jn_3 _ (by rw [if_neg c_11])
  refine lv_if_le (tgt := 20) hx hb dX0_meet_8 (by decide) (fun c_12 => ?_) (fun c_12 => ?_)
  · refine lv_bipush (v := (-9)) hx hb dX0_meet_20 (by decide) ?_
    exact jn_1 _ (by rw [if_pos c_12])
  · refine lv_iload_n hx hb dX0_meet_11 rfl (lv_at hl 1 rfl) ?_
    refine lv_aload_n hx hb dX0_meet_12 rfl (lv_at hl 0 rfl) ?_
    refine va_get (D := D) (ci := 0) (v := .int (nI w)) (C := RX0) (T := TX0) (N := 7) hx hb hts hin0 hown hK.1 hP 0 rfl rfl 1 (by decide) (hts _ (List.mem_of_getElem? (i := 2) rfl)) (fun _ h9 => h9) rfl dX0_meet_13 ?_
    refine lv_isub hx hb dX0_meet_16 ?_
    refine lv_goto (tgt := 22) hx hb dX0_meet_17 (by decide) ?_
    exact jn_1 _ (by rw [if_neg c_12])
