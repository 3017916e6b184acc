theorem iwX5_goFleece_X5 : ∀ x ∈ wsX50, x ∈ wsX5_goFleece := by decide +kernel
set_option maxRecDepth 100000 in
set_option maxHeartbeats 4000000 in
/-- X5_goFleece -/
theorem c_X5_goFleece (l : Launch) (D : va_G) (cI cJ cO : ClassId) (b : Nat → Nat) (fa : Int32) (h : Nat) (w : Nat) (pc : Int32) (br : Int32) (ra : Int32) (q1 : Int32) (q2 : Int32) (q3 : Int32) (q4 : Int32) (fw : Int32) (ea : Int32) (sn : Int32) (mo : Int32) (rc : Nat) (tr : Int32) (pl : Nat → Int32) (nx : Nat → Int32) (rb : Nat → Int32) (u : Int32) (j : Nat) (hn : h * w ≤ 16) (hu : sN u < 65536) (hjn : j < h * w) (huc : inS u (nI j)) : MG l yX5_goFleece wsX5_goFleece 2 49 0 0 D [(cI, .int), (cJ, .long), (cO, .object "ShornHill$Sheet")] [.ref (b 0), .int u, .int (nI j)] [(b 0, .inr (5, [.int fa, .int (nI h), .int (nI w), .int pc, .int br, .ref (b 1), .ref (b 2), .int ra, .int q1, .int q2, .int q3, .int q4, .ref (b 3), .int fw, .int ea, .int sn, .ref (b 4), .ref (b 5), .ref (b 6), .int mo, .int (nI rc), .ref (b 7), .ref (b 8), .ref (b 9), .ref (b 10), .ref (b 11), .ref (b 12), .ref (b 13), .ref (b 14), .int tr])), (b 4, .inl (cI, 17, .inl pl)), (b 5, .inl (cI, 17, .inl nx)), (b 6, .inl (cI, 16, .inl rb))] (QV D (fun (w1 : va_W) => ∃ (pl3 : Nat → Int32) (nx3 : Nat → Int32) (rb3 : Nat → Int32), (∀ k, k + 1 < msF h w j u → rb3 k = (flF h w j u).2.1 k) ∧ w1 = [(b 0, .inr (5, [.int fa, .int (nI h), .int (nI w), .int pc, .int br, .ref (b 1), .ref (b 2), .int ra, .int q1, .int q2, .int q3, .int q4, .ref (b 3), .int fw, .int ea, .int sn, .ref (b 4), .ref (b 5), .ref (b 6), .int (nI (msF h w j u)), .int (nI rc), .ref (b 7), .ref (b 8), .ref (b 9), .ref (b 10), .ref (b 11), .ref (b 12), .ref (b 13), .ref (b 14), .int tr])), (b 4, .inl (cI, 17, .inl pl3)), (b 5, .inl (cI, 17, .inl nx3)), (b 6, .inl (cI, 16, .inl rb3))])) := by
  refine MG.of (cc := cX5_goFleece) (maxL := 9) (ret := none) (by decide) rfl (Nat.le_of_ble_eq_true rfl) ?_
  intro P_ E_ S_ M_ B_ T_ K_ hx hb hml hr hts hown hlk hnm A hA hP hK hD hS ls hl
  have hl : lv_has ls 9 [(0, .ref (b 0)), (1, .int u), (2, .int (nI j))] := hl
  have hin5 : ∀ x ∈ u_ws RX5 TX5 30, x ∈ wsX5_goFleece := iwX5_goFleece_X5
  have hG16 := popN_le 16 (sN u)
  refine lv_iconst (v := 0) hx hb dX5_goFleece_0 (by decide) ?_
  refine lv_istore_n (lv' := [(3, .int 0), (0, .ref (b 0)), (1, .int u), (2, .int (nI j))]) hx hb dX5_goFleece_1 rfl hl (by decide) rfl (fun ls hl => ?_)
  refine lv_iconst (v := 1) hx hb dX5_goFleece_2 (by decide) ?_
  refine lv_iload_n hx hb dX5_goFleece_3 rfl (lv_at hl 3 rfl) ?_
  refine lv_ishl hx hb dX5_goFleece_4 ?_
  refine k_top (y := (SSl [(j, 0, 0)])) (ss_1 rfl) ?_
  refine lv_istore (lv' := [(4, .int (SSl [(j, 0, 0)])), (3, .int 0), (0, .ref (b 0)), (1, .int u), (2, .int (nI j))]) hx hb dX5_goFleece_5 hl (by decide) rfl (fun ls hl => ?_)
  refine lv_aload_n hx hb dX5_goFleece_7 rfl (lv_at hl 2 rfl) ?_
  refine va_get (D := D) (ci := 5) (v := .ref (b 4)) (C := RX5) (T := TX5) (N := 30) hx hb hts hin5 hown hK.1 hP 0 rfl rfl 16 (by decide) (hts _ (List.mem_of_getElem? (i := 1) rfl)) (fun _ h9 => h9) rfl dX5_goFleece_8 ?_
  refine lv_iconst (v := 0) hx hb dX5_goFleece_11 (by decide) ?_
  refine lv_iload_n hx hb dX5_goFleece_12 rfl (lv_at hl 4 rfl) ?_
  refine k_iast hx hb hK hP hD hS 1 0 rfl rfl (j := 0) (show ¬ ((0 : Int32) < 0 ∨ 17 ≤ (0 : Int32).toNatClampNeg) by decide) rfl dX5_goFleece_13 (fun H locs hP hD hS => ?_)
  have hP : va_P D vwCl [(b 0, .inr (5, [.int fa, .int (nI h), .int (nI w), .int pc, .int br, .ref (b 1), .ref (b 2), .int ra, .int q1, .int q2, .int q3, .int q4, .ref (b 3), .int fw, .int ea, .int sn, .ref (b 4), .ref (b 5), .ref (b 6), .int mo, .int (nI rc), .ref (b 7), .ref (b 8), .ref (b 9), .ref (b 10), .ref (b 11), .ref (b 12), .ref (b 13), .ref (b 14), .int tr])), (b 4, .inl (cI, 17, .inl (upd pl 0 (nI j)))), (b 5, .inl (cI, 17, .inl nx)), (b 6, .inl (cI, 16, .inl rb))] H := hP
  have hD : va_D A [(b 0, .inr (5, [.int fa, .int (nI h), .int (nI w), .int pc, .int br, .ref (b 1), .ref (b 2), .int ra, .int q1, .int q2, .int q3, .int q4, .ref (b 3), .int fw, .int ea, .int sn, .ref (b 4), .ref (b 5), .ref (b 6), .int mo, .int (nI rc), .ref (b 7), .ref (b 8), .ref (b 9), .ref (b 10), .ref (b 11), .ref (b 12), .ref (b 13), .ref (b 14), .int tr])), (b 4, .inl (cI, 17, .inl (upd pl 0 (nI j)))), (b 5, .inl (cI, 17, .inl nx)), (b 6, .inl (cI, 16, .inl rb))] := hD
  refine lv_aload_n hx hb dX5_goFleece_14 rfl (lv_at hl 2 rfl) ?_
  refine va_get (D := D) (ci := 5) (v := .ref (b 5)) (C := RX5) (T := TX5) (N := 30) hx hb hts hin5 hown hK.1 hP 0 rfl rfl 17 (by decide) (hts _ (List.mem_of_getElem? (i := 2) rfl)) (fun _ h9 => h9) rfl dX5_goFleece_15 ?_
  refine lv_iconst (v := 0) hx hb dX5_goFleece_18 (by decide) ?_
  refine lv_iconst (v := 0) hx hb dX5_goFleece_19 (by decide) ?_
  refine k_iast hx hb hK hP hD hS 2 0 rfl rfl (j := 0) (show ¬ ((0 : Int32) < 0 ∨ 17 ≤ (0 : Int32).toNatClampNeg) by decide) rfl dX5_goFleece_20 (fun H locs hP hD hS => ?_)
  have hP : va_P D vwCl [(b 0, .inr (5, [.int fa, .int (nI h), .int (nI w), .int pc, .int br, .ref (b 1), .ref (b 2), .int ra, .int q1, .int q2, .int q3, .int q4, .ref (b 3), .int fw, .int ea, .int sn, .ref (b 4), .ref (b 5), .ref (b 6), .int mo, .int (nI rc), .ref (b 7), .ref (b 8), .ref (b 9), .ref (b 10), .ref (b 11), .ref (b 12), .ref (b 13), .ref (b 14), .int tr])), (b 4, .inl (cI, 17, .inl (upd pl 0 (nI j)))), (b 5, .inl (cI, 17, .inl (upd nx 0 0))), (b 6, .inl (cI, 16, .inl rb))] H := hP
  have hD : va_D A [(b 0, .inr (5, [.int fa, .int (nI h), .int (nI w), .int pc, .int br, .ref (b 1), .ref (b 2), .int ra, .int q1, .int q2, .int q3, .int q4, .ref (b 3), .int fw, .int ea, .int sn, .ref (b 4), .ref (b 5), .ref (b 6), .int mo, .int (nI rc), .ref (b 7), .ref (b 8), .ref (b 9), .ref (b 10), .ref (b 11), .ref (b 12), .ref (b 13), .ref (b 14), .int tr])), (b 4, .inl (cI, 17, .inl (upd pl 0 (nI j)))), (b 5, .inl (cI, 17, .inl (upd nx 0 0))), (b 6, .inl (cI, 16, .inl rb))] := hD
  refine lv_aload_n hx hb dX5_goFleece_21 rfl (lv_at hl 2 rfl) ?_
  refine lv_iconst (v := 1) hx hb dX5_goFleece_22 (by decide) ?_
  refine va_put (D := D) (ci := 5) (v := .int 1) (ty := .int) (C := RX5) (T := TX5) (N := 30) hx hb hts hin5 tyX5 tyX5_ok nmX5 hown hK.1 hP hD hS 0 rfl rfl 19 (by decide) (hts _ (List.mem_of_getElem? (i := 3) rfl)) (fun _ h9 => h9) rfl (by decide +kernel) rfl rfl (Nat.le_of_ble_eq_true rfl) dX5_goFleece_23 (fun H locs hP hD hS => ?_)
  have hP : va_P D vwCl [(b 0, .inr (5, [.int fa, .int (nI h), .int (nI w), .int pc, .int br, .ref (b 1), .ref (b 2), .int ra, .int q1, .int q2, .int q3, .int q4, .ref (b 3), .int fw, .int ea, .int sn, .ref (b 4), .ref (b 5), .ref (b 6), .int 1, .int (nI rc), .ref (b 7), .ref (b 8), .ref (b 9), .ref (b 10), .ref (b 11), .ref (b 12), .ref (b 13), .ref (b 14), .int tr])), (b 4, .inl (cI, 17, .inl (upd pl 0 (nI j)))), (b 5, .inl (cI, 17, .inl (upd nx 0 0))), (b 6, .inl (cI, 16, .inl rb))] H := hP
  have hD : va_D A [(b 0, .inr (5, [.int fa, .int (nI h), .int (nI w), .int pc, .int br, .ref (b 1), .ref (b 2), .int ra, .int q1, .int q2, .int q3, .int q4, .ref (b 3), .int fw, .int ea, .int sn, .ref (b 4), .ref (b 5), .ref (b 6), .int 1, .int (nI rc), .ref (b 7), .ref (b 8), .ref (b 9), .ref (b 10), .ref (b 11), .ref (b 12), .ref (b 13), .ref (b 14), .int tr])), (b 4, .inl (cI, 17, .inl (upd pl 0 (nI j)))), (b 5, .inl (cI, 17, .inl (upd nx 0 0))), (b 6, .inl (cI, 16, .inl rb))] := hD
  refine lv_iload_n hx hb dX5_goFleece_26 rfl (lv_at hl 3 rfl) ?_
  refine k_ri (run_RS (As := [.int u]) (rest := []) ⟨hx, hb, hml, hown, hts⟩ (c_X5_bits l D cI cJ cO u hu) (va_cwS 1 hts gX5_goFleece_X5_bits rfl rfl rfl (by decide +kernel) ⟨Nat.le_of_ble_eq_true rfl, Nat.le_of_ble_eq_true rfl⟩) hP hK [] rfl rfl hl.1 rfl (Nat.le_of_ble_eq_true rfl) dX5_goFleece_27 ⟨Nat.le_refl _, Nat.le_refl _⟩) (fun r_1 q_2 => ?_)
  obtain rfl := q_2
  refine lv_istore (lv' := [(5, .int (nI (popN 16 (sN u)))), (4, .int (SSl [(j, 0, 0)])), (3, .int 0), (0, .ref (b 0)), (1, .int u), (2, .int (nI j))]) hx hb dX5_goFleece_30 hl (by decide) rfl (fun ls hl => ?_)
  have key_4 : ∀ (n_3 : Nat) (st : List Fm) (mq : Nat) (td : Nat → Int32) (pl2 : Nat → Int32) (nx2 : Nat → Int32) (rb2 : Nat → Int32), (RPl pl2 nx2 st) → (VSl (h * w) u st) → (TDl td st.tail) → (mq ≤ 16) → (chF h w (popN 16 (sN u)) u st (mq, rb2, td) = dfF h w (popN 16 (sN u)) 15 1 j (wo u (nI j)) (0, rb, fun _ => 0)) → mrF st < n_3 → ∀ (H : Heap) (locs : List Loc), va_P D vwCl [(b 0, .inr (5, [.int fa, .int (nI h), .int (nI w), .int pc, .int br, .ref (b 1), .ref (b 2), .int ra, .int q1, .int q2, .int q3, .int q4, .ref (b 3), .int fw, .int ea, .int sn, .ref (b 4), .ref (b 5), .ref (b 6), .int (nI mq), .int (nI rc), .ref (b 7), .ref (b 8), .ref (b 9), .ref (b 10), .ref (b 11), .ref (b 12), .ref (b 13), .ref (b 14), .int tr])), (b 4, .inl (cI, 17, .inl pl2)), (b 5, .inl (cI, 17, .inl nx2)), (b 6, .inl (cI, 16, .inl rb2))] H → va_D A [(b 0, .inr (5, [.int fa, .int (nI h), .int (nI w), .int pc, .int br, .ref (b 1), .ref (b 2), .int ra, .int q1, .int q2, .int q3, .int q4, .ref (b 3), .int fw, .int ea, .int sn, .ref (b 4), .ref (b 5), .ref (b 6), .int (nI mq), .int (nI rc), .ref (b 7), .ref (b 8), .ref (b 9), .ref (b 10), .ref (b 11), .ref (b 12), .ref (b 13), .ref (b 14), .int tr])), (b 4, .inl (cI, 17, .inl pl2)), (b 5, .inl (cI, 17, .inl nx2)), (b 6, .inl (cI, 16, .inl rb2))] → va_S A S_.heap H locs → ∀ ls : Array Slot, lv_has ls 9 [(0, .ref (b 0)), (1, .int u), (3, .int (dpF st)), (4, .int (SSl st)), (5, .int (nI (popN 16 (sN u))))] → W P_ l E_ ({ frames := 2, cells := 0, slots := 0, locals := 49 } : Room) S_ M_ (([.ref (b 0), .int u, .int (nI j)] : List Value).toArray) B_ T_ K_ H locs 0 0 (MQ B_ ((QV D (fun (w1 : va_W) => ∃ (pl3 : Nat → Int32) (nx3 : Nat → Int32) (rb3 : Nat → Int32), (∀ k, k + 1 < msF h w j u → rb3 k = (flF h w j u).2.1 k) ∧ w1 = [(b 0, .inr (5, [.int fa, .int (nI h), .int (nI w), .int pc, .int br, .ref (b 1), .ref (b 2), .int ra, .int q1, .int q2, .int q3, .int q4, .ref (b 3), .int fw, .int ea, .int sn, .ref (b 4), .ref (b 5), .ref (b 6), .int (nI (msF h w j u)), .int (nI rc), .ref (b 7), .ref (b 8), .ref (b 9), .ref (b 10), .ref (b 11), .ref (b 12), .ref (b 13), .ref (b 14), .int tr])), (b 4, .inl (cI, 17, .inl pl3)), (b 5, .inl (cI, 17, .inl nx3)), (b 6, .inl (cI, 16, .inl rb3))])) A) (([.ref (b 0), .int u, .int (nI j)] : List Value).toArray) S_ 0 0 A) (F0 M_ 32 ls []) := by
    intro n_3
    induction n_3 with
    | zero =>
      intro st mq td pl2 nx2 rb2 hrp hvs htd hmo hch hmu_n_3
      exact absurd hmu_n_3 (Nat.not_lt_zero _)
    | succ n_3 ih_5 =>
      intro st mq td pl2 nx2 rb2 hrp hvs htd hmo hch hmu_n_3 H locs hP hD hS ls hl
      have hl : lv_has ls 9 [(0, .ref (b 0)), (1, .int u), (3, .int (dpF st)), (4, .int (SSl st)), (5, .int (nI (popN 16 (sN u))))] := hl
      have hP : va_P D vwCl [(b 0, .inr (5, [.int fa, .int (nI h), .int (nI w), .int pc, .int br, .ref (b 1), .ref (b 2), .int ra, .int q1, .int q2, .int q3, .int q4, .ref (b 3), .int fw, .int ea, .int sn, .ref (b 4), .ref (b 5), .ref (b 6), .int (nI mq), .int (nI rc), .ref (b 7), .ref (b 8), .ref (b 9), .ref (b 10), .ref (b 11), .ref (b 12), .ref (b 13), .ref (b 14), .int tr])), (b 4, .inl (cI, 17, .inl pl2)), (b 5, .inl (cI, 17, .inl nx2)), (b 6, .inl (cI, 16, .inl rb2))] H := hP
      have hD : va_D A [(b 0, .inr (5, [.int fa, .int (nI h), .int (nI w), .int pc, .int br, .ref (b 1), .ref (b 2), .int ra, .int q1, .int q2, .int q3, .int q4, .ref (b 3), .int fw, .int ea, .int sn, .ref (b 4), .ref (b 5), .ref (b 6), .int (nI mq), .int (nI rc), .ref (b 7), .ref (b 8), .ref (b 9), .ref (b 10), .ref (b 11), .ref (b 12), .ref (b 13), .ref (b 14), .int tr])), (b 4, .inl (cI, 17, .inl pl2)), (b 5, .inl (cI, 17, .inl nx2)), (b 6, .inl (cI, 16, .inl rb2))] := hD
      refine lv_iload_n hx hb dX5_goFleece_32 rfl (lv_at hl 2 rfl) ?_
      refine lv_if_lt (tgt := 201) hx hb dX5_goFleece_33 (by decide) (fun c_6 => ?_) (fun c_6 => ?_)
      · have hD9 := c_6
        refine mv_ret hx hb hr hlk hP hD hS dX5_goFleece_201 ?_
        have hst := dp_nil (VS_len hn hvs) hD9
        subst hst
        have hE : (mq, rb2, td) = dfF h w (popN 16 (sN u)) 15 1 j (wo u (nI j)) (0, rb, fun _ => 0) := hch
        have e1 : mq = msF h w j u := (congrArg (fun q => q.1) hE).trans (msF_go h w rb (fun _ => 0) rfl)
        have e2 : ∀ k, k + 1 < msF h w j u → rb2 k = (flF h w j u).2.1 k := fun k hk => (congrFun (congrArg (fun q => q.2.1) hE) k).trans (flF_go h w rb (fun _ => 0) rfl k hk)
        rw [e1]
        exact ⟨_, _, _, e2, rfl⟩
      · rcases st with _ | ⟨⟨p, t, s⟩, r⟩
        · exact absurd (show dpF [] < 0 by decide) c_6
        have hl : lv_has ls 9 [(0, .ref (b 0)), (1, .int u), (3, .int (nI r.length)), (4, .int (SSl ((p, t, s) :: r))), (5, .int (nI (popN 16 (sN u))))] := hl
        have hl16 : r.length ≤ 15 := by have z : r.length + 1 ≤ 16 := VS_len hn hvs; omega
        obtain ⟨hq1, hq2, hq3⟩ := hrp
        have hpn := hvs.1
        have ht4 := hvs.2.1
        refine lv_aload_n hx hb dX5_goFleece_36 rfl (lv_at hl 0 rfl) ?_
        refine va_get (D := D) (ci := 5) (v := .int (nI mq)) (C := RX5) (T := TX5) (N := 30) hx hb hts hin5 hown hK.1 hP 0 rfl rfl 19 (by decide) (hts _ (List.mem_of_getElem? (i := 3) rfl)) (fun _ h9 => h9) rfl dX5_goFleece_37 ?_
        refine lv_iload hx hb dX5_goFleece_40 (lv_at hl 4 rfl) ?_
        refine lv_icmp_ge (tgt := 201) hx hb dX5_goFleece_42 (by decide) (fun c_7 => ?_) (fun c_7 => ?_)
        · have c_7 : popN 16 (sN u) ≤ mq := (nI_leI (a := popN 16 (sN u)) (b := mq) (by omega) (by omega)).mp c_7
          refine mv_ret hx hb hr hlk hP hD hS dX5_goFleece_201 ?_
          have hE : (mq, rb2, td) = dfF h w (popN 16 (sN u)) 15 1 j (wo u (nI j)) (0, rb, fun _ => 0) := (ch_stop (q := (mq, rb2, td)) (show ¬ mq < (popN 16 (sN u)) by omega) _).symm.trans hch
          have e1 : mq = msF h w j u := (congrArg (fun q => q.1) hE).trans (msF_go h w rb (fun _ => 0) rfl)
          have e2 : ∀ k, k + 1 < msF h w j u → rb2 k = (flF h w j u).2.1 k := fun k hk => (congrFun (congrArg (fun q => q.2.1) hE) k).trans (flF_go h w rb (fun _ => 0) rfl k hk)
          rw [e1]
          exact ⟨_, _, _, e2, rfl⟩
        · have c_7 : mq < popN 16 (sN u) := Nat.lt_of_not_le (fun z => c_7 ((nI_leI (a := popN 16 (sN u)) (b := mq) (by omega) (by omega)).mpr z))
          refine lv_aload_n hx hb dX5_goFleece_45 rfl (lv_at hl 0 rfl) ?_
          refine va_get (D := D) (ci := 5) (v := .ref (b 5)) (C := RX5) (T := TX5) (N := 30) hx hb hts hin5 hown hK.1 hP 0 rfl rfl 17 (by decide) (hts _ (List.mem_of_getElem? (i := 2) rfl)) (fun _ h9 => h9) rfl dX5_goFleece_46 ?_
          refine lv_iload_n hx hb dX5_goFleece_49 rfl (lv_at hl 2 rfl) ?_
          refine k_iald hx hb hK hP 2 0 rfl rfl (j := r.length) (vp_in_nI (show r.length < 17 by omega) (by decide)) (nI_clamp (by omega)) dX5_goFleece_50 ?_
          refine k_top (y := (nI t)) hq2 ?_
          refine lv_istore (lv' := [(6, .int (nI t)), (0, .ref (b 0)), (1, .int u), (3, .int (nI r.length)), (4, .int (SSl ((p, t, s) :: r))), (5, .int (nI (popN 16 (sN u))))]) hx hb dX5_goFleece_51 hl (by decide) rfl (fun ls hl => ?_)
          refine lv_iload hx hb dX5_goFleece_53 (lv_at hl 0 rfl) ?_
          refine lv_iconst (v := 3) hx hb dX5_goFleece_55 (by decide) ?_
          refine lv_icmp_le (tgt := 80) hx hb dX5_goFleece_56 (by decide) (fun c_8 => ?_) (fun c_8 => ?_)
          · have c_8 : t ≤ 3 := (nI_leI (a := t) (b := 3) (by omega) (by omega)).mp c_8
            refine lv_aload_n hx hb dX5_goFleece_80 rfl (lv_at hl 1 rfl) ?_
            refine va_get (D := D) (ci := 5) (v := .ref (b 5)) (C := RX5) (T := TX5) (N := 30) hx hb hts hin5 hown hK.1 hP 0 rfl rfl 17 (by decide) (hts _ (List.mem_of_getElem? (i := 2) rfl)) (fun _ h9 => h9) rfl dX5_goFleece_81 ?_
            refine lv_iload_n hx hb dX5_goFleece_84 rfl (lv_at hl 3 rfl) ?_
            refine lv_dup2_11 hx hb dX5_goFleece_85 rfl rfl ?_
            refine k_iald hx hb hK hP 2 0 rfl rfl (j := r.length) (vp_in_nI (show r.length < 17 by omega) (by decide)) (nI_clamp (by omega)) dX5_goFleece_86 ?_
            refine k_top (y := (nI t)) hq2 ?_
            refine lv_iconst (v := 1) hx hb dX5_goFleece_87 (by decide) ?_
            refine lv_iadd hx hb dX5_goFleece_88 ?_
            refine k_top (y := (nI (t + 1))) (nI_add _ 1) ?_
            refine k_iast hx hb hK hP hD hS 2 0 rfl rfl (j := r.length) (vp_in_nI (show r.length < 17 by omega) (by decide)) (nI_clamp (by omega)) dX5_goFleece_89 (fun H locs hP hD hS => ?_)
            have hP : va_P D vwCl [(b 0, .inr (5, [.int fa, .int (nI h), .int (nI w), .int pc, .int br, .ref (b 1), .ref (b 2), .int ra, .int q1, .int q2, .int q3, .int q4, .ref (b 3), .int fw, .int ea, .int sn, .ref (b 4), .ref (b 5), .ref (b 6), .int (nI mq), .int (nI rc), .ref (b 7), .ref (b 8), .ref (b 9), .ref (b 10), .ref (b 11), .ref (b 12), .ref (b 13), .ref (b 14), .int tr])), (b 4, .inl (cI, 17, .inl pl2)), (b 5, .inl (cI, 17, .inl (upd nx2 r.length (nI (t + 1))))), (b 6, .inl (cI, 16, .inl rb2))] H := hP
            have hD : va_D A [(b 0, .inr (5, [.int fa, .int (nI h), .int (nI w), .int pc, .int br, .ref (b 1), .ref (b 2), .int ra, .int q1, .int q2, .int q3, .int q4, .ref (b 3), .int fw, .int ea, .int sn, .ref (b 4), .ref (b 5), .ref (b 6), .int (nI mq), .int (nI rc), .ref (b 7), .ref (b 8), .ref (b 9), .ref (b 10), .ref (b 11), .ref (b 12), .ref (b 13), .ref (b 14), .int tr])), (b 4, .inl (cI, 17, .inl pl2)), (b 5, .inl (cI, 17, .inl (upd nx2 r.length (nI (t + 1))))), (b 6, .inl (cI, 16, .inl rb2))] := hD
            refine lv_aload_n hx hb dX5_goFleece_90 rfl (lv_at hl 1 rfl) ?_
            refine lv_aload_n hx hb dX5_goFleece_91 rfl (lv_at hl 1 rfl) ?_
            refine va_get (D := D) (ci := 5) (v := .ref (b 4)) (C := RX5) (T := TX5) (N := 30) hx hb hts hin5 hown hK.1 hP 0 rfl rfl 16 (by decide) (hts _ (List.mem_of_getElem? (i := 1) rfl)) (fun _ h9 => h9) rfl dX5_goFleece_92 ?_
            refine lv_iload_n hx hb dX5_goFleece_95 rfl (lv_at hl 3 rfl) ?_
            refine k_iald hx hb hK hP 1 0 rfl rfl (j := r.length) (vp_in_nI (show r.length < 17 by omega) (by decide)) (nI_clamp (by omega)) dX5_goFleece_96 ?_
            refine k_top (y := (nI p)) hq1 ?_
            refine lv_iload hx hb dX5_goFleece_97 (lv_at hl 0 rfl) ?_
            refine k_ri (run_RV (As := [.int (nI p), .int (nI t)]) (rest := []) ⟨hx, hb, hml, hown, hts⟩ (c_X5_beside l D cI cJ cO b fa h w pc br ra q1 q2 q3 q4 fw ea sn (nI mq) rc tr p t hn hpn (by omega)) (cwV 2 hts gX5_goFleece_X5_beside rfl rfl rfl (by decide +kernel) ⟨Nat.le_of_ble_eq_true rfl, Nat.le_of_ble_eq_true rfl⟩) hP hK [0] rfl rfl rfl rfl rfl hl.1 rfl (Nat.le_of_ble_eq_true rfl) dX5_goFleece_99 ⟨Nat.le_refl _, Nat.le_refl _⟩) (fun r_9 q_10 => ?_)
            obtain rfl := q_10
            refine lv_istore (lv' := [(7, .int (nbF h w p t)), (6, .int (nI t)), (0, .ref (b 0)), (1, .int u), (3, .int (nI r.length)), (4, .int (SSl ((p, t, s) :: r))), (5, .int (nI (popN 16 (sN u))))]) hx hb dX5_goFleece_102 hl (by decide) rfl (fun ls hl => ?_)
            refine lv_iload hx hb dX5_goFleece_104 (lv_at hl 0 rfl) ?_
            refine lv_if_lt (tgt := 198) hx hb dX5_goFleece_106 (by decide) (fun c_11 => ?_) (fun c_11 => ?_)
            · refine lv_goto (tgt := 32) hx hb dX5_goFleece_198 (by decide) ?_
              exact ih_5 ((p, t + 1, s) :: r) mq td pl2 (upd nx2 r.length (nI (t + 1))) rb2 (show RPl pl2 (upd nx2 r.length (nI (t + 1))) ((p, t + 1, s) :: r) from ⟨hq1, up_eq _ _ _, RP_nx _ hq3 (Nat.le_refl _)⟩) (VS_next hvs (by omega)) htd hmo ((ch_skip (by omega) (nb_lt c_11)).trans hch) (by have z := mr_skip (p := p) (t := t) (s := s) (r := r) (by omega); omega) _ _ hP hD hS ls (lv_sub hl [2, 3, 4, 5, 6] rfl)
            · refine lv_iload_n hx hb dX5_goFleece_109 rfl (lv_at hl 3 rfl) ?_
              refine lv_iload hx hb dX5_goFleece_110 (lv_at hl 5 rfl) ?_
              refine lv_iconst (v := (-1)) hx hb dX5_goFleece_112 (by decide) ?_
              refine lv_ixor hx hb dX5_goFleece_113 ?_
              refine lv_iand hx hb dX5_goFleece_114 ?_
              refine lv_iload hx hb dX5_goFleece_115 (lv_at hl 0 rfl) ?_
              refine k_ri (run_RS (As := [.int (u &&& ((SSl ((p, t, s) :: r)) ^^^ (-1))), .int (nbF h w p t)]) (rest := []) ⟨hx, hb, hml, hown, hts⟩ (c_X5_isIn l D cI cJ cO (u &&& ((SSl ((p, t, s) :: r)) ^^^ (-1))) (nbF h w p t) (inN_mono (nb_0le hpn hn (by assumption)) (by omega))) (va_cwS 2 hts gX5_goFleece_X5_isIn rfl rfl rfl (by decide +kernel) ⟨Nat.le_of_ble_eq_true rfl, Nat.le_of_ble_eq_true rfl⟩) hP hK [] rfl rfl hl.1 rfl (Nat.le_of_ble_eq_true rfl) dX5_goFleece_117 ⟨Nat.le_refl _, Nat.le_refl _⟩) (fun r_12 q_13 => ?_)
              obtain rfl := q_13
              refine lv_if_eq (tgt := 198) hx hb dX5_goFleece_120 (by decide) (fun c_14 => ?_) (fun c_14 => ?_)
              · have c_14 := b2_f c_14
                refine lv_goto (tgt := 32) hx hb dX5_goFleece_198 (by decide) ?_
                exact ih_5 ((p, t + 1, s) :: r) mq td pl2 (upd nx2 r.length (nI (t + 1))) rb2 (show RPl pl2 (upd nx2 r.length (nI (t + 1))) ((p, t + 1, s) :: r) from ⟨hq1, up_eq _ _ _, RP_nx _ hq3 (Nat.le_refl _)⟩) (VS_next hvs (by omega)) htd hmo ((ch_skip (by omega) c_14).trans hch) (by have z := mr_skip (p := p) (t := t) (s := s) (r := r) (by omega); omega) _ _ hP hD hS ls (lv_sub hl [2, 3, 4, 5, 6] rfl)
              · have c_14 := b2_t c_14
                have hTi := c_14
                have hTn : inN (nbF h w p t) (h * w) := nb_0le hpn hn (by assumption)
                have hTe := hTn.eq
                have h14 := VS_14 (s' := 0) hn hvs (show t + 1 ≤ 4 by omega) hTn hTi
                refine lv_iinc (v := (nI (r.length + 1))) (lv' := [(3, .int (nI (r.length + 1))), (7, .int (nbF h w p t)), (6, .int (nI t)), (0, .ref (b 0)), (1, .int u), (4, .int (SSl ((p, t, s) :: r))), (5, .int (nI (popN 16 (sN u))))]) hx hb dX5_goFleece_123 hl (k := 4) rfl (nI_add _ 1) (by decide) rfl (fun ls hl => ?_)
                refine lv_iload hx hb dX5_goFleece_126 (lv_at hl 5 rfl) ?_
                refine lv_iconst (v := 1) hx hb dX5_goFleece_128 (by decide) ?_
                refine lv_iload hx hb dX5_goFleece_129 (lv_at hl 1 rfl) ?_
                refine lv_ishl hx hb dX5_goFleece_131 ?_
                refine lv_ior hx hb dX5_goFleece_132 ?_
                refine k_top (y := (SSl (((nbF h w p t).toNatClampNeg, 0, 0) :: (p, t + 1, s) :: r))) (ss_push hTe) ?_
                refine lv_istore (lv' := [(4, .int (SSl (((nbF h w p t).toNatClampNeg, 0, 0) :: (p, t + 1, s) :: r))), (3, .int (nI (r.length + 1))), (7, .int (nbF h w p t)), (6, .int (nI t)), (0, .ref (b 0)), (1, .int u), (5, .int (nI (popN 16 (sN u))))]) hx hb dX5_goFleece_133 hl (by decide) rfl (fun ls hl => ?_)
                refine lv_aload_n hx hb dX5_goFleece_135 rfl (lv_at hl 4 rfl) ?_
                refine va_get (D := D) (ci := 5) (v := .ref (b 4)) (C := RX5) (T := TX5) (N := 30) hx hb hts hin5 hown hK.1 hP 0 rfl rfl 16 (by decide) (hts _ (List.mem_of_getElem? (i := 1) rfl)) (fun _ h9 => h9) rfl dX5_goFleece_136 ?_
                refine lv_iload_n hx hb dX5_goFleece_139 rfl (lv_at hl 1 rfl) ?_
                refine lv_iload hx hb dX5_goFleece_140 (lv_at hl 2 rfl) ?_
                refine k_iast hx hb hK hP hD hS 1 0 rfl rfl (j := r.length + 1) (vp_in_nI (show r.length + 1 < 17 by omega) (by decide)) (nI_clamp (by omega)) dX5_goFleece_142 (fun H locs hP hD hS => ?_)
                have hP : va_P D vwCl [(b 0, .inr (5, [.int fa, .int (nI h), .int (nI w), .int pc, .int br, .ref (b 1), .ref (b 2), .int ra, .int q1, .int q2, .int q3, .int q4, .ref (b 3), .int fw, .int ea, .int sn, .ref (b 4), .ref (b 5), .ref (b 6), .int (nI mq), .int (nI rc), .ref (b 7), .ref (b 8), .ref (b 9), .ref (b 10), .ref (b 11), .ref (b 12), .ref (b 13), .ref (b 14), .int tr])), (b 4, .inl (cI, 17, .inl (upd pl2 (r.length + 1) (nbF h w p t)))), (b 5, .inl (cI, 17, .inl (upd nx2 r.length (nI (t + 1))))), (b 6, .inl (cI, 16, .inl rb2))] H := hP
                have hD : va_D A [(b 0, .inr (5, [.int fa, .int (nI h), .int (nI w), .int pc, .int br, .ref (b 1), .ref (b 2), .int ra, .int q1, .int q2, .int q3, .int q4, .ref (b 3), .int fw, .int ea, .int sn, .ref (b 4), .ref (b 5), .ref (b 6), .int (nI mq), .int (nI rc), .ref (b 7), .ref (b 8), .ref (b 9), .ref (b 10), .ref (b 11), .ref (b 12), .ref (b 13), .ref (b 14), .int tr])), (b 4, .inl (cI, 17, .inl (upd pl2 (r.length + 1) (nbF h w p t)))), (b 5, .inl (cI, 17, .inl (upd nx2 r.length (nI (t + 1))))), (b 6, .inl (cI, 16, .inl rb2))] := hD
                refine lv_aload_n hx hb dX5_goFleece_143 rfl (lv_at hl 4 rfl) ?_
                refine va_get (D := D) (ci := 5) (v := .ref (b 5)) (C := RX5) (T := TX5) (N := 30) hx hb hts hin5 hown hK.1 hP 0 rfl rfl 17 (by decide) (hts _ (List.mem_of_getElem? (i := 2) rfl)) (fun _ h9 => h9) rfl dX5_goFleece_144 ?_
                refine lv_iload_n hx hb dX5_goFleece_147 rfl (lv_at hl 1 rfl) ?_
                refine lv_iconst (v := 0) hx hb dX5_goFleece_148 (by decide) ?_
                refine k_iast hx hb hK hP hD hS 2 0 rfl rfl (j := r.length + 1) (vp_in_nI (show r.length + 1 < 17 by omega) (by decide)) (nI_clamp (by omega)) dX5_goFleece_149 (fun H locs hP hD hS => ?_)
                have hP : va_P D vwCl [(b 0, .inr (5, [.int fa, .int (nI h), .int (nI w), .int pc, .int br, .ref (b 1), .ref (b 2), .int ra, .int q1, .int q2, .int q3, .int q4, .ref (b 3), .int fw, .int ea, .int sn, .ref (b 4), .ref (b 5), .ref (b 6), .int (nI mq), .int (nI rc), .ref (b 7), .ref (b 8), .ref (b 9), .ref (b 10), .ref (b 11), .ref (b 12), .ref (b 13), .ref (b 14), .int tr])), (b 4, .inl (cI, 17, .inl (upd pl2 (r.length + 1) (nbF h w p t)))), (b 5, .inl (cI, 17, .inl (upd (upd nx2 r.length (nI (t + 1))) (r.length + 1) 0))), (b 6, .inl (cI, 16, .inl rb2))] H := hP
                have hD : va_D A [(b 0, .inr (5, [.int fa, .int (nI h), .int (nI w), .int pc, .int br, .ref (b 1), .ref (b 2), .int ra, .int q1, .int q2, .int q3, .int q4, .ref (b 3), .int fw, .int ea, .int sn, .ref (b 4), .ref (b 5), .ref (b 6), .int (nI mq), .int (nI rc), .ref (b 7), .ref (b 8), .ref (b 9), .ref (b 10), .ref (b 11), .ref (b 12), .ref (b 13), .ref (b 14), .int tr])), (b 4, .inl (cI, 17, .inl (upd pl2 (r.length + 1) (nbF h w p t)))), (b 5, .inl (cI, 17, .inl (upd (upd nx2 r.length (nI (t + 1))) (r.length + 1) 0))), (b 6, .inl (cI, 16, .inl rb2))] := hD
                refine lv_iload_n hx hb dX5_goFleece_150 rfl (lv_at hl 1 rfl) ?_
                refine lv_iconst (v := 1) hx hb dX5_goFleece_151 (by decide) ?_
                refine lv_iadd hx hb dX5_goFleece_152 ?_
                refine k_top (y := (nI ((r.length + 1) + 1))) (nI_add _ 1) ?_
                refine lv_aload_n hx hb dX5_goFleece_153 rfl (lv_at hl 4 rfl) ?_
                refine va_get (D := D) (ci := 5) (v := .int (nI mq)) (C := RX5) (T := TX5) (N := 30) hx hb hts hin5 hown hK.1 hP 0 rfl rfl 19 (by decide) (hts _ (List.mem_of_getElem? (i := 3) rfl)) (fun _ h9 => h9) rfl dX5_goFleece_154 ?_
                refine lv_icmp_le (tgt := 198) hx hb dX5_goFleece_157 (by decide) (fun c_15 => ?_) (fun c_15 => ?_)
                · have c_15 : (r.length + 1) + 1 ≤ mq := (nI_leI (a := (r.length + 1) + 1) (b := mq) (by omega) (by omega)).mp c_15
                  refine lv_goto (tgt := 32) hx hb dX5_goFleece_198 (by decide) ?_
                  exact ih_5 (((nbF h w p t).toNatClampNeg, 0, 0) :: (p, t + 1, s) :: r) mq (upd td r.length (nI t)) (upd pl2 (r.length + 1) (nbF h w p t)) (upd (upd nx2 r.length (nI (t + 1))) (r.length + 1) 0) rb2 ⟨(up_eq _ _ _).trans hTe, up_eq _ _ _, (RP_nx 0 (RP_pl (nbF h w p t) (show RPl pl2 (upd nx2 r.length (nI (t + 1))) ((p, t + 1, s) :: r) from ⟨hq1, up_eq _ _ _, RP_nx _ hq3 (Nat.le_refl _)⟩) (Nat.le_refl _)) (Nat.le_refl _))⟩ (VS_push hn hvs (by omega) hTn hTi) (show TDl (upd td r.length (nI t)) ((p, t + 1, s) :: r) from ⟨Nat.le_add_left 1 t, up_eq _ _ _, TD_up _ htd (Nat.le_refl _)⟩) hmo (by have z := (ch_push (s' := 0) (rb := rb2) (td := td) h14 (by omega) (by omega) hTe hTi).trans hch; rw [kp_n (by omega)] at z; exact z) (by have z := mr_push (p := p) (t := t) (s := s) (q := (nbF h w p t).toNatClampNeg) (s' := 0) (r := r) (by omega) h14; omega) _ _ hP hD hS ls (lv_sub hl [4, 5, 1, 0, 6] rfl)
                · have c_15 : mq < (r.length + 1) + 1 := Nat.lt_of_not_le (fun z => c_15 ((nI_leI (a := (r.length + 1) + 1) (b := mq) (by omega) (by omega)).mpr z))
                  refine lv_aload_n hx hb dX5_goFleece_160 rfl (lv_at hl 4 rfl) ?_
                  refine lv_iload_n hx hb dX5_goFleece_161 rfl (lv_at hl 1 rfl) ?_
                  refine lv_iconst (v := 1) hx hb dX5_goFleece_162 (by decide) ?_
                  refine lv_iadd hx hb dX5_goFleece_163 ?_
                  refine k_top (y := (nI ((r.length + 1) + 1))) (nI_add _ 1) ?_
                  refine va_put (D := D) (ci := 5) (v := .int (nI ((r.length + 1) + 1))) (ty := .int) (C := RX5) (T := TX5) (N := 30) hx hb hts hin5 tyX5 tyX5_ok nmX5 hown hK.1 hP hD hS 0 rfl rfl 19 (by decide) (hts _ (List.mem_of_getElem? (i := 3) rfl)) (fun _ h9 => h9) rfl (by decide +kernel) rfl rfl (Nat.le_of_ble_eq_true rfl) dX5_goFleece_164 (fun H locs hP hD hS => ?_)
                  have hP : va_P D vwCl [(b 0, .inr (5, [.int fa, .int (nI h), .int (nI w), .int pc, .int br, .ref (b 1), .ref (b 2), .int ra, .int q1, .int q2, .int q3, .int q4, .ref (b 3), .int fw, .int ea, .int sn, .ref (b 4), .ref (b 5), .ref (b 6), .int (nI ((r.length + 1) + 1)), .int (nI rc), .ref (b 7), .ref (b 8), .ref (b 9), .ref (b 10), .ref (b 11), .ref (b 12), .ref (b 13), .ref (b 14), .int tr])), (b 4, .inl (cI, 17, .inl (upd pl2 (r.length + 1) (nbF h w p t)))), (b 5, .inl (cI, 17, .inl (upd (upd nx2 r.length (nI (t + 1))) (r.length + 1) 0))), (b 6, .inl (cI, 16, .inl rb2))] H := hP
                  have hD : va_D A [(b 0, .inr (5, [.int fa, .int (nI h), .int (nI w), .int pc, .int br, .ref (b 1), .ref (b 2), .int ra, .int q1, .int q2, .int q3, .int q4, .ref (b 3), .int fw, .int ea, .int sn, .ref (b 4), .ref (b 5), .ref (b 6), .int (nI ((r.length + 1) + 1)), .int (nI rc), .ref (b 7), .ref (b 8), .ref (b 9), .ref (b 10), .ref (b 11), .ref (b 12), .ref (b 13), .ref (b 14), .int tr])), (b 4, .inl (cI, 17, .inl (upd pl2 (r.length + 1) (nbF h w p t)))), (b 5, .inl (cI, 17, .inl (upd (upd nx2 r.length (nI (t + 1))) (r.length + 1) 0))), (b 6, .inl (cI, 16, .inl rb2))] := hD
                  refine lv_iconst (v := 0) hx hb dX5_goFleece_167 (by decide) ?_
                  refine lv_istore (lv' := [(8, .int 0), (4, .int (SSl (((nbF h w p t).toNatClampNeg, 0, 0) :: (p, t + 1, s) :: r))), (3, .int (nI (r.length + 1))), (7, .int (nbF h w p t)), (6, .int (nI t)), (0, .ref (b 0)), (1, .int u), (5, .int (nI (popN 16 (sN u))))]) hx hb dX5_goFleece_168 hl (by decide) rfl (fun ls hl => ?_)
                  have key_17 : ∀ (n_16 : Nat) (x : Nat) (g : Nat → Int32), (x ≤ r.length + 1) → g = (fil (fun z => (upd (upd nx2 r.length (nI (t + 1))) (r.length + 1) 0) z - 1) rb2 x) → r.length + 1 - x < n_16 → ∀ (H : Heap) (locs : List Loc), va_P D vwCl [(b 0, .inr (5, [.int fa, .int (nI h), .int (nI w), .int pc, .int br, .ref (b 1), .ref (b 2), .int ra, .int q1, .int q2, .int q3, .int q4, .ref (b 3), .int fw, .int ea, .int sn, .ref (b 4), .ref (b 5), .ref (b 6), .int (nI ((r.length + 1) + 1)), .int (nI rc), .ref (b 7), .ref (b 8), .ref (b 9), .ref (b 10), .ref (b 11), .ref (b 12), .ref (b 13), .ref (b 14), .int tr])), (b 4, .inl (cI, 17, .inl (upd pl2 (r.length + 1) (nbF h w p t)))), (b 5, .inl (cI, 17, .inl (upd (upd nx2 r.length (nI (t + 1))) (r.length + 1) 0))), (b 6, .inl (cI, 16, .inl g))] H → va_D A [(b 0, .inr (5, [.int fa, .int (nI h), .int (nI w), .int pc, .int br, .ref (b 1), .ref (b 2), .int ra, .int q1, .int q2, .int q3, .int q4, .ref (b 3), .int fw, .int ea, .int sn, .ref (b 4), .ref (b 5), .ref (b 6), .int (nI ((r.length + 1) + 1)), .int (nI rc), .ref (b 7), .ref (b 8), .ref (b 9), .ref (b 10), .ref (b 11), .ref (b 12), .ref (b 13), .ref (b 14), .int tr])), (b 4, .inl (cI, 17, .inl (upd pl2 (r.length + 1) (nbF h w p t)))), (b 5, .inl (cI, 17, .inl (upd (upd nx2 r.length (nI (t + 1))) (r.length + 1) 0))), (b 6, .inl (cI, 16, .inl g))] → va_S A S_.heap H locs → ∀ ls : Array Slot, lv_has ls 9 [(0, .ref (b 0)), (1, .int u), (3, .int (nI (r.length + 1))), (4, .int (SSl (((nbF h w p t).toNatClampNeg, 0, 0) :: (p, t + 1, s) :: r))), (5, .int (nI (popN 16 (sN u)))), (8, .int (nI x))] → W P_ l E_ ({ frames := 2, cells := 0, slots := 0, locals := 49 } : Room) S_ M_ (([.ref (b 0), .int u, .int (nI j)] : List Value).toArray) B_ T_ K_ H locs 0 0 (MQ B_ ((QV D (fun (w1 : va_W) => ∃ (pl3 : Nat → Int32) (nx3 : Nat → Int32) (rb3 : Nat → Int32), (∀ k, k + 1 < msF h w j u → rb3 k = (flF h w j u).2.1 k) ∧ w1 = [(b 0, .inr (5, [.int fa, .int (nI h), .int (nI w), .int pc, .int br, .ref (b 1), .ref (b 2), .int ra, .int q1, .int q2, .int q3, .int q4, .ref (b 3), .int fw, .int ea, .int sn, .ref (b 4), .ref (b 5), .ref (b 6), .int (nI (msF h w j u)), .int (nI rc), .ref (b 7), .ref (b 8), .ref (b 9), .ref (b 10), .ref (b 11), .ref (b 12), .ref (b 13), .ref (b 14), .int tr])), (b 4, .inl (cI, 17, .inl pl3)), (b 5, .inl (cI, 17, .inl nx3)), (b 6, .inl (cI, 16, .inl rb3))])) A) (([.ref (b 0), .int u, .int (nI j)] : List Value).toArray) S_ 0 0 A) (F0 M_ 170 ls []) := by
                    intro n_16
                    induction n_16 with
                    | zero =>
                      intro x g hx2 e_g hmu_n_16
                      exact absurd hmu_n_16 (Nat.not_lt_zero _)
                    | succ n_16 ih_18 =>
                      intro x g hx2 e_g hmu_n_16 H locs hP hD hS ls hl
                      subst e_g
                      have hl : lv_has ls 9 [(0, .ref (b 0)), (1, .int u), (3, .int (nI (r.length + 1))), (4, .int (SSl (((nbF h w p t).toNatClampNeg, 0, 0) :: (p, t + 1, s) :: r))), (5, .int (nI (popN 16 (sN u)))), (8, .int (nI x))] := hl
                      have hP : va_P D vwCl [(b 0, .inr (5, [.int fa, .int (nI h), .int (nI w), .int pc, .int br, .ref (b 1), .ref (b 2), .int ra, .int q1, .int q2, .int q3, .int q4, .ref (b 3), .int fw, .int ea, .int sn, .ref (b 4), .ref (b 5), .ref (b 6), .int (nI ((r.length + 1) + 1)), .int (nI rc), .ref (b 7), .ref (b 8), .ref (b 9), .ref (b 10), .ref (b 11), .ref (b 12), .ref (b 13), .ref (b 14), .int tr])), (b 4, .inl (cI, 17, .inl (upd pl2 (r.length + 1) (nbF h w p t)))), (b 5, .inl (cI, 17, .inl (upd (upd nx2 r.length (nI (t + 1))) (r.length + 1) 0))), (b 6, .inl (cI, 16, .inl (fil (fun z => (upd (upd nx2 r.length (nI (t + 1))) (r.length + 1) 0) z - 1) rb2 x)))] H := hP
                      have hD : va_D A [(b 0, .inr (5, [.int fa, .int (nI h), .int (nI w), .int pc, .int br, .ref (b 1), .ref (b 2), .int ra, .int q1, .int q2, .int q3, .int q4, .ref (b 3), .int fw, .int ea, .int sn, .ref (b 4), .ref (b 5), .ref (b 6), .int (nI ((r.length + 1) + 1)), .int (nI rc), .ref (b 7), .ref (b 8), .ref (b 9), .ref (b 10), .ref (b 11), .ref (b 12), .ref (b 13), .ref (b 14), .int tr])), (b 4, .inl (cI, 17, .inl (upd pl2 (r.length + 1) (nbF h w p t)))), (b 5, .inl (cI, 17, .inl (upd (upd nx2 r.length (nI (t + 1))) (r.length + 1) 0))), (b 6, .inl (cI, 16, .inl (fil (fun z => (upd (upd nx2 r.length (nI (t + 1))) (r.length + 1) 0) z - 1) rb2 x)))] := hD
                      refine lv_iload hx hb dX5_goFleece_170 (lv_at hl 5 rfl) ?_
                      refine lv_iload_n hx hb dX5_goFleece_172 rfl (lv_at hl 2 rfl) ?_
                      refine lv_icmp_ge (tgt := 198) hx hb dX5_goFleece_173 (by decide) (fun c_19 => ?_) (fun c_19 => ?_)
                      · have c_19 : r.length + 1 ≤ x := (nI_leI (a := r.length + 1) (b := x) (by omega) (by omega)).mp c_19
                        obtain rfl : x = r.length + 1 := by omega
                        refine lv_goto (tgt := 32) hx hb dX5_goFleece_198 (by decide) ?_
                        exact ih_5 (((nbF h w p t).toNatClampNeg, 0, 0) :: (p, t + 1, s) :: r) ((r.length + 1) + 1) (upd td r.length (nI t)) (upd pl2 (r.length + 1) (nbF h w p t)) (upd (upd nx2 r.length (nI (t + 1))) (r.length + 1) 0) (fil (fun z => (upd (upd nx2 r.length (nI (t + 1))) (r.length + 1) 0) z - 1) rb2 (r.length + 1)) ⟨(up_eq _ _ _).trans hTe, up_eq _ _ _, (RP_nx 0 (RP_pl (nbF h w p t) (show RPl pl2 (upd nx2 r.length (nI (t + 1))) ((p, t + 1, s) :: r) from ⟨hq1, up_eq _ _ _, RP_nx _ hq3 (Nat.le_refl _)⟩) (Nat.le_refl _)) (Nat.le_refl _))⟩ (VS_push hn hvs (by omega) hTn hTi) (show TDl (upd td r.length (nI t)) ((p, t + 1, s) :: r) from ⟨Nat.le_add_left 1 t, up_eq _ _ _, TD_up _ htd (Nat.le_refl _)⟩) (by omega) (by have z := (ch_push (s' := 0) (rb := rb2) (td := td) h14 (by omega) (by omega) hTe hTi).trans hch; rw [kp_y (by omega)] at z; rw [fil_cong (n := r.length + 1) (f := fun z => (upd (upd nx2 r.length (nI (t + 1))) (r.length + 1) 0) z - 1) (f' := upd td r.length (nI t)) (TD_nx (RP_nx 0 (RP_pl (nbF h w p t) (show RPl pl2 (upd nx2 r.length (nI (t + 1))) ((p, t + 1, s) :: r) from ⟨hq1, up_eq _ _ _, RP_nx _ hq3 (Nat.le_refl _)⟩) (Nat.le_refl _)) (Nat.le_refl _)) (show TDl (upd td r.length (nI t)) ((p, t + 1, s) :: r) from ⟨Nat.le_add_left 1 t, up_eq _ _ _, TD_up _ htd (Nat.le_refl _)⟩))]; exact z) (by have z := mr_push (p := p) (t := t) (s := s) (q := (nbF h w p t).toNatClampNeg) (s' := 0) (r := r) (by omega) h14; omega) _ _ hP hD hS ls (lv_sub hl [0, 1, 2, 3, 4] rfl)
                      · have c_19 : x < r.length + 1 := Nat.lt_of_not_le (fun z => c_19 ((nI_leI (a := r.length + 1) (b := x) (by omega) (by omega)).mpr z))
                        refine lv_aload_n hx hb dX5_goFleece_176 rfl (lv_at hl 0 rfl) ?_
                        refine va_get (D := D) (ci := 5) (v := .ref (b 6)) (C := RX5) (T := TX5) (N := 30) hx hb hts hin5 hown hK.1 hP 0 rfl rfl 18 (by decide) (hts _ (List.mem_of_getElem? (i := 4) rfl)) (fun _ h9 => h9) rfl dX5_goFleece_177 ?_
                        refine lv_iload hx hb dX5_goFleece_180 (lv_at hl 5 rfl) ?_
                        refine lv_aload_n hx hb dX5_goFleece_182 rfl (lv_at hl 0 rfl) ?_
                        refine va_get (D := D) (ci := 5) (v := .ref (b 5)) (C := RX5) (T := TX5) (N := 30) hx hb hts hin5 hown hK.1 hP 0 rfl rfl 17 (by decide) (hts _ (List.mem_of_getElem? (i := 2) rfl)) (fun _ h9 => h9) rfl dX5_goFleece_183 ?_
                        refine lv_iload hx hb dX5_goFleece_186 (lv_at hl 5 rfl) ?_
                        refine k_iald hx hb hK hP 2 0 rfl rfl (j := x) (vp_in_nI (show x < 17 by omega) (by decide)) (nI_clamp (by omega)) dX5_goFleece_188 ?_
                        refine lv_iconst (v := 1) hx hb dX5_goFleece_189 (by decide) ?_
                        refine lv_isub hx hb dX5_goFleece_190 ?_
                        refine k_iast hx hb hK hP hD hS 3 0 rfl rfl (j := x) (vp_in_nI (show x < 16 by omega) (by decide)) (nI_clamp (by omega)) dX5_goFleece_191 (fun H locs hP hD hS => ?_)
                        have hP : va_P D vwCl [(b 0, .inr (5, [.int fa, .int (nI h), .int (nI w), .int pc, .int br, .ref (b 1), .ref (b 2), .int ra, .int q1, .int q2, .int q3, .int q4, .ref (b 3), .int fw, .int ea, .int sn, .ref (b 4), .ref (b 5), .ref (b 6), .int (nI ((r.length + 1) + 1)), .int (nI rc), .ref (b 7), .ref (b 8), .ref (b 9), .ref (b 10), .ref (b 11), .ref (b 12), .ref (b 13), .ref (b 14), .int tr])), (b 4, .inl (cI, 17, .inl (upd pl2 (r.length + 1) (nbF h w p t)))), (b 5, .inl (cI, 17, .inl (upd (upd nx2 r.length (nI (t + 1))) (r.length + 1) 0))), (b 6, .inl (cI, 16, .inl (upd (fil (fun z => (upd (upd nx2 r.length (nI (t + 1))) (r.length + 1) 0) z - 1) rb2 x) x (((upd (upd nx2 r.length (nI (t + 1))) (r.length + 1) 0) x) - 1))))] H := hP
                        have hD : va_D A [(b 0, .inr (5, [.int fa, .int (nI h), .int (nI w), .int pc, .int br, .ref (b 1), .ref (b 2), .int ra, .int q1, .int q2, .int q3, .int q4, .ref (b 3), .int fw, .int ea, .int sn, .ref (b 4), .ref (b 5), .ref (b 6), .int (nI ((r.length + 1) + 1)), .int (nI rc), .ref (b 7), .ref (b 8), .ref (b 9), .ref (b 10), .ref (b 11), .ref (b 12), .ref (b 13), .ref (b 14), .int tr])), (b 4, .inl (cI, 17, .inl (upd pl2 (r.length + 1) (nbF h w p t)))), (b 5, .inl (cI, 17, .inl (upd (upd nx2 r.length (nI (t + 1))) (r.length + 1) 0))), (b 6, .inl (cI, 16, .inl (upd (fil (fun z => (upd (upd nx2 r.length (nI (t + 1))) (r.length + 1) 0) z - 1) rb2 x) x (((upd (upd nx2 r.length (nI (t + 1))) (r.length + 1) 0) x) - 1))))] := hD
                        refine lv_iinc (v := (nI (x + 1))) (lv' := [(8, .int (nI (x + 1))), (0, .ref (b 0)), (1, .int u), (3, .int (nI (r.length + 1))), (4, .int (SSl (((nbF h w p t).toNatClampNeg, 0, 0) :: (p, t + 1, s) :: r))), (5, .int (nI (popN 16 (sN u))))]) hx hb dX5_goFleece_192 hl (k := 5) rfl (nI_add _ 1) (by decide) rfl (fun ls hl => ?_)
                        refine lv_goto (tgt := 170) hx hb dX5_goFleece_195 (by decide) ?_
                        exact ih_18 (x + 1) (upd (fil (fun z => (upd (upd nx2 r.length (nI (t + 1))) (r.length + 1) 0) z - 1) rb2 x) x (((upd (upd nx2 r.length (nI (t + 1))) (r.length + 1) 0) x) - 1)) (by omega) (fil_upd (fun z => (upd (upd nx2 r.length (nI (t + 1))) (r.length + 1) 0) z - 1) rb2 x rfl) (by omega) _ _ hP hD hS ls (lv_sub hl [1, 2, 3, 4, 5, 0] rfl)
                  exact key_17 _ 0 rb2 (by omega) (fil_0 _ _).symm (Nat.lt_succ_self _) _ _ hP hD hS ls (lv_sub hl [5, 6, 2, 1, 7, 0] rfl)
          · have c_8 : 3 < t := Nat.lt_of_not_le (fun z => c_8 ((nI_leI (a := t) (b := 3) (by omega) (by omega)).mpr z))
            obtain rfl : t = 4 := by omega
            refine lv_iload hx hb dX5_goFleece_59 (lv_at hl 4 rfl) ?_
            refine lv_iconst (v := 1) hx hb dX5_goFleece_61 (by decide) ?_
            refine lv_aload_n hx hb dX5_goFleece_62 rfl (lv_at hl 1 rfl) ?_
            refine va_get (D := D) (ci := 5) (v := .ref (b 4)) (C := RX5) (T := TX5) (N := 30) hx hb hts hin5 hown hK.1 hP 0 rfl rfl 16 (by decide) (hts _ (List.mem_of_getElem? (i := 1) rfl)) (fun _ h9 => h9) rfl dX5_goFleece_63 ?_
            refine lv_iload_n hx hb dX5_goFleece_66 rfl (lv_at hl 3 rfl) ?_
            refine k_iald hx hb hK hP 1 0 rfl rfl (j := r.length) (vp_in_nI (show r.length < 17 by omega) (by decide)) (nI_clamp (by omega)) dX5_goFleece_67 ?_
            refine k_top (y := (nI p)) hq1 ?_
            refine lv_ishl hx hb dX5_goFleece_68 ?_
            refine lv_iconst (v := (-1)) hx hb dX5_goFleece_69 (by decide) ?_
            refine lv_ixor hx hb dX5_goFleece_70 ?_
            refine lv_iand hx hb dX5_goFleece_71 ?_
            refine k_top (y := (SSl r)) (ss_pop (by omega) hvs.2.2.2.1) ?_
            refine lv_istore (lv' := [(4, .int (SSl r)), (6, .int (nI 4)), (0, .ref (b 0)), (1, .int u), (3, .int (nI r.length)), (5, .int (nI (popN 16 (sN u))))]) hx hb dX5_goFleece_72 hl (by decide) rfl (fun ls hl => ?_)
            refine lv_iinc (v := (dpF r)) (lv' := [(3, .int (dpF r)), (4, .int (SSl r)), (6, .int (nI 4)), (0, .ref (b 0)), (1, .int u), (5, .int (nI (popN 16 (sN u))))]) hx hb dX5_goFleece_74 hl (k := 4) rfl (dp_pop r) (by decide) rfl (fun ls hl => ?_)
            refine lv_goto (tgt := 198) hx hb dX5_goFleece_77 (by decide) ?_
            refine lv_goto (tgt := 32) hx hb dX5_goFleece_198 (by decide) ?_
            exact ih_5 r mq td pl2 nx2 rb2 hq3 hvs.2.2.2.2 (TD_tail htd) hmo (ch_pop.symm.trans hch) (by have z := mr_pop (p := p) (t := 4) (s := s) (r := r); omega) _ _ hP hD hS ls (lv_sub hl [3, 4, 0, 1, 5] rfl)
  exact key_4 _ ([(j, 0, 0)]) 1 (fun _ => 0) (upd pl 0 (nI j)) (upd nx 0 0) rb ⟨up_eq _ _ _, up_eq _ _ _, trivial⟩ ⟨hjn, Nat.zero_le 4, huc, fun z => z.2 (Int32.zero_and), trivial⟩ trivial (by decide) ch_0 (Nat.lt_succ_self _) _ _ hP hD hS ls (lv_sub hl [3, 4, 2, 1, 0] rfl)
