theorem mCopy {S : zS} {x : Int32} {n L N : Nat} (hn : gi S 8 0 0 = nI n) (h7 : n ≤ N) (hN : N < 2 ^ 31) (h : ¬ r_X8_isCopy S x = 0) (hL : L = N) : vp_in x L := by
  unfold r_X8_isCopy at h
  rw [hn] at h
  by_cases h0 : x < 0
  · rw [pif_pos h0] at h; exact absurd rfl h
  · rw [pif_neg h0] at h
    by_cases h1 : nI n ≤ x
    · rw [pif_pos h1] at h; exact absurd rfl h
    · have := vin_lt (vin_of h0 h1 (by omega) rfl) rfl
      rw [hL]
      rintro (q | q)
      · exact h0 q
      · have q : N ≤ ix x := q
        omega
theorem mClient {S : zS} {x : Int32} {L : Nat} (h : ¬ r_X8_isClient S x = 0) (hL : L = 4) : vp_in x L := by
  unfold r_X8_isClient at h
  by_cases h0 : x < 0
  · rw [pif_pos h0] at h; exact absurd rfl h
  · rw [pif_neg h0] at h
    by_cases h1 : 4 ≤ x
    · rw [pif_pos h1] at h; exact absurd rfl h
    · exact vin_of h0 (N := 4) h1 (by decide) hL
theorem mAct {S : zS} {x : Int32} {a L : Nat} (ha : gi S 8 0 29 = nI a) (h2 : a ≤ 200) (h : ¬ r_X8_isAct S x = 0) (hL : L = 201) : vp_in x L := by
  unfold r_X8_isAct at h
  rw [ha] at h
  by_cases h0 : x < 1
  · rw [pif_pos h0] at h; exact absurd rfl h
  · rw [pif_neg h0] at h
    by_cases h1 : nI a < x
    · rw [pif_pos h1] at h; exact absurd rfl h
    · have := ix_le (by omega) h1
      rw [hL]
      have e1 : (1 : Int32).toInt = 1 := rfl
      rintro (q | q)
      · rw [Int32.lt_iff_toInt_lt, Int32.toInt_zero] at q
        rw [Int32.lt_iff_toInt_lt, e1] at h0
        omega
      · have q : 201 ≤ ix x := q
        omega
theorem mAir {x : Int32} {cn L : Nat} (h0 : ¬ x < 0) (h1 : x < nI cn) (hcm : cn ≤ 300) (hL : L = 300) : vp_in x L := by
  have := vin_lt (vin_of2 h0 h1 (by omega) rfl) rfl
  rw [hL]
  rintro (q | q)
  · exact h0 q
  · have q : 300 ≤ ix x := q
    omega
noncomputable def r_X8_votes (S : zS) (n : Nat) (x y : Int32) : Int32 := 
  (pif ((r_X8_isCopy S (x)) = (0)) (0) 
    (pif ((y) < (0)) (0) 
      (pif ((y) ≤ (9)) (1) (0))))
noncomputable def s_X8_votes (S : zS) (n : Nat) (x y : Int32) : zS := 
  (pif ((r_X8_isCopy S (x)) = (0)) (S) 
    (pif ((y) < (0)) (S) 
      (pif ((y) ≤ (9)) ((si S 9 (109) (ix (x)) (y))) (S))))
theorem k_X8_votes {S : zS} {n : Nat} {x y : Int32} : (s_X8_votes S n x y).2.2 = S.2.2 := by unfold s_X8_votes; simp only [pif_22, oel_22, k_si, k_sj, pif_same, oel_same, k_X6_set, k_X6_put, k_X0_showTag, k_X4_repeat, k_X7_sendRequest, k_X7_sendRequests, k_X7_beginPhase, k_X7_endPhase, k_X7_again, k_X3_obey, k_X7_serve, k_X7_twice, k_X2_learn]
set_option maxHeartbeats 400000 in
set_option maxRecDepth 100000 in
theorem c_X8_votes {l : Launch} {D : va_G} {ar : Nat → ClassId} {A : Nat → Prop} {Z : zZ} {S : zS} {n : Nat} {x y : Int32} (hO : mOK Z S.2.2) (hn : gi S 8 0 0 = nI n) (h7 : n ≤ 7) : zMet l yX8_votes prog_10_method_4_code 3 (some .boolean) ({ frames := 1, cells := 0, slots := 0, locals := 21 } : Room) D ar A Z S [.ref (Z.1 8 (0)), .int (x), .int (y)] rvI (zF (r_X8_votes S n x y) Z (s_X8_votes S n x y)) := by
  refine z_body (by decide +kernel) (Nat.le_of_ble_eq_true rfl) ?_
  intro pX eX sX mX bX methX cX ls hM hr hlk hml hin hl hW hlo
  have hM : zM pX cX mX _ sX prog_10_method_4_code RX8 D ar := hM
  have hS : va_S A sX.heap sX.heap [] := va_S.rf
  have hl : lv_has ls 3 [(0, .ref (Z.1 8 (0))), (1, .int (x)), (2, .int (y))] := hl
  refine lv_aload_n hM.1 hM.2.1 dX8_votes_0 rfl (lv_at hl 0 rfl) ?_
  refine lv_iload_n hM.1 hM.2.1 dX8_votes_1 rfl (lv_at hl 1 rfl) ?_
  refine z_Vi hM (hml.trans hl.1.symm) hW hS hlo zc8 hO.1 rfl zyX8_isCopy lm_X8_136 li_yX8_isCopy le_yX8_isCopy (As := [.int (x)]) (rest := []) (c_X8_isCopy hO) rfl rfl (Nat.le_of_ble_eq_true rfl) ⟨Nat.le_of_ble_eq_true rfl, Nat.le_of_ble_eq_true rfl⟩ ⟨Nat.le_of_ble_eq_true rfl, Nat.le_of_ble_eq_true rfl⟩ dX8_votes_2 (fun H locs hW hS => ?_)
  refine lv_if_eq hM.1 hM.2.1 dX8_votes_5 (tgt := 18) (by decide) (fun h_5 => ?_) (fun h_5 => ?_)
  ·
    refine lv_iconst (v := 0) hM.1 hM.2.1 dX8_votes_18 (by decide) ?_
    exact z_iret hM hlk hr rfl hW hS (zF.of (by unfold r_X8_votes; rw [pif_pos h_5]; first | done | rfl) (by unfold s_X8_votes; rw [pif_pos h_5]; first | done | rfl)) dX8_votes_19
  ·
    refine lv_iload_n hM.1 hM.2.1 dX8_votes_8 rfl (lv_at hl 2 rfl) ?_
    refine lv_if_lt hM.1 hM.2.1 dX8_votes_9 (tgt := 18) (by decide) (fun h_9 => ?_) (fun h_9 => ?_)
    ·
      refine lv_iconst (v := 0) hM.1 hM.2.1 dX8_votes_18 (by decide) ?_
      exact z_iret hM hlk hr rfl hW hS (zF.of (by unfold r_X8_votes; rw [pif_neg h_5, pif_pos h_9]; first | done | rfl) (by unfold s_X8_votes; rw [pif_neg h_5, pif_pos h_9]; first | done | rfl)) dX8_votes_19
    ·
      refine lv_iload_n hM.1 hM.2.1 dX8_votes_12 rfl (lv_at hl 2 rfl) ?_
      refine lv_bipush (v := 9) hM.1 hM.2.1 dX8_votes_13 (by decide) ?_
      refine lv_icmp_le hM.1 hM.2.1 dX8_votes_15 (tgt := 20) (by decide) (fun h_15 => ?_) (fun h_15 => ?_)
      ·
        refine lv_aload_n hM.1 hM.2.1 dX8_votes_20 rfl (lv_at hl 0 rfl) ?_
        refine z_getr hM hW zc8 hO.1 rfl 9 (by decide) lf_X8_36 (t := 9) (j := 109) rfl (hO.r 9 (by decide) (by decide)) dX8_votes_21 (fun hd1_21 => ?_)
        refine lv_iload_n hM.1 hM.2.1 dX8_votes_24 rfl (lv_at hl 1 rfl) ?_
        refine lv_iload_n hM.1 hM.2.1 dX8_votes_25 rfl (lv_at hl 2 rfl) ?_
        refine z_iast hM hW hS hd1_21 rfl (mCopy hn (N := 7) h7 (by decide) h_5 (hO.l 9 (by decide) (by decide))) dX8_votes_26 (fun H locs hW hS => ?_)
        refine lv_iconst (v := 1) hM.1 hM.2.1 dX8_votes_27 (by decide) ?_
        exact z_iret hM hlk hr rfl hW hS (zF.of (by unfold r_X8_votes; rw [pif_neg h_5, pif_neg h_9, pif_pos h_15]; first | done | rfl) (by unfold s_X8_votes; rw [pif_neg h_5, pif_neg h_9, pif_pos h_15]; first | done | rfl)) dX8_votes_28
      ·
        refine lv_iconst (v := 0) hM.1 hM.2.1 dX8_votes_18 (by decide) ?_
        exact z_iret hM hlk hr rfl hW hS (zF.of (by unfold r_X8_votes; rw [pif_neg h_5, pif_neg h_9, pif_neg h_15]; first | done | rfl) (by unfold s_X8_votes; rw [pif_neg h_5, pif_neg h_9, pif_neg h_15]; first | done | rfl)) dX8_votes_19

noncomputable def r_X8_silent (S : zS) (n : Nat) (x y : Int32) : Int32 := 
  (pif ((r_X8_isCopy S (x)) = (0)) (0) (1))
noncomputable def s_X8_silent (S : zS) (n : Nat) (x y : Int32) : zS := 
  (pif ((r_X8_isCopy S (x)) = (0)) (S) ((si S 11 (107) (ix (x)) (y))))
theorem k_X8_silent {S : zS} {n : Nat} {x y : Int32} : (s_X8_silent S n x y).2.2 = S.2.2 := by unfold s_X8_silent; simp only [pif_22, oel_22, k_si, k_sj, pif_same, oel_same, k_X6_set, k_X6_put, k_X0_showTag, k_X4_repeat, k_X7_sendRequest, k_X7_sendRequests, k_X7_beginPhase, k_X7_endPhase, k_X7_again, k_X3_obey, k_X7_serve, k_X7_twice, k_X2_learn, k_X8_votes]
set_option maxHeartbeats 400000 in
set_option maxRecDepth 100000 in
theorem c_X8_silent {l : Launch} {D : va_G} {ar : Nat → ClassId} {A : Nat → Prop} {Z : zZ} {S : zS} {n : Nat} {x y : Int32} (hO : mOK Z S.2.2) (hn : gi S 8 0 0 = nI n) (h7 : n ≤ 7) (hy : isB y) : zMet l yX8_silent prog_10_method_29_code 3 (some .boolean) ({ frames := 1, cells := 0, slots := 0, locals := 21 } : Room) D ar A Z S [.ref (Z.1 8 (0)), .int (x), .int (y)] rvI (zF (r_X8_silent S n x y) Z (s_X8_silent S n x y)) := by
  refine z_body (by decide +kernel) (Nat.le_of_ble_eq_true rfl) ?_
  intro pX eX sX mX bX methX cX ls hM hr hlk hml hin hl hW hlo
  have hM : zM pX cX mX _ sX prog_10_method_29_code RX8 D ar := hM
  have hS : va_S A sX.heap sX.heap [] := va_S.rf
  have hl : lv_has ls 3 [(0, .ref (Z.1 8 (0))), (1, .int (x)), (2, .int (y))] := hl
  refine lv_aload_n hM.1 hM.2.1 dX8_silent_0 rfl (lv_at hl 0 rfl) ?_
  refine lv_iload_n hM.1 hM.2.1 dX8_silent_1 rfl (lv_at hl 1 rfl) ?_
  refine z_Vi hM (hml.trans hl.1.symm) hW hS hlo zc8 hO.1 rfl zyX8_isCopy lm_X8_136 li_yX8_isCopy le_yX8_isCopy (As := [.int (x)]) (rest := []) (c_X8_isCopy hO) rfl rfl (Nat.le_of_ble_eq_true rfl) ⟨Nat.le_of_ble_eq_true rfl, Nat.le_of_ble_eq_true rfl⟩ ⟨Nat.le_of_ble_eq_true rfl, Nat.le_of_ble_eq_true rfl⟩ dX8_silent_2 (fun H locs hW hS => ?_)
  refine lv_if_ne hM.1 hM.2.1 dX8_silent_5 (tgt := 10) (by decide) (fun h_5 => ?_) (fun h_5 => ?_)
  ·
    refine lv_aload_n hM.1 hM.2.1 dX8_silent_10 rfl (lv_at hl 0 rfl) ?_
    refine z_getr hM hW zc8 hO.1 rfl 7 (by decide) lf_X8_29 (t := 11) (j := 107) rfl (hO.r 7 (by decide) (by decide)) dX8_silent_11 (fun hd1_11 => ?_)
    refine lv_iload_n hM.1 hM.2.1 dX8_silent_14 rfl (lv_at hl 1 rfl) ?_
    refine lv_iload_n hM.1 hM.2.1 dX8_silent_15 rfl (lv_at hl 2 rfl) ?_
    refine z_zast hM hW hS hd1_11 rfl (mCopy hn (N := 7) h7 (by decide) h_5 (hO.l 7 (by decide) (by decide))) (narrow_isB hy) dX8_silent_16 (fun H locs hW hS => ?_)
    refine lv_iconst (v := 1) hM.1 hM.2.1 dX8_silent_17 (by decide) ?_
    exact z_iret hM hlk hr rfl hW hS (zF.of (by unfold r_X8_silent; rw [pif_neg h_5]; first | done | rfl) (by unfold s_X8_silent; rw [pif_neg h_5]; first | done | rfl)) dX8_silent_18
  ·
    refine lv_iconst (v := 0) hM.1 hM.2.1 dX8_silent_8 (by decide) ?_
    exact z_iret hM hlk hr rfl hW hS (zF.of (by unfold r_X8_silent; rw [pif_pos h_5]; first | done | rfl) (by unfold s_X8_silent; rw [pif_pos h_5]; first | done | rfl)) dX8_silent_9

noncomputable def r_X8_side (S : zS) (n : Nat) (x y : Int32) : Int32 := 
  (pif ((y) < (0)) (0) 
    (pif ((y) ≤ (3)) 
      (pif ((r_X8_isCopy S (x)) = (0)) 
        (pif ((r_X8_isClient S ((x) - (10))) = (0)) (0) (1)) (1)) (0)))
noncomputable def s_X8_side (S : zS) (n : Nat) (x y : Int32) : zS := 
  (pif ((y) < (0)) (S) 
    (pif ((y) ≤ (3)) 
      (pif ((r_X8_isCopy S (x)) = (0)) 
        (pif ((r_X8_isClient S ((x) - (10))) = (0)) (S) ((si S 9 (116) (ix ((x) - (10))) (y)))) ((si S 9 (106) (ix (x)) (y)))) (S)))
theorem k_X8_side {S : zS} {n : Nat} {x y : Int32} : (s_X8_side S n x y).2.2 = S.2.2 := by unfold s_X8_side; simp only [pif_22, oel_22, k_si, k_sj, pif_same, oel_same, k_X6_set, k_X6_put, k_X0_showTag, k_X4_repeat, k_X7_sendRequest, k_X7_sendRequests, k_X7_beginPhase, k_X7_endPhase, k_X7_again, k_X3_obey, k_X7_serve, k_X7_twice, k_X2_learn, k_X8_votes, k_X8_silent]
set_option maxHeartbeats 400000 in
set_option maxRecDepth 100000 in
theorem c_X8_side {l : Launch} {D : va_G} {ar : Nat → ClassId} {A : Nat → Prop} {Z : zZ} {S : zS} {n : Nat} {x y : Int32} (hO : mOK Z S.2.2) (hn : gi S 8 0 0 = nI n) (h7 : n ≤ 7) : zMet l yX8_side prog_10_method_30_code 3 (some .boolean) ({ frames := 1, cells := 0, slots := 0, locals := 21 } : Room) D ar A Z S [.ref (Z.1 8 (0)), .int (x), .int (y)] rvI (zF (r_X8_side S n x y) Z (s_X8_side S n x y)) := by
  refine z_body (by decide +kernel) (Nat.le_of_ble_eq_true rfl) ?_
  intro pX eX sX mX bX methX cX ls hM hr hlk hml hin hl hW hlo
  have hM : zM pX cX mX _ sX prog_10_method_30_code RX8 D ar := hM
  have hS : va_S A sX.heap sX.heap [] := va_S.rf
  have hl : lv_has ls 3 [(0, .ref (Z.1 8 (0))), (1, .int (x)), (2, .int (y))] := hl
  refine lv_iload_n hM.1 hM.2.1 dX8_side_0 rfl (lv_at hl 2 rfl) ?_
  refine lv_if_lt hM.1 hM.2.1 dX8_side_1 (tgt := 9) (by decide) (fun h_1 => ?_) (fun h_1 => ?_)
  ·
    refine lv_iconst (v := 0) hM.1 hM.2.1 dX8_side_9 (by decide) ?_
    exact z_iret hM hlk hr rfl hW hS (zF.of (by unfold r_X8_side; rw [pif_pos h_1]; first | done | rfl) (by unfold s_X8_side; rw [pif_pos h_1]; first | done | rfl)) dX8_side_10
  ·
    refine lv_iload_n hM.1 hM.2.1 dX8_side_4 rfl (lv_at hl 2 rfl) ?_
    refine lv_iconst (v := 3) hM.1 hM.2.1 dX8_side_5 (by decide) ?_
    refine lv_icmp_le hM.1 hM.2.1 dX8_side_6 (tgt := 11) (by decide) (fun h_6 => ?_) (fun h_6 => ?_)
    ·
      refine lv_aload_n hM.1 hM.2.1 dX8_side_11 rfl (lv_at hl 0 rfl) ?_
      refine lv_iload_n hM.1 hM.2.1 dX8_side_12 rfl (lv_at hl 1 rfl) ?_
      refine z_Vi hM (hml.trans hl.1.symm) hW hS hlo zc8 hO.1 rfl zyX8_isCopy lm_X8_136 li_yX8_isCopy le_yX8_isCopy (As := [.int (x)]) (rest := []) (c_X8_isCopy hO) rfl rfl (Nat.le_of_ble_eq_true rfl) ⟨Nat.le_of_ble_eq_true rfl, Nat.le_of_ble_eq_true rfl⟩ ⟨Nat.le_of_ble_eq_true rfl, Nat.le_of_ble_eq_true rfl⟩ dX8_side_13 (fun H locs hW hS => ?_)
      refine lv_if_eq hM.1 hM.2.1 dX8_side_16 (tgt := 29) (by decide) (fun h_16 => ?_) (fun h_16 => ?_)
      ·
        refine lv_iload_n hM.1 hM.2.1 dX8_side_29 rfl (lv_at hl 1 rfl) ?_
        refine lv_bipush (v := 10) hM.1 hM.2.1 dX8_side_30 (by decide) ?_
        refine lv_isub hM.1 hM.2.1 dX8_side_32 ?_
        refine z_Si hM (hml.trans hl.1.symm) hW hS hlo zyX8_isClient lm_X8_167 ls_yX8_isClient (As := [.int ((x) - (10))]) (rest := []) (c_X8_isClient (S := S)) rfl rfl (Nat.le_of_ble_eq_true rfl) ⟨Nat.le_of_ble_eq_true rfl, Nat.le_of_ble_eq_true rfl⟩ ⟨Nat.le_of_ble_eq_true rfl, Nat.le_of_ble_eq_true rfl⟩ dX8_side_33 (fun H locs hW hS => ?_)
        refine lv_if_eq hM.1 hM.2.1 dX8_side_36 (tgt := 52) (by decide) (fun h_36 => ?_) (fun h_36 => ?_)
        ·
          refine lv_iconst (v := 0) hM.1 hM.2.1 dX8_side_52 (by decide) ?_
          exact z_iret hM hlk hr rfl hW hS (zF.of (by unfold r_X8_side; rw [pif_neg h_1, pif_pos h_6, pif_pos h_16, pif_pos h_36]; first | done | rfl) (by unfold s_X8_side; rw [pif_neg h_1, pif_pos h_6, pif_pos h_16, pif_pos h_36]; first | done | rfl)) dX8_side_53
        ·
          refine lv_aload_n hM.1 hM.2.1 dX8_side_39 rfl (lv_at hl 0 rfl) ?_
          refine z_getr hM hW zc8 hO.1 rfl 16 (by decide) lf_X8_54 (t := 9) (j := 116) rfl (hO.r 16 (by decide) (by decide)) dX8_side_40 (fun hd1_40 => ?_)
          refine lv_iload_n hM.1 hM.2.1 dX8_side_43 rfl (lv_at hl 1 rfl) ?_
          refine lv_bipush (v := 10) hM.1 hM.2.1 dX8_side_44 (by decide) ?_
          refine lv_isub hM.1 hM.2.1 dX8_side_46 ?_
          refine lv_iload_n hM.1 hM.2.1 dX8_side_47 rfl (lv_at hl 2 rfl) ?_
          refine z_iast hM hW hS hd1_40 rfl (mClient h_36 (hO.l 16 (by decide) (by decide))) dX8_side_48 (fun H locs hW hS => ?_)
          refine lv_goto hM.1 hM.2.1 dX8_side_49 (tgt := 54) (by decide) ?_
          refine lv_iconst (v := 1) hM.1 hM.2.1 dX8_side_54 (by decide) ?_
          exact z_iret hM hlk hr rfl hW hS (zF.of (by unfold r_X8_side; rw [pif_neg h_1, pif_pos h_6, pif_pos h_16, pif_neg h_36]; first | done | rfl) (by unfold s_X8_side; rw [pif_neg h_1, pif_pos h_6, pif_pos h_16, pif_neg h_36]; first | done | rfl)) dX8_side_55
      ·
        refine lv_aload_n hM.1 hM.2.1 dX8_side_19 rfl (lv_at hl 0 rfl) ?_
        refine z_getr hM hW zc8 hO.1 rfl 6 (by decide) lf_X8_26 (t := 9) (j := 106) rfl (hO.r 6 (by decide) (by decide)) dX8_side_20 (fun hd2_20 => ?_)
        refine lv_iload_n hM.1 hM.2.1 dX8_side_23 rfl (lv_at hl 1 rfl) ?_
        refine lv_iload_n hM.1 hM.2.1 dX8_side_24 rfl (lv_at hl 2 rfl) ?_
        refine z_iast hM hW hS hd2_20 rfl (mCopy hn (N := 7) h7 (by decide) h_16 (hO.l 6 (by decide) (by decide))) dX8_side_25 (fun H locs hW hS => ?_)
        refine lv_goto hM.1 hM.2.1 dX8_side_26 (tgt := 54) (by decide) ?_
        refine lv_iconst (v := 1) hM.1 hM.2.1 dX8_side_54 (by decide) ?_
        exact z_iret hM hlk hr rfl hW hS (zF.of (by unfold r_X8_side; rw [pif_neg h_1, pif_pos h_6, pif_neg h_16]; first | done | rfl) (by unfold s_X8_side; rw [pif_neg h_1, pif_pos h_6, pif_neg h_16]; first | done | rfl)) dX8_side_55
    ·
      refine lv_iconst (v := 0) hM.1 hM.2.1 dX8_side_9 (by decide) ?_
      exact z_iret hM hlk hr rfl hW hS (zF.of (by unfold r_X8_side; rw [pif_neg h_1, pif_neg h_6]; first | done | rfl) (by unfold s_X8_side; rw [pif_neg h_1, pif_neg h_6]; first | done | rfl)) dX8_side_10

noncomputable def r_X8_copy (S : zS) (n : Nat) (x y : Int32) : Int32 := 
  (pif ((r_X8_isCopy S (x)) = (0)) ((-1)) 
    (pif ((y) = (0)) (gi S 9 (102) (ix (x))) 
      (pif ((y) = (1)) (gi S 9 (103) (ix (x))) 
        (pif ((y) = (2)) (gi S 9 (104) (ix (x))) 
          (pif ((y) = (3)) (gi S 9 (105) (ix (x))) 
            (pif ((y) = (4)) 
              (pif ((gi S 11 (107) (ix (x))) = (0)) (0) (1)) 
              (pif ((y) = (5)) (gi S 9 (106) (ix (x))) ((-1)))))))))
set_option maxHeartbeats 400000 in
set_option maxRecDepth 100000 in
theorem c_X8_copy {l : Launch} {D : va_G} {ar : Nat → ClassId} {A : Nat → Prop} {Z : zZ} {S : zS} {n : Nat} {x y : Int32} (hO : mOK Z S.2.2) (hn : gi S 8 0 0 = nI n) (h7 : n ≤ 7) : zMet l yX8_copy prog_10_method_32_code 3 (some .int) ({ frames := 1, cells := 0, slots := 0, locals := 21 } : Room) D ar A Z S [.ref (Z.1 8 (0)), .int (x), .int (y)] rvI (zF (r_X8_copy S n x y) Z S) := by
  refine z_body (by decide +kernel) (Nat.le_of_ble_eq_true rfl) ?_
  intro pX eX sX mX bX methX cX ls hM hr hlk hml hin hl hW hlo
  have hM : zM pX cX mX _ sX prog_10_method_32_code RX8 D ar := hM
  have hS : va_S A sX.heap sX.heap [] := va_S.rf
  have hl : lv_has ls 3 [(0, .ref (Z.1 8 (0))), (1, .int (x)), (2, .int (y))] := hl
  refine lv_aload_n hM.1 hM.2.1 dX8_copy_0 rfl (lv_at hl 0 rfl) ?_
  refine lv_iload_n hM.1 hM.2.1 dX8_copy_1 rfl (lv_at hl 1 rfl) ?_
  refine z_Vi hM (hml.trans hl.1.symm) hW hS hlo zc8 hO.1 rfl zyX8_isCopy lm_X8_136 li_yX8_isCopy le_yX8_isCopy (As := [.int (x)]) (rest := []) (c_X8_isCopy hO) rfl rfl (Nat.le_of_ble_eq_true rfl) ⟨Nat.le_of_ble_eq_true rfl, Nat.le_of_ble_eq_true rfl⟩ ⟨Nat.le_of_ble_eq_true rfl, Nat.le_of_ble_eq_true rfl⟩ dX8_copy_2 (fun H locs hW hS => ?_)
  refine lv_if_ne hM.1 hM.2.1 dX8_copy_5 (tgt := 10) (by decide) (fun h_5 => ?_) (fun h_5 => ?_)
  ·
    refine lv_iload_n hM.1 hM.2.1 dX8_copy_10 rfl (lv_at hl 2 rfl) ?_
    by_cases h_11_0 : (y) = (0)
    ·
      refine lv_tableIn hM.1 hM.2.1 dX8_copy_11 (by rw [h_11_0]; decide) (by rw [h_11_0]; decide) (off := 37) (by rw [h_11_0]; rfl) (tgt := 48) (by decide) ?_
      refine lv_aload_n hM.1 hM.2.1 dX8_copy_48 rfl (lv_at hl 0 rfl) ?_
      refine z_getr hM hW zc8 hO.1 rfl 2 (by decide) lf_X8_13 (t := 9) (j := 102) rfl (hO.r 2 (by decide) (by decide)) dX8_copy_49 (fun hd1_49 => ?_)
      refine lv_iload_n hM.1 hM.2.1 dX8_copy_52 rfl (lv_at hl 1 rfl) ?_
      refine z_iald hM hW hd1_49 rfl (mCopy hn (N := 7) h7 (by decide) h_5 (hO.l 2 (by decide) (by decide))) (v := gi S 9 (102) (ix (x))) rfl dX8_copy_53 ?_
      exact z_iret hM hlk hr rfl hW hS (zF.of (by unfold r_X8_copy; rw [pif_neg h_5, pif_pos h_11_0]; first | done | rfl) rfl) dX8_copy_54
    by_cases h_11_1 : (y) = (1)
    ·
      refine lv_tableIn hM.1 hM.2.1 dX8_copy_11 (by rw [h_11_1]; decide) (by rw [h_11_1]; decide) (off := 44) (by rw [h_11_1]; rfl) (tgt := 55) (by decide) ?_
      refine lv_aload_n hM.1 hM.2.1 dX8_copy_55 rfl (lv_at hl 0 rfl) ?_
      refine z_getr hM hW zc8 hO.1 rfl 3 (by decide) lf_X8_17 (t := 9) (j := 103) rfl (hO.r 3 (by decide) (by decide)) dX8_copy_56 (fun hd2_56 => ?_)
      refine lv_iload_n hM.1 hM.2.1 dX8_copy_59 rfl (lv_at hl 1 rfl) ?_
      refine z_iald hM hW hd2_56 rfl (mCopy hn (N := 7) h7 (by decide) h_5 (hO.l 3 (by decide) (by decide))) (v := gi S 9 (103) (ix (x))) rfl dX8_copy_60 ?_
      exact z_iret hM hlk hr rfl hW hS (zF.of (by unfold r_X8_copy; rw [pif_neg h_5, pif_neg h_11_0, pif_pos h_11_1]; first | done | rfl) rfl) dX8_copy_61
    by_cases h_11_2 : (y) = (2)
    ·
      refine lv_tableIn hM.1 hM.2.1 dX8_copy_11 (by rw [h_11_2]; decide) (by rw [h_11_2]; decide) (off := 51) (by rw [h_11_2]; rfl) (tgt := 62) (by decide) ?_
      refine lv_aload_n hM.1 hM.2.1 dX8_copy_62 rfl (lv_at hl 0 rfl) ?_
      refine z_getr hM hW zc8 hO.1 rfl 4 (by decide) lf_X8_20 (t := 9) (j := 104) rfl (hO.r 4 (by decide) (by decide)) dX8_copy_63 (fun hd3_63 => ?_)
      refine lv_iload_n hM.1 hM.2.1 dX8_copy_66 rfl (lv_at hl 1 rfl) ?_
      refine z_iald hM hW hd3_63 rfl (mCopy hn (N := 7) h7 (by decide) h_5 (hO.l 4 (by decide) (by decide))) (v := gi S 9 (104) (ix (x))) rfl dX8_copy_67 ?_
      exact z_iret hM hlk hr rfl hW hS (zF.of (by unfold r_X8_copy; rw [pif_neg h_5, pif_neg h_11_0, pif_neg h_11_1, pif_pos h_11_2]; first | done | rfl) rfl) dX8_copy_68
    by_cases h_11_3 : (y) = (3)
    ·
      refine lv_tableIn hM.1 hM.2.1 dX8_copy_11 (by rw [h_11_3]; decide) (by rw [h_11_3]; decide) (off := 58) (by rw [h_11_3]; rfl) (tgt := 69) (by decide) ?_
      refine lv_aload_n hM.1 hM.2.1 dX8_copy_69 rfl (lv_at hl 0 rfl) ?_
      refine z_getr hM hW zc8 hO.1 rfl 5 (by decide) lf_X8_23 (t := 9) (j := 105) rfl (hO.r 5 (by decide) (by decide)) dX8_copy_70 (fun hd4_70 => ?_)
      refine lv_iload_n hM.1 hM.2.1 dX8_copy_73 rfl (lv_at hl 1 rfl) ?_
      refine z_iald hM hW hd4_70 rfl (mCopy hn (N := 7) h7 (by decide) h_5 (hO.l 5 (by decide) (by decide))) (v := gi S 9 (105) (ix (x))) rfl dX8_copy_74 ?_
      exact z_iret hM hlk hr rfl hW hS (zF.of (by unfold r_X8_copy; rw [pif_neg h_5, pif_neg h_11_0, pif_neg h_11_1, pif_neg h_11_2, pif_pos h_11_3]; first | done | rfl) rfl) dX8_copy_75
    by_cases h_11_4 : (y) = (4)
    ·
      refine lv_tableIn hM.1 hM.2.1 dX8_copy_11 (by rw [h_11_4]; decide) (by rw [h_11_4]; decide) (off := 65) (by rw [h_11_4]; rfl) (tgt := 76) (by decide) ?_
      refine lv_aload_n hM.1 hM.2.1 dX8_copy_76 rfl (lv_at hl 0 rfl) ?_
      refine z_getr hM hW zc8 hO.1 rfl 7 (by decide) lf_X8_29 (t := 11) (j := 107) rfl (hO.r 7 (by decide) (by decide)) dX8_copy_77 (fun hd5_77 => ?_)
      refine lv_iload_n hM.1 hM.2.1 dX8_copy_80 rfl (lv_at hl 1 rfl) ?_
      refine z_zald hM hW hd5_77 rfl (mCopy hn (N := 7) h7 (by decide) h_5 (hO.l 7 (by decide) (by decide))) (v := gi S 11 (107) (ix (x))) rfl dX8_copy_81 ?_
      refine lv_if_eq hM.1 hM.2.1 dX8_copy_82 (tgt := 89) (by decide) (fun h_82 => ?_) (fun h_82 => ?_)
      ·
        refine lv_iconst (v := 0) hM.1 hM.2.1 dX8_copy_89 (by decide) ?_
        exact z_iret hM hlk hr rfl hW hS (zF.of (by unfold r_X8_copy; rw [pif_neg h_5, pif_neg h_11_0, pif_neg h_11_1, pif_neg h_11_2, pif_neg h_11_3, pif_pos h_11_4, pif_pos h_82]; first | done | rfl) rfl) dX8_copy_90
      ·
        refine lv_iconst (v := 1) hM.1 hM.2.1 dX8_copy_85 (by decide) ?_
        refine lv_goto hM.1 hM.2.1 dX8_copy_86 (tgt := 90) (by decide) ?_
        exact z_iret hM hlk hr rfl hW hS (zF.of (by unfold r_X8_copy; rw [pif_neg h_5, pif_neg h_11_0, pif_neg h_11_1, pif_neg h_11_2, pif_neg h_11_3, pif_pos h_11_4, pif_neg h_82]; first | done | rfl) rfl) dX8_copy_90
    by_cases h_11_5 : (y) = (5)
    ·
      refine lv_tableIn hM.1 hM.2.1 dX8_copy_11 (by rw [h_11_5]; decide) (by rw [h_11_5]; decide) (off := 80) (by rw [h_11_5]; rfl) (tgt := 91) (by decide) ?_
      refine lv_aload_n hM.1 hM.2.1 dX8_copy_91 rfl (lv_at hl 0 rfl) ?_
      refine z_getr hM hW zc8 hO.1 rfl 6 (by decide) lf_X8_26 (t := 9) (j := 106) rfl (hO.r 6 (by decide) (by decide)) dX8_copy_92 (fun hd6_92 => ?_)
      refine lv_iload_n hM.1 hM.2.1 dX8_copy_95 rfl (lv_at hl 1 rfl) ?_
      refine z_iald hM hW hd6_92 rfl (mCopy hn (N := 7) h7 (by decide) h_5 (hO.l 6 (by decide) (by decide))) (v := gi S 9 (106) (ix (x))) rfl dX8_copy_96 ?_
      exact z_iret hM hlk hr rfl hW hS (zF.of (by unfold r_X8_copy; rw [pif_neg h_5, pif_neg h_11_0, pif_neg h_11_1, pif_neg h_11_2, pif_neg h_11_3, pif_neg h_11_4, pif_pos h_11_5]; first | done | rfl) rfl) dX8_copy_97
    refine lv_tableOut hM.1 hM.2.1 dX8_copy_11 (by have n0 : Int32.toInt (y) ≠ 0 := fun q => h_11_0 (Int32.toInt_inj.mp (by rw [q]; rfl)); have n1 : Int32.toInt (y) ≠ 1 := fun q => h_11_1 (Int32.toInt_inj.mp (by rw [q]; rfl)); have n2 : Int32.toInt (y) ≠ 2 := fun q => h_11_2 (Int32.toInt_inj.mp (by rw [q]; rfl)); have n3 : Int32.toInt (y) ≠ 3 := fun q => h_11_3 (Int32.toInt_inj.mp (by rw [q]; rfl)); have n4 : Int32.toInt (y) ≠ 4 := fun q => h_11_4 (Int32.toInt_inj.mp (by rw [q]; rfl)); have n5 : Int32.toInt (y) ≠ 5 := fun q => h_11_5 (Int32.toInt_inj.mp (by rw [q]; rfl)); omega) (tgt := 98) (by decide) ?_
    refine lv_iconst (v := (-1)) hM.1 hM.2.1 dX8_copy_98 (by decide) ?_
    exact z_iret hM hlk hr rfl hW hS (zF.of (by unfold r_X8_copy; rw [pif_neg h_5, pif_neg h_11_0, pif_neg h_11_1, pif_neg h_11_2, pif_neg h_11_3, pif_neg h_11_4, pif_neg h_11_5]; first | done | rfl) rfl) dX8_copy_99
  ·
    refine lv_iconst (v := (-1)) hM.1 hM.2.1 dX8_copy_8 (by decide) ?_
    exact z_iret hM hlk hr rfl hW hS (zF.of (by unfold r_X8_copy; rw [pif_pos h_5]; first | done | rfl) rfl) dX8_copy_9

noncomputable def r_X8_kept (S : zS) (n : Nat) (x : Int32) : Int64 := 
  (pif ((r_X8_isCopy S (x)) = (0)) (0) (gj S 10 (101) (ix (x))))
set_option maxHeartbeats 400000 in
set_option maxRecDepth 100000 in
theorem c_X8_kept {l : Launch} {D : va_G} {ar : Nat → ClassId} {A : Nat → Prop} {Z : zZ} {S : zS} {n : Nat} {x : Int32} (hO : mOK Z S.2.2) (hn : gi S 8 0 0 = nI n) (h7 : n ≤ 7) : zMet l yX8_kept prog_10_method_33_code 2 (some .long) ({ frames := 1, cells := 0, slots := 0, locals := 21 } : Room) D ar A Z S [.ref (Z.1 8 (0)), .int (x)] rvL (zF (r_X8_kept S n x) Z S) := by
  refine z_body (by decide +kernel) (Nat.le_of_ble_eq_true rfl) ?_
  intro pX eX sX mX bX methX cX ls hM hr hlk hml hin hl hW hlo
  have hM : zM pX cX mX _ sX prog_10_method_33_code RX8 D ar := hM
  have hS : va_S A sX.heap sX.heap [] := va_S.rf
  have hl : lv_has ls 2 [(0, .ref (Z.1 8 (0))), (1, .int (x))] := hl
  refine lv_aload_n hM.1 hM.2.1 dX8_kept_0 rfl (lv_at hl 0 rfl) ?_
  refine lv_iload_n hM.1 hM.2.1 dX8_kept_1 rfl (lv_at hl 1 rfl) ?_
  refine z_Vi hM (hml.trans hl.1.symm) hW hS hlo zc8 hO.1 rfl zyX8_isCopy lm_X8_136 li_yX8_isCopy le_yX8_isCopy (As := [.int (x)]) (rest := []) (c_X8_isCopy hO) rfl rfl (Nat.le_of_ble_eq_true rfl) ⟨Nat.le_of_ble_eq_true rfl, Nat.le_of_ble_eq_true rfl⟩ ⟨Nat.le_of_ble_eq_true rfl, Nat.le_of_ble_eq_true rfl⟩ dX8_kept_2 (fun H locs hW hS => ?_)
  refine lv_if_eq hM.1 hM.2.1 dX8_kept_5 (tgt := 17) (by decide) (fun h_5 => ?_) (fun h_5 => ?_)
  ·
    refine lv_lconst (v := 0) hM.1 hM.2.1 dX8_kept_17 (by decide) ?_
    exact z_lret hM hlk hr hW hS (zF.of (by unfold r_X8_kept; rw [pif_pos h_5]; first | done | rfl) rfl) dX8_kept_18
  ·
    refine lv_aload_n hM.1 hM.2.1 dX8_kept_8 rfl (lv_at hl 0 rfl) ?_
    refine z_getr hM hW zc8 hO.1 rfl 1 (by decide) lf_X8_7 (t := 10) (j := 101) rfl (hO.r 1 (by decide) (by decide)) dX8_kept_9 (fun hd1_9 => ?_)
    refine lv_iload_n hM.1 hM.2.1 dX8_kept_12 rfl (lv_at hl 1 rfl) ?_
    refine z_lald hM hW hd1_9 rfl (mCopy hn (N := 7) h7 (by decide) h_5 (hO.l 1 (by decide) (by decide))) (v := gj S 10 (101) (ix (x))) rfl dX8_kept_13 ?_
    refine lv_goto hM.1 hM.2.1 dX8_kept_14 (tgt := 18) (by decide) ?_
    exact z_lret hM hlk hr hW hS (zF.of (by unfold r_X8_kept; rw [pif_neg h_5]; first | done | rfl) rfl) dX8_kept_18

noncomputable def r_X8_client (S : zS) (x y : Int32) : Int32 := 
  (pif ((r_X8_isClient S (x)) = (0)) ((-1)) 
    (pif ((y) = (0)) (gi S 9 (111) (ix (x))) 
      (pif ((y) = (1)) (gi S 9 (112) (ix (x))) 
        (pif ((y) = (2)) (gi S 9 (114) (ix (x))) 
          (pif ((y) = (3)) (gi S 9 (115) (ix (x))) 
            (pif ((y) = (4)) (gi S 9 (116) (ix (x))) 
              (pif ((y) = (5)) (gi S 9 (117) (ix (x))) ((-1)))))))))
set_option maxHeartbeats 400000 in
set_option maxRecDepth 100000 in
theorem c_X8_client {l : Launch} {D : va_G} {ar : Nat → ClassId} {A : Nat → Prop} {Z : zZ} {S : zS} {x y : Int32} (hO : mOK Z S.2.2)  : zMet l yX8_client prog_10_method_34_code 3 (some .int) ({ frames := 1, cells := 0, slots := 0, locals := 20 } : Room) D ar A Z S [.ref (Z.1 8 (0)), .int (x), .int (y)] rvI (zF (r_X8_client S x y) Z S) := by
  refine z_body (by decide +kernel) (Nat.le_of_ble_eq_true rfl) ?_
  intro pX eX sX mX bX methX cX ls hM hr hlk hml hin hl hW hlo
  have hM : zM pX cX mX _ sX prog_10_method_34_code RX8 D ar := hM
  have hS : va_S A sX.heap sX.heap [] := va_S.rf
  have hl : lv_has ls 3 [(0, .ref (Z.1 8 (0))), (1, .int (x)), (2, .int (y))] := hl
  refine lv_iload_n hM.1 hM.2.1 dX8_client_0 rfl (lv_at hl 1 rfl) ?_
  refine z_Si hM (hml.trans hl.1.symm) hW hS hlo zyX8_isClient lm_X8_167 ls_yX8_isClient (As := [.int (x)]) (rest := []) (c_X8_isClient (S := S)) rfl rfl (Nat.le_of_ble_eq_true rfl) ⟨Nat.le_of_ble_eq_true rfl, Nat.le_of_ble_eq_true rfl⟩ ⟨Nat.le_of_ble_eq_true rfl, Nat.le_of_ble_eq_true rfl⟩ dX8_client_1 (fun H locs hW hS => ?_)
  refine lv_if_ne hM.1 hM.2.1 dX8_client_4 (tgt := 9) (by decide) (fun h_4 => ?_) (fun h_4 => ?_)
  ·
    refine lv_iload_n hM.1 hM.2.1 dX8_client_9 rfl (lv_at hl 2 rfl) ?_
    by_cases h_10_0 : (y) = (0)
    ·
      refine lv_tableIn hM.1 hM.2.1 dX8_client_10 (by rw [h_10_0]; decide) (by rw [h_10_0]; decide) (off := 38) (by rw [h_10_0]; rfl) (tgt := 48) (by decide) ?_
      refine lv_aload_n hM.1 hM.2.1 dX8_client_48 rfl (lv_at hl 0 rfl) ?_
      refine z_getr hM hW zc8 hO.1 rfl 11 (by decide) lf_X8_39 (t := 9) (j := 111) rfl (hO.r 11 (by decide) (by decide)) dX8_client_49 (fun hd1_49 => ?_)
      refine lv_iload_n hM.1 hM.2.1 dX8_client_52 rfl (lv_at hl 1 rfl) ?_
      refine z_iald hM hW hd1_49 rfl (mClient h_4 (hO.l 11 (by decide) (by decide))) (v := gi S 9 (111) (ix (x))) rfl dX8_client_53 ?_
      exact z_iret hM hlk hr rfl hW hS (zF.of (by unfold r_X8_client; rw [pif_neg h_4, pif_pos h_10_0]; first | done | rfl) rfl) dX8_client_54
    by_cases h_10_1 : (y) = (1)
    ·
      refine lv_tableIn hM.1 hM.2.1 dX8_client_10 (by rw [h_10_1]; decide) (by rw [h_10_1]; decide) (off := 45) (by rw [h_10_1]; rfl) (tgt := 55) (by decide) ?_
      refine lv_aload_n hM.1 hM.2.1 dX8_client_55 rfl (lv_at hl 0 rfl) ?_
      refine z_getr hM hW zc8 hO.1 rfl 12 (by decide) lf_X8_42 (t := 9) (j := 112) rfl (hO.r 12 (by decide) (by decide)) dX8_client_56 (fun hd2_56 => ?_)
      refine lv_iload_n hM.1 hM.2.1 dX8_client_59 rfl (lv_at hl 1 rfl) ?_
      refine z_iald hM hW hd2_56 rfl (mClient h_4 (hO.l 12 (by decide) (by decide))) (v := gi S 9 (112) (ix (x))) rfl dX8_client_60 ?_
      exact z_iret hM hlk hr rfl hW hS (zF.of (by unfold r_X8_client; rw [pif_neg h_4, pif_neg h_10_0, pif_pos h_10_1]; first | done | rfl) rfl) dX8_client_61
    by_cases h_10_2 : (y) = (2)
    ·
      refine lv_tableIn hM.1 hM.2.1 dX8_client_10 (by rw [h_10_2]; decide) (by rw [h_10_2]; decide) (off := 52) (by rw [h_10_2]; rfl) (tgt := 62) (by decide) ?_
      refine lv_aload_n hM.1 hM.2.1 dX8_client_62 rfl (lv_at hl 0 rfl) ?_
      refine z_getr hM hW zc8 hO.1 rfl 14 (by decide) lf_X8_48 (t := 9) (j := 114) rfl (hO.r 14 (by decide) (by decide)) dX8_client_63 (fun hd3_63 => ?_)
      refine lv_iload_n hM.1 hM.2.1 dX8_client_66 rfl (lv_at hl 1 rfl) ?_
      refine z_iald hM hW hd3_63 rfl (mClient h_4 (hO.l 14 (by decide) (by decide))) (v := gi S 9 (114) (ix (x))) rfl dX8_client_67 ?_
      exact z_iret hM hlk hr rfl hW hS (zF.of (by unfold r_X8_client; rw [pif_neg h_4, pif_neg h_10_0, pif_neg h_10_1, pif_pos h_10_2]; first | done | rfl) rfl) dX8_client_68
    by_cases h_10_3 : (y) = (3)
    ·
      refine lv_tableIn hM.1 hM.2.1 dX8_client_10 (by rw [h_10_3]; decide) (by rw [h_10_3]; decide) (off := 59) (by rw [h_10_3]; rfl) (tgt := 69) (by decide) ?_
      refine lv_aload_n hM.1 hM.2.1 dX8_client_69 rfl (lv_at hl 0 rfl) ?_
      refine z_getr hM hW zc8 hO.1 rfl 15 (by decide) lf_X8_51 (t := 9) (j := 115) rfl (hO.r 15 (by decide) (by decide)) dX8_client_70 (fun hd4_70 => ?_)
      refine lv_iload_n hM.1 hM.2.1 dX8_client_73 rfl (lv_at hl 1 rfl) ?_
      refine z_iald hM hW hd4_70 rfl (mClient h_4 (hO.l 15 (by decide) (by decide))) (v := gi S 9 (115) (ix (x))) rfl dX8_client_74 ?_
      exact z_iret hM hlk hr rfl hW hS (zF.of (by unfold r_X8_client; rw [pif_neg h_4, pif_neg h_10_0, pif_neg h_10_1, pif_neg h_10_2, pif_pos h_10_3]; first | done | rfl) rfl) dX8_client_75
    by_cases h_10_4 : (y) = (4)
    ·
      refine lv_tableIn hM.1 hM.2.1 dX8_client_10 (by rw [h_10_4]; decide) (by rw [h_10_4]; decide) (off := 66) (by rw [h_10_4]; rfl) (tgt := 76) (by decide) ?_
      refine lv_aload_n hM.1 hM.2.1 dX8_client_76 rfl (lv_at hl 0 rfl) ?_
      refine z_getr hM hW zc8 hO.1 rfl 16 (by decide) lf_X8_54 (t := 9) (j := 116) rfl (hO.r 16 (by decide) (by decide)) dX8_client_77 (fun hd5_77 => ?_)
      refine lv_iload_n hM.1 hM.2.1 dX8_client_80 rfl (lv_at hl 1 rfl) ?_
      refine z_iald hM hW hd5_77 rfl (mClient h_4 (hO.l 16 (by decide) (by decide))) (v := gi S 9 (116) (ix (x))) rfl dX8_client_81 ?_
      exact z_iret hM hlk hr rfl hW hS (zF.of (by unfold r_X8_client; rw [pif_neg h_4, pif_neg h_10_0, pif_neg h_10_1, pif_neg h_10_2, pif_neg h_10_3, pif_pos h_10_4]; first | done | rfl) rfl) dX8_client_82
    by_cases h_10_5 : (y) = (5)
    ·
      refine lv_tableIn hM.1 hM.2.1 dX8_client_10 (by rw [h_10_5]; decide) (by rw [h_10_5]; decide) (off := 73) (by rw [h_10_5]; rfl) (tgt := 83) (by decide) ?_
      refine lv_aload_n hM.1 hM.2.1 dX8_client_83 rfl (lv_at hl 0 rfl) ?_
      refine z_getr hM hW zc8 hO.1 rfl 17 (by decide) lf_X8_57 (t := 9) (j := 117) rfl (hO.r 17 (by decide) (by decide)) dX8_client_84 (fun hd6_84 => ?_)
      refine lv_iload_n hM.1 hM.2.1 dX8_client_87 rfl (lv_at hl 1 rfl) ?_
      refine z_iald hM hW hd6_84 rfl (mClient h_4 (hO.l 17 (by decide) (by decide))) (v := gi S 9 (117) (ix (x))) rfl dX8_client_88 ?_
      exact z_iret hM hlk hr rfl hW hS (zF.of (by unfold r_X8_client; rw [pif_neg h_4, pif_neg h_10_0, pif_neg h_10_1, pif_neg h_10_2, pif_neg h_10_3, pif_neg h_10_4, pif_pos h_10_5]; first | done | rfl) rfl) dX8_client_89
    refine lv_tableOut hM.1 hM.2.1 dX8_client_10 (by have n0 : Int32.toInt (y) ≠ 0 := fun q => h_10_0 (Int32.toInt_inj.mp (by rw [q]; rfl)); have n1 : Int32.toInt (y) ≠ 1 := fun q => h_10_1 (Int32.toInt_inj.mp (by rw [q]; rfl)); have n2 : Int32.toInt (y) ≠ 2 := fun q => h_10_2 (Int32.toInt_inj.mp (by rw [q]; rfl)); have n3 : Int32.toInt (y) ≠ 3 := fun q => h_10_3 (Int32.toInt_inj.mp (by rw [q]; rfl)); have n4 : Int32.toInt (y) ≠ 4 := fun q => h_10_4 (Int32.toInt_inj.mp (by rw [q]; rfl)); have n5 : Int32.toInt (y) ≠ 5 := fun q => h_10_5 (Int32.toInt_inj.mp (by rw [q]; rfl)); omega) (tgt := 90) (by decide) ?_
    refine lv_iconst (v := (-1)) hM.1 hM.2.1 dX8_client_90 (by decide) ?_
    exact z_iret hM hlk hr rfl hW hS (zF.of (by unfold r_X8_client; rw [pif_neg h_4, pif_neg h_10_0, pif_neg h_10_1, pif_neg h_10_2, pif_neg h_10_3, pif_neg h_10_4, pif_neg h_10_5]; first | done | rfl) rfl) dX8_client_91
  ·
    refine lv_iconst (v := (-1)) hM.1 hM.2.1 dX8_client_7 (by decide) ?_
    exact z_iret hM hlk hr rfl hW hS (zF.of (by unfold r_X8_client; rw [pif_pos h_4]; first | done | rfl) rfl) dX8_client_8

noncomputable def r_X8_act (S : zS) (a : Nat) (x y : Int32) : Int32 := 
  (pif ((r_X8_isAct S (x)) = (0)) ((-1)) 
    (pif ((y) = (0)) (gi S 9 (121) (ix (x))) 
      (pif ((y) = (1)) (gi S 9 (122) (ix (x))) 
        (pif ((y) = (2)) (gi S 9 (123) (ix (x))) 
          (pif ((y) = (3)) (gi S 9 (124) (ix (x))) 
            (pif ((y) = (4)) (gi S 9 (125) (ix (x))) 
              (pif ((y) = (5)) (gi S 9 (126) (ix (x))) 
                (pif ((y) = (6)) (gi S 9 (127) (ix (x))) ((-1))))))))))
set_option maxHeartbeats 400000 in
set_option maxRecDepth 100000 in
theorem c_X8_act {l : Launch} {D : va_G} {ar : Nat → ClassId} {A : Nat → Prop} {Z : zZ} {S : zS} {a : Nat} {x y : Int32} (hO : mOK Z S.2.2) (ha : gi S 8 0 29 = nI a) (ha2 : a ≤ 200) : zMet l yX8_act prog_10_method_37_code 3 (some .int) ({ frames := 1, cells := 0, slots := 0, locals := 21 } : Room) D ar A Z S [.ref (Z.1 8 (0)), .int (x), .int (y)] rvI (zF (r_X8_act S a x y) Z S) := by
  refine z_body (by decide +kernel) (Nat.le_of_ble_eq_true rfl) ?_
  intro pX eX sX mX bX methX cX ls hM hr hlk hml hin hl hW hlo
  have hM : zM pX cX mX _ sX prog_10_method_37_code RX8 D ar := hM
  have hS : va_S A sX.heap sX.heap [] := va_S.rf
  have hl : lv_has ls 3 [(0, .ref (Z.1 8 (0))), (1, .int (x)), (2, .int (y))] := hl
  refine lv_aload_n hM.1 hM.2.1 dX8_act_0 rfl (lv_at hl 0 rfl) ?_
  refine lv_iload_n hM.1 hM.2.1 dX8_act_1 rfl (lv_at hl 1 rfl) ?_
  refine z_Vi hM (hml.trans hl.1.symm) hW hS hlo zc8 hO.1 rfl zyX8_isAct lm_X8_209 li_yX8_isAct le_yX8_isAct (As := [.int (x)]) (rest := []) (c_X8_isAct hO) rfl rfl (Nat.le_of_ble_eq_true rfl) ⟨Nat.le_of_ble_eq_true rfl, Nat.le_of_ble_eq_true rfl⟩ ⟨Nat.le_of_ble_eq_true rfl, Nat.le_of_ble_eq_true rfl⟩ dX8_act_2 (fun H locs hW hS => ?_)
  refine lv_if_ne hM.1 hM.2.1 dX8_act_5 (tgt := 10) (by decide) (fun h_5 => ?_) (fun h_5 => ?_)
  ·
    refine lv_iload_n hM.1 hM.2.1 dX8_act_10 rfl (lv_at hl 2 rfl) ?_
    by_cases h_11_0 : (y) = (0)
    ·
      refine lv_tableIn hM.1 hM.2.1 dX8_act_11 (by rw [h_11_0]; decide) (by rw [h_11_0]; decide) (off := 41) (by rw [h_11_0]; rfl) (tgt := 52) (by decide) ?_
      refine lv_aload_n hM.1 hM.2.1 dX8_act_52 rfl (lv_at hl 0 rfl) ?_
      refine z_getr hM hW zc8 hO.1 rfl 21 (by decide) lf_X8_69 (t := 9) (j := 121) rfl (hO.r 21 (by decide) (by decide)) dX8_act_53 (fun hd1_53 => ?_)
      refine lv_iload_n hM.1 hM.2.1 dX8_act_56 rfl (lv_at hl 1 rfl) ?_
      refine z_iald hM hW hd1_53 rfl (mAct ha ha2 h_5 (hO.l 21 (by decide) (by decide))) (v := gi S 9 (121) (ix (x))) rfl dX8_act_57 ?_
      exact z_iret hM hlk hr rfl hW hS (zF.of (by unfold r_X8_act; rw [pif_neg h_5, pif_pos h_11_0]; first | done | rfl) rfl) dX8_act_58
    by_cases h_11_1 : (y) = (1)
    ·
      refine lv_tableIn hM.1 hM.2.1 dX8_act_11 (by rw [h_11_1]; decide) (by rw [h_11_1]; decide) (off := 48) (by rw [h_11_1]; rfl) (tgt := 59) (by decide) ?_
      refine lv_aload_n hM.1 hM.2.1 dX8_act_59 rfl (lv_at hl 0 rfl) ?_
      refine z_getr hM hW zc8 hO.1 rfl 22 (by decide) lf_X8_72 (t := 9) (j := 122) rfl (hO.r 22 (by decide) (by decide)) dX8_act_60 (fun hd2_60 => ?_)
      refine lv_iload_n hM.1 hM.2.1 dX8_act_63 rfl (lv_at hl 1 rfl) ?_
      refine z_iald hM hW hd2_60 rfl (mAct ha ha2 h_5 (hO.l 22 (by decide) (by decide))) (v := gi S 9 (122) (ix (x))) rfl dX8_act_64 ?_
      exact z_iret hM hlk hr rfl hW hS (zF.of (by unfold r_X8_act; rw [pif_neg h_5, pif_neg h_11_0, pif_pos h_11_1]; first | done | rfl) rfl) dX8_act_65
    by_cases h_11_2 : (y) = (2)
    ·
      refine lv_tableIn hM.1 hM.2.1 dX8_act_11 (by rw [h_11_2]; decide) (by rw [h_11_2]; decide) (off := 55) (by rw [h_11_2]; rfl) (tgt := 66) (by decide) ?_
      refine lv_aload_n hM.1 hM.2.1 dX8_act_66 rfl (lv_at hl 0 rfl) ?_
      refine z_getr hM hW zc8 hO.1 rfl 23 (by decide) lf_X8_75 (t := 9) (j := 123) rfl (hO.r 23 (by decide) (by decide)) dX8_act_67 (fun hd3_67 => ?_)
      refine lv_iload_n hM.1 hM.2.1 dX8_act_70 rfl (lv_at hl 1 rfl) ?_
      refine z_iald hM hW hd3_67 rfl (mAct ha ha2 h_5 (hO.l 23 (by decide) (by decide))) (v := gi S 9 (123) (ix (x))) rfl dX8_act_71 ?_
      exact z_iret hM hlk hr rfl hW hS (zF.of (by unfold r_X8_act; rw [pif_neg h_5, pif_neg h_11_0, pif_neg h_11_1, pif_pos h_11_2]; first | done | rfl) rfl) dX8_act_72
    by_cases h_11_3 : (y) = (3)
    ·
      refine lv_tableIn hM.1 hM.2.1 dX8_act_11 (by rw [h_11_3]; decide) (by rw [h_11_3]; decide) (off := 62) (by rw [h_11_3]; rfl) (tgt := 73) (by decide) ?_
      refine lv_aload_n hM.1 hM.2.1 dX8_act_73 rfl (lv_at hl 0 rfl) ?_
      refine z_getr hM hW zc8 hO.1 rfl 24 (by decide) lf_X8_78 (t := 9) (j := 124) rfl (hO.r 24 (by decide) (by decide)) dX8_act_74 (fun hd4_74 => ?_)
      refine lv_iload_n hM.1 hM.2.1 dX8_act_77 rfl (lv_at hl 1 rfl) ?_
      refine z_iald hM hW hd4_74 rfl (mAct ha ha2 h_5 (hO.l 24 (by decide) (by decide))) (v := gi S 9 (124) (ix (x))) rfl dX8_act_78 ?_
      exact z_iret hM hlk hr rfl hW hS (zF.of (by unfold r_X8_act; rw [pif_neg h_5, pif_neg h_11_0, pif_neg h_11_1, pif_neg h_11_2, pif_pos h_11_3]; first | done | rfl) rfl) dX8_act_79
    by_cases h_11_4 : (y) = (4)
    ·
      refine lv_tableIn hM.1 hM.2.1 dX8_act_11 (by rw [h_11_4]; decide) (by rw [h_11_4]; decide) (off := 69) (by rw [h_11_4]; rfl) (tgt := 80) (by decide) ?_
      refine lv_aload_n hM.1 hM.2.1 dX8_act_80 rfl (lv_at hl 0 rfl) ?_
      refine z_getr hM hW zc8 hO.1 rfl 25 (by decide) lf_X8_81 (t := 9) (j := 125) rfl (hO.r 25 (by decide) (by decide)) dX8_act_81 (fun hd5_81 => ?_)
      refine lv_iload_n hM.1 hM.2.1 dX8_act_84 rfl (lv_at hl 1 rfl) ?_
      refine z_iald hM hW hd5_81 rfl (mAct ha ha2 h_5 (hO.l 25 (by decide) (by decide))) (v := gi S 9 (125) (ix (x))) rfl dX8_act_85 ?_
      exact z_iret hM hlk hr rfl hW hS (zF.of (by unfold r_X8_act; rw [pif_neg h_5, pif_neg h_11_0, pif_neg h_11_1, pif_neg h_11_2, pif_neg h_11_3, pif_pos h_11_4]; first | done | rfl) rfl) dX8_act_86
    by_cases h_11_5 : (y) = (5)
    ·
      refine lv_tableIn hM.1 hM.2.1 dX8_act_11 (by rw [h_11_5]; decide) (by rw [h_11_5]; decide) (off := 76) (by rw [h_11_5]; rfl) (tgt := 87) (by decide) ?_
      refine lv_aload_n hM.1 hM.2.1 dX8_act_87 rfl (lv_at hl 0 rfl) ?_
      refine z_getr hM hW zc8 hO.1 rfl 26 (by decide) lf_X8_84 (t := 9) (j := 126) rfl (hO.r 26 (by decide) (by decide)) dX8_act_88 (fun hd6_88 => ?_)
      refine lv_iload_n hM.1 hM.2.1 dX8_act_91 rfl (lv_at hl 1 rfl) ?_
      refine z_iald hM hW hd6_88 rfl (mAct ha ha2 h_5 (hO.l 26 (by decide) (by decide))) (v := gi S 9 (126) (ix (x))) rfl dX8_act_92 ?_
      exact z_iret hM hlk hr rfl hW hS (zF.of (by unfold r_X8_act; rw [pif_neg h_5, pif_neg h_11_0, pif_neg h_11_1, pif_neg h_11_2, pif_neg h_11_3, pif_neg h_11_4, pif_pos h_11_5]; first | done | rfl) rfl) dX8_act_93
    by_cases h_11_6 : (y) = (6)
    ·
      refine lv_tableIn hM.1 hM.2.1 dX8_act_11 (by rw [h_11_6]; decide) (by rw [h_11_6]; decide) (off := 83) (by rw [h_11_6]; rfl) (tgt := 94) (by decide) ?_
      refine lv_aload_n hM.1 hM.2.1 dX8_act_94 rfl (lv_at hl 0 rfl) ?_
      refine z_getr hM hW zc8 hO.1 rfl 27 (by decide) lf_X8_87 (t := 9) (j := 127) rfl (hO.r 27 (by decide) (by decide)) dX8_act_95 (fun hd7_95 => ?_)
      refine lv_iload_n hM.1 hM.2.1 dX8_act_98 rfl (lv_at hl 1 rfl) ?_
      refine z_iald hM hW hd7_95 rfl (mAct ha ha2 h_5 (hO.l 27 (by decide) (by decide))) (v := gi S 9 (127) (ix (x))) rfl dX8_act_99 ?_
      exact z_iret hM hlk hr rfl hW hS (zF.of (by unfold r_X8_act; rw [pif_neg h_5, pif_neg h_11_0, pif_neg h_11_1, pif_neg h_11_2, pif_neg h_11_3, pif_neg h_11_4, pif_neg h_11_5, pif_pos h_11_6]; first | done | rfl) rfl) dX8_act_100
    refine lv_tableOut hM.1 hM.2.1 dX8_act_11 (by have n0 : Int32.toInt (y) ≠ 0 := fun q => h_11_0 (Int32.toInt_inj.mp (by rw [q]; rfl)); have n1 : Int32.toInt (y) ≠ 1 := fun q => h_11_1 (Int32.toInt_inj.mp (by rw [q]; rfl)); have n2 : Int32.toInt (y) ≠ 2 := fun q => h_11_2 (Int32.toInt_inj.mp (by rw [q]; rfl)); have n3 : Int32.toInt (y) ≠ 3 := fun q => h_11_3 (Int32.toInt_inj.mp (by rw [q]; rfl)); have n4 : Int32.toInt (y) ≠ 4 := fun q => h_11_4 (Int32.toInt_inj.mp (by rw [q]; rfl)); have n5 : Int32.toInt (y) ≠ 5 := fun q => h_11_5 (Int32.toInt_inj.mp (by rw [q]; rfl)); have n6 : Int32.toInt (y) ≠ 6 := fun q => h_11_6 (Int32.toInt_inj.mp (by rw [q]; rfl)); omega) (tgt := 101) (by decide) ?_
    refine lv_iconst (v := (-1)) hM.1 hM.2.1 dX8_act_101 (by decide) ?_
    exact z_iret hM hlk hr rfl hW hS (zF.of (by unfold r_X8_act; rw [pif_neg h_5, pif_neg h_11_0, pif_neg h_11_1, pif_neg h_11_2, pif_neg h_11_3, pif_neg h_11_4, pif_neg h_11_5, pif_neg h_11_6]; first | done | rfl) rfl) dX8_act_102
  ·
    refine lv_iconst (v := (-1)) hM.1 hM.2.1 dX8_act_8 (by decide) ?_
    exact z_iret hM hlk hr rfl hW hS (zF.of (by unfold r_X8_act; rw [pif_pos h_5]; first | done | rfl) rfl) dX8_act_9

noncomputable def r_X8_value (S : zS) (a : Nat) (x : Int32) : Int64 := 
  (pif ((r_X8_isAct S (x)) = (0)) (0) (gj S 10 (128) (ix (x))))
set_option maxHeartbeats 400000 in
set_option maxRecDepth 100000 in
theorem c_X8_value {l : Launch} {D : va_G} {ar : Nat → ClassId} {A : Nat → Prop} {Z : zZ} {S : zS} {a : Nat} {x : Int32} (hO : mOK Z S.2.2) (ha : gi S 8 0 29 = nI a) (ha2 : a ≤ 200) : zMet l yX8_value prog_10_method_38_code 2 (some .long) ({ frames := 1, cells := 0, slots := 0, locals := 21 } : Room) D ar A Z S [.ref (Z.1 8 (0)), .int (x)] rvL (zF (r_X8_value S a x) Z S) := by
  refine z_body (by decide +kernel) (Nat.le_of_ble_eq_true rfl) ?_
  intro pX eX sX mX bX methX cX ls hM hr hlk hml hin hl hW hlo
  have hM : zM pX cX mX _ sX prog_10_method_38_code RX8 D ar := hM
  have hS : va_S A sX.heap sX.heap [] := va_S.rf
  have hl : lv_has ls 2 [(0, .ref (Z.1 8 (0))), (1, .int (x))] := hl
  refine lv_aload_n hM.1 hM.2.1 dX8_value_0 rfl (lv_at hl 0 rfl) ?_
  refine lv_iload_n hM.1 hM.2.1 dX8_value_1 rfl (lv_at hl 1 rfl) ?_
  refine z_Vi hM (hml.trans hl.1.symm) hW hS hlo zc8 hO.1 rfl zyX8_isAct lm_X8_209 li_yX8_isAct le_yX8_isAct (As := [.int (x)]) (rest := []) (c_X8_isAct hO) rfl rfl (Nat.le_of_ble_eq_true rfl) ⟨Nat.le_of_ble_eq_true rfl, Nat.le_of_ble_eq_true rfl⟩ ⟨Nat.le_of_ble_eq_true rfl, Nat.le_of_ble_eq_true rfl⟩ dX8_value_2 (fun H locs hW hS => ?_)
  refine lv_if_eq hM.1 hM.2.1 dX8_value_5 (tgt := 17) (by decide) (fun h_5 => ?_) (fun h_5 => ?_)
  ·
    refine lv_lconst (v := 0) hM.1 hM.2.1 dX8_value_17 (by decide) ?_
    exact z_lret hM hlk hr hW hS (zF.of (by unfold r_X8_value; rw [pif_pos h_5]; first | done | rfl) rfl) dX8_value_18
  ·
    refine lv_aload_n hM.1 hM.2.1 dX8_value_8 rfl (lv_at hl 0 rfl) ?_
    refine z_getr hM hW zc8 hO.1 rfl 28 (by decide) lf_X8_90 (t := 10) (j := 128) rfl (hO.r 28 (by decide) (by decide)) dX8_value_9 (fun hd1_9 => ?_)
    refine lv_iload_n hM.1 hM.2.1 dX8_value_12 rfl (lv_at hl 1 rfl) ?_
    refine z_lald hM hW hd1_9 rfl (mAct ha ha2 h_5 (hO.l 28 (by decide) (by decide))) (v := gj S 10 (128) (ix (x))) rfl dX8_value_13 ?_
    refine lv_goto hM.1 hM.2.1 dX8_value_14 (tgt := 18) (by decide) ?_
    exact z_lret hM hlk hr hW hS (zF.of (by unfold r_X8_value; rw [pif_neg h_5]; first | done | rfl) rfl) dX8_value_18

noncomputable def r_X8_about (S : zS) (x : Int32) : Int32 := 
  (pif ((x) = (0)) (gi S 8 (0) (0)) 
    (pif ((x) = (1)) (gi S 8 (0) (10)) 
      (pif ((x) = (2)) (gi S 8 (0) (29)) 
        (pif ((x) = (3)) (gi S 8 (0) (44)) 
          (pif ((x) = (4)) (gi S 8 (0) (30)) 
            (pif ((x) = (5)) (gi S 8 (0) (31)) ((-1))))))))
set_option maxHeartbeats 400000 in
set_option maxRecDepth 100000 in
theorem c_X8_about {l : Launch} {D : va_G} {ar : Nat → ClassId} {A : Nat → Prop} {Z : zZ} {S : zS} {x : Int32} (hO : mOK Z S.2.2)  : zMet l yX8_about prog_10_method_40_code 2 (some .int) ({ frames := 0, cells := 0, slots := 0, locals := 0 } : Room) D ar A Z S [.ref (Z.1 8 (0)), .int (x)] rvI (zF (r_X8_about S x) Z S) := by
  refine z_body (by decide +kernel) (Nat.le_of_ble_eq_true rfl) ?_
  intro pX eX sX mX bX methX cX ls hM hr hlk hml hin hl hW hlo
  have hM : zM pX cX mX _ sX prog_10_method_40_code RX8 D ar := hM
  have hS : va_S A sX.heap sX.heap [] := va_S.rf
  have hl : lv_has ls 2 [(0, .ref (Z.1 8 (0))), (1, .int (x))] := hl
  refine lv_iload_n hM.1 hM.2.1 dX8_about_0 rfl (lv_at hl 1 rfl) ?_
  by_cases h_1_0 : (x) = (0)
  ·
    refine lv_tableIn hM.1 hM.2.1 dX8_about_1 (by rw [h_1_0]; decide) (by rw [h_1_0]; decide) (off := 39) (by rw [h_1_0]; rfl) (tgt := 40) (by decide) ?_
    refine lv_aload_n hM.1 hM.2.1 dX8_about_40 rfl (lv_at hl 0 rfl) ?_
    refine z_get hM hW zc8 hO.1 rfl 0 (by decide) lf_X8_129 (v := .int (gi S 8 (0) (0))) rfl dX8_about_41 ?_
    exact z_iret hM hlk hr rfl hW hS (zF.of (by unfold r_X8_about; rw [pif_pos h_1_0]; first | done | rfl) rfl) dX8_about_44
  by_cases h_1_1 : (x) = (1)
  ·
    refine lv_tableIn hM.1 hM.2.1 dX8_about_1 (by rw [h_1_1]; decide) (by rw [h_1_1]; decide) (off := 44) (by rw [h_1_1]; rfl) (tgt := 45) (by decide) ?_
    refine lv_aload_n hM.1 hM.2.1 dX8_about_45 rfl (lv_at hl 0 rfl) ?_
    refine z_get hM hW zc8 hO.1 rfl 10 (by decide) lf_X8_133 (v := .int (gi S 8 (0) (10))) rfl dX8_about_46 ?_
    exact z_iret hM hlk hr rfl hW hS (zF.of (by unfold r_X8_about; rw [pif_neg h_1_0, pif_pos h_1_1]; first | done | rfl) rfl) dX8_about_49
  by_cases h_1_2 : (x) = (2)
  ·
    refine lv_tableIn hM.1 hM.2.1 dX8_about_1 (by rw [h_1_2]; decide) (by rw [h_1_2]; decide) (off := 49) (by rw [h_1_2]; rfl) (tgt := 50) (by decide) ?_
    refine lv_aload_n hM.1 hM.2.1 dX8_about_50 rfl (lv_at hl 0 rfl) ?_
    refine z_get hM hW zc8 hO.1 rfl 29 (by decide) lf_X8_154 (v := .int (gi S 8 (0) (29))) rfl dX8_about_51 ?_
    exact z_iret hM hlk hr rfl hW hS (zF.of (by unfold r_X8_about; rw [pif_neg h_1_0, pif_neg h_1_1, pif_pos h_1_2]; first | done | rfl) rfl) dX8_about_54
  by_cases h_1_3 : (x) = (3)
  ·
    refine lv_tableIn hM.1 hM.2.1 dX8_about_1 (by rw [h_1_3]; decide) (by rw [h_1_3]; decide) (off := 54) (by rw [h_1_3]; rfl) (tgt := 55) (by decide) ?_
    refine lv_aload_n hM.1 hM.2.1 dX8_about_55 rfl (lv_at hl 0 rfl) ?_
    refine z_get hM hW zc8 hO.1 rfl 44 (by decide) lf_X8_140 (v := .int (gi S 8 (0) (44))) rfl dX8_about_56 ?_
    exact z_iret hM hlk hr rfl hW hS (zF.of (by unfold r_X8_about; rw [pif_neg h_1_0, pif_neg h_1_1, pif_neg h_1_2, pif_pos h_1_3]; first | done | rfl) rfl) dX8_about_59
  by_cases h_1_4 : (x) = (4)
  ·
    refine lv_tableIn hM.1 hM.2.1 dX8_about_1 (by rw [h_1_4]; decide) (by rw [h_1_4]; decide) (off := 59) (by rw [h_1_4]; rfl) (tgt := 60) (by decide) ?_
    refine lv_aload_n hM.1 hM.2.1 dX8_about_60 rfl (lv_at hl 0 rfl) ?_
    refine z_get hM hW zc8 hO.1 rfl 30 (by decide) lf_X8_157 (v := .int (gi S 8 (0) (30))) rfl dX8_about_61 ?_
    exact z_iret hM hlk hr rfl hW hS (zF.of (by unfold r_X8_about; rw [pif_neg h_1_0, pif_neg h_1_1, pif_neg h_1_2, pif_neg h_1_3, pif_pos h_1_4]; first | done | rfl) rfl) dX8_about_64
  by_cases h_1_5 : (x) = (5)
  ·
    refine lv_tableIn hM.1 hM.2.1 dX8_about_1 (by rw [h_1_5]; decide) (by rw [h_1_5]; decide) (off := 64) (by rw [h_1_5]; rfl) (tgt := 65) (by decide) ?_
    refine lv_aload_n hM.1 hM.2.1 dX8_about_65 rfl (lv_at hl 0 rfl) ?_
    refine z_get hM hW zc8 hO.1 rfl 31 (by decide) lf_X8_143 (v := .int (gi S 8 (0) (31))) rfl dX8_about_66 ?_
    exact z_iret hM hlk hr rfl hW hS (zF.of (by unfold r_X8_about; rw [pif_neg h_1_0, pif_neg h_1_1, pif_neg h_1_2, pif_neg h_1_3, pif_neg h_1_4, pif_pos h_1_5]; first | done | rfl) rfl) dX8_about_69
  refine lv_tableOut hM.1 hM.2.1 dX8_about_1 (by have n0 : Int32.toInt (x) ≠ 0 := fun q => h_1_0 (Int32.toInt_inj.mp (by rw [q]; rfl)); have n1 : Int32.toInt (x) ≠ 1 := fun q => h_1_1 (Int32.toInt_inj.mp (by rw [q]; rfl)); have n2 : Int32.toInt (x) ≠ 2 := fun q => h_1_2 (Int32.toInt_inj.mp (by rw [q]; rfl)); have n3 : Int32.toInt (x) ≠ 3 := fun q => h_1_3 (Int32.toInt_inj.mp (by rw [q]; rfl)); have n4 : Int32.toInt (x) ≠ 4 := fun q => h_1_4 (Int32.toInt_inj.mp (by rw [q]; rfl)); have n5 : Int32.toInt (x) ≠ 5 := fun q => h_1_5 (Int32.toInt_inj.mp (by rw [q]; rfl)); omega) (tgt := 70) (by decide) ?_
  refine lv_iconst (v := (-1)) hM.1 hM.2.1 dX8_about_70 (by decide) ?_
  exact z_iret hM hlk hr rfl hW hS (zF.of (by unfold r_X8_about; rw [pif_neg h_1_0, pif_neg h_1_1, pif_neg h_1_2, pif_neg h_1_3, pif_neg h_1_4, pif_neg h_1_5]; first | done | rfl) rfl) dX8_about_71

noncomputable def r_X8_air (S : zS) (cn : Nat) (x y : Int32) : Int32 := 
  (pif ((x) < (0)) ((-1)) 
    (pif ((x) < (nI cn)) 
      (pif ((y) = (0)) 
        (pif ((gi S 11 (132) (ix (x))) = (0)) (0) (1)) 
        (pif ((y) = (1)) (gi S 9 (133) (ix (x))) 
          (pif ((y) = (2)) (gi S 9 (134) (ix (x))) 
            (pif ((y) = (3)) (gi S 9 (135) (ix (x))) 
              (pif ((y) = (4)) (gi S 9 (136) (ix (x))) 
                (pif ((y) = (5)) (gi S 9 (138) (ix (x))) 
                  (pif ((y) = (6)) (gi S 9 (139) (ix (x))) 
                    (pif ((y) = (7)) 
                      (pif ((gi S 11 (132) (ix (x))) = (0)) (gi S 9 (140) (ix (x))) (gi S 9 (142) (ix (x)))) 
                      (pif ((y) = (8)) (gi S 9 (137) (ix (x))) ((-1))))))))))) ((-1))))
set_option maxHeartbeats 400000 in
set_option maxRecDepth 100000 in
theorem c_X8_air {l : Launch} {D : va_G} {ar : Nat → ClassId} {A : Nat → Prop} {Z : zZ} {S : zS} {cn : Nat} {x y : Int32} (hO : mOK Z S.2.2) (hcn : gi S 8 0 44 = nI cn) (hcm : cn ≤ 300) : zMet l yX8_air prog_10_method_35_code 3 (some .int) ({ frames := 0, cells := 0, slots := 0, locals := 0 } : Room) D ar A Z S [.ref (Z.1 8 (0)), .int (x), .int (y)] rvI (zF (r_X8_air S cn x y) Z S) := by
  refine z_body (by decide +kernel) (Nat.le_of_ble_eq_true rfl) ?_
  intro pX eX sX mX bX methX cX ls hM hr hlk hml hin hl hW hlo
  have hM : zM pX cX mX _ sX prog_10_method_35_code RX8 D ar := hM
  have hS : va_S A sX.heap sX.heap [] := va_S.rf
  have hl : lv_has ls 3 [(0, .ref (Z.1 8 (0))), (1, .int (x)), (2, .int (y))] := hl
  refine lv_iload_n hM.1 hM.2.1 dX8_air_0 rfl (lv_at hl 1 rfl) ?_
  refine lv_if_lt hM.1 hM.2.1 dX8_air_1 (tgt := 12) (by decide) (fun h_1 => ?_) (fun h_1 => ?_)
  ·
    refine lv_iconst (v := (-1)) hM.1 hM.2.1 dX8_air_12 (by decide) ?_
    exact z_iret hM hlk hr rfl hW hS (zF.of (by unfold r_X8_air; rw [pif_pos h_1]; first | done | rfl) rfl) dX8_air_13
  ·
    refine lv_iload_n hM.1 hM.2.1 dX8_air_4 rfl (lv_at hl 1 rfl) ?_
    refine lv_aload_n hM.1 hM.2.1 dX8_air_5 rfl (lv_at hl 0 rfl) ?_
    refine z_get hM hW zc8 hO.1 rfl 44 (by decide) lf_X8_140 (v := .int (nI cn)) (congrArg Value.int (show gi S 8 (0) (44) = nI cn from hcn)) dX8_air_6 ?_
    refine lv_icmp_lt hM.1 hM.2.1 dX8_air_9 (tgt := 14) (by decide) (fun h_9 => ?_) (fun h_9 => ?_)
    ·
      refine lv_iload_n hM.1 hM.2.1 dX8_air_14 rfl (lv_at hl 2 rfl) ?_
      by_cases h_15_0 : (y) = (0)
      ·
        refine lv_tableIn hM.1 hM.2.1 dX8_air_15 (by rw [h_15_0]; decide) (by rw [h_15_0]; decide) (off := 49) (by rw [h_15_0]; rfl) (tgt := 64) (by decide) ?_
        refine lv_aload_n hM.1 hM.2.1 dX8_air_64 rfl (lv_at hl 0 rfl) ?_
        refine z_getr hM hW zc8 hO.1 rfl 32 (by decide) lf_X8_93 (t := 11) (j := 132) rfl (hO.r 32 (by decide) (by decide)) dX8_air_65 (fun hd1_65 => ?_)
        refine lv_iload_n hM.1 hM.2.1 dX8_air_68 rfl (lv_at hl 1 rfl) ?_
        refine z_zald hM hW hd1_65 rfl (mAir h_1 h_9 hcm (hO.l 32 (by decide) (by decide))) (v := gi S 11 (132) (ix (x))) rfl dX8_air_69 ?_
        refine lv_if_eq hM.1 hM.2.1 dX8_air_70 (tgt := 77) (by decide) (fun h_70 => ?_) (fun h_70 => ?_)
        ·
          refine lv_iconst (v := 0) hM.1 hM.2.1 dX8_air_77 (by decide) ?_
          exact z_iret hM hlk hr rfl hW hS (zF.of (by unfold r_X8_air; rw [pif_neg h_1, pif_pos h_9, pif_pos h_15_0, pif_pos h_70]; first | done | rfl) rfl) dX8_air_78
        ·
          refine lv_iconst (v := 1) hM.1 hM.2.1 dX8_air_73 (by decide) ?_
          refine lv_goto hM.1 hM.2.1 dX8_air_74 (tgt := 78) (by decide) ?_
          exact z_iret hM hlk hr rfl hW hS (zF.of (by unfold r_X8_air; rw [pif_neg h_1, pif_pos h_9, pif_pos h_15_0, pif_neg h_70]; first | done | rfl) rfl) dX8_air_78
      by_cases h_15_1 : (y) = (1)
      ·
        refine lv_tableIn hM.1 hM.2.1 dX8_air_15 (by rw [h_15_1]; decide) (by rw [h_15_1]; decide) (off := 64) (by rw [h_15_1]; rfl) (tgt := 79) (by decide) ?_
        refine lv_aload_n hM.1 hM.2.1 dX8_air_79 rfl (lv_at hl 0 rfl) ?_
        refine z_getr hM hW zc8 hO.1 rfl 33 (by decide) lf_X8_96 (t := 9) (j := 133) rfl (hO.r 33 (by decide) (by decide)) dX8_air_80 (fun hd2_80 => ?_)
        refine lv_iload_n hM.1 hM.2.1 dX8_air_83 rfl (lv_at hl 1 rfl) ?_
        refine z_iald hM hW hd2_80 rfl (mAir h_1 h_9 hcm (hO.l 33 (by decide) (by decide))) (v := gi S 9 (133) (ix (x))) rfl dX8_air_84 ?_
        exact z_iret hM hlk hr rfl hW hS (zF.of (by unfold r_X8_air; rw [pif_neg h_1, pif_pos h_9, pif_neg h_15_0, pif_pos h_15_1]; first | done | rfl) rfl) dX8_air_85
      by_cases h_15_2 : (y) = (2)
      ·
        refine lv_tableIn hM.1 hM.2.1 dX8_air_15 (by rw [h_15_2]; decide) (by rw [h_15_2]; decide) (off := 71) (by rw [h_15_2]; rfl) (tgt := 86) (by decide) ?_
        refine lv_aload_n hM.1 hM.2.1 dX8_air_86 rfl (lv_at hl 0 rfl) ?_
        refine z_getr hM hW zc8 hO.1 rfl 34 (by decide) lf_X8_99 (t := 9) (j := 134) rfl (hO.r 34 (by decide) (by decide)) dX8_air_87 (fun hd3_87 => ?_)
        refine lv_iload_n hM.1 hM.2.1 dX8_air_90 rfl (lv_at hl 1 rfl) ?_
        refine z_iald hM hW hd3_87 rfl (mAir h_1 h_9 hcm (hO.l 34 (by decide) (by decide))) (v := gi S 9 (134) (ix (x))) rfl dX8_air_91 ?_
        exact z_iret hM hlk hr rfl hW hS (zF.of (by unfold r_X8_air; rw [pif_neg h_1, pif_pos h_9, pif_neg h_15_0, pif_neg h_15_1, pif_pos h_15_2]; first | done | rfl) rfl) dX8_air_92
      by_cases h_15_3 : (y) = (3)
      ·
        refine lv_tableIn hM.1 hM.2.1 dX8_air_15 (by rw [h_15_3]; decide) (by rw [h_15_3]; decide) (off := 78) (by rw [h_15_3]; rfl) (tgt := 93) (by decide) ?_
        refine lv_aload_n hM.1 hM.2.1 dX8_air_93 rfl (lv_at hl 0 rfl) ?_
        refine z_getr hM hW zc8 hO.1 rfl 35 (by decide) lf_X8_102 (t := 9) (j := 135) rfl (hO.r 35 (by decide) (by decide)) dX8_air_94 (fun hd4_94 => ?_)
        refine lv_iload_n hM.1 hM.2.1 dX8_air_97 rfl (lv_at hl 1 rfl) ?_
        refine z_iald hM hW hd4_94 rfl (mAir h_1 h_9 hcm (hO.l 35 (by decide) (by decide))) (v := gi S 9 (135) (ix (x))) rfl dX8_air_98 ?_
        exact z_iret hM hlk hr rfl hW hS (zF.of (by unfold r_X8_air; rw [pif_neg h_1, pif_pos h_9, pif_neg h_15_0, pif_neg h_15_1, pif_neg h_15_2, pif_pos h_15_3]; first | done | rfl) rfl) dX8_air_99
      by_cases h_15_4 : (y) = (4)
      ·
        refine lv_tableIn hM.1 hM.2.1 dX8_air_15 (by rw [h_15_4]; decide) (by rw [h_15_4]; decide) (off := 85) (by rw [h_15_4]; rfl) (tgt := 100) (by decide) ?_
        refine lv_aload_n hM.1 hM.2.1 dX8_air_100 rfl (lv_at hl 0 rfl) ?_
        refine z_getr hM hW zc8 hO.1 rfl 36 (by decide) lf_X8_105 (t := 9) (j := 136) rfl (hO.r 36 (by decide) (by decide)) dX8_air_101 (fun hd5_101 => ?_)
        refine lv_iload_n hM.1 hM.2.1 dX8_air_104 rfl (lv_at hl 1 rfl) ?_
        refine z_iald hM hW hd5_101 rfl (mAir h_1 h_9 hcm (hO.l 36 (by decide) (by decide))) (v := gi S 9 (136) (ix (x))) rfl dX8_air_105 ?_
        exact z_iret hM hlk hr rfl hW hS (zF.of (by unfold r_X8_air; rw [pif_neg h_1, pif_pos h_9, pif_neg h_15_0, pif_neg h_15_1, pif_neg h_15_2, pif_neg h_15_3, pif_pos h_15_4]; first | done | rfl) rfl) dX8_air_106
      by_cases h_15_5 : (y) = (5)
      ·
        refine lv_tableIn hM.1 hM.2.1 dX8_air_15 (by rw [h_15_5]; decide) (by rw [h_15_5]; decide) (off := 92) (by rw [h_15_5]; rfl) (tgt := 107) (by decide) ?_
        refine lv_aload_n hM.1 hM.2.1 dX8_air_107 rfl (lv_at hl 0 rfl) ?_
        refine z_getr hM hW zc8 hO.1 rfl 38 (by decide) lf_X8_111 (t := 9) (j := 138) rfl (hO.r 38 (by decide) (by decide)) dX8_air_108 (fun hd6_108 => ?_)
        refine lv_iload_n hM.1 hM.2.1 dX8_air_111 rfl (lv_at hl 1 rfl) ?_
        refine z_iald hM hW hd6_108 rfl (mAir h_1 h_9 hcm (hO.l 38 (by decide) (by decide))) (v := gi S 9 (138) (ix (x))) rfl dX8_air_112 ?_
        exact z_iret hM hlk hr rfl hW hS (zF.of (by unfold r_X8_air; rw [pif_neg h_1, pif_pos h_9, pif_neg h_15_0, pif_neg h_15_1, pif_neg h_15_2, pif_neg h_15_3, pif_neg h_15_4, pif_pos h_15_5]; first | done | rfl) rfl) dX8_air_113
      by_cases h_15_6 : (y) = (6)
      ·
        refine lv_tableIn hM.1 hM.2.1 dX8_air_15 (by rw [h_15_6]; decide) (by rw [h_15_6]; decide) (off := 99) (by rw [h_15_6]; rfl) (tgt := 114) (by decide) ?_
        refine lv_aload_n hM.1 hM.2.1 dX8_air_114 rfl (lv_at hl 0 rfl) ?_
        refine z_getr hM hW zc8 hO.1 rfl 39 (by decide) lf_X8_114 (t := 9) (j := 139) rfl (hO.r 39 (by decide) (by decide)) dX8_air_115 (fun hd7_115 => ?_)
        refine lv_iload_n hM.1 hM.2.1 dX8_air_118 rfl (lv_at hl 1 rfl) ?_
        refine z_iald hM hW hd7_115 rfl (mAir h_1 h_9 hcm (hO.l 39 (by decide) (by decide))) (v := gi S 9 (139) (ix (x))) rfl dX8_air_119 ?_
        exact z_iret hM hlk hr rfl hW hS (zF.of (by unfold r_X8_air; rw [pif_neg h_1, pif_pos h_9, pif_neg h_15_0, pif_neg h_15_1, pif_neg h_15_2, pif_neg h_15_3, pif_neg h_15_4, pif_neg h_15_5, pif_pos h_15_6]; first | done | rfl) rfl) dX8_air_120
      by_cases h_15_7 : (y) = (7)
      ·
        refine lv_tableIn hM.1 hM.2.1 dX8_air_15 (by rw [h_15_7]; decide) (by rw [h_15_7]; decide) (off := 106) (by rw [h_15_7]; rfl) (tgt := 121) (by decide) ?_
        refine lv_aload_n hM.1 hM.2.1 dX8_air_121 rfl (lv_at hl 0 rfl) ?_
        refine z_getr hM hW zc8 hO.1 rfl 32 (by decide) lf_X8_93 (t := 11) (j := 132) rfl (hO.r 32 (by decide) (by decide)) dX8_air_122 (fun hd8_122 => ?_)
        refine lv_iload_n hM.1 hM.2.1 dX8_air_125 rfl (lv_at hl 1 rfl) ?_
        refine z_zald hM hW hd8_122 rfl (mAir h_1 h_9 hcm (hO.l 32 (by decide) (by decide))) (v := gi S 11 (132) (ix (x))) rfl dX8_air_126 ?_
        refine lv_if_eq hM.1 hM.2.1 dX8_air_127 (tgt := 139) (by decide) (fun h_127 => ?_) (fun h_127 => ?_)
        ·
          refine lv_aload_n hM.1 hM.2.1 dX8_air_139 rfl (lv_at hl 0 rfl) ?_
          refine z_getr hM hW zc8 hO.1 rfl 40 (by decide) lf_X8_117 (t := 9) (j := 140) rfl (hO.r 40 (by decide) (by decide)) dX8_air_140 (fun hd9_140 => ?_)
          refine lv_iload_n hM.1 hM.2.1 dX8_air_143 rfl (lv_at hl 1 rfl) ?_
          refine z_iald hM hW hd9_140 rfl (mAir h_1 h_9 hcm (hO.l 40 (by decide) (by decide))) (v := gi S 9 (140) (ix (x))) rfl dX8_air_144 ?_
          exact z_iret hM hlk hr rfl hW hS (zF.of (by unfold r_X8_air; rw [pif_neg h_1, pif_pos h_9, pif_neg h_15_0, pif_neg h_15_1, pif_neg h_15_2, pif_neg h_15_3, pif_neg h_15_4, pif_neg h_15_5, pif_neg h_15_6, pif_pos h_15_7, pif_pos h_127]; first | done | rfl) rfl) dX8_air_145
        ·
          refine lv_aload_n hM.1 hM.2.1 dX8_air_130 rfl (lv_at hl 0 rfl) ?_
          refine z_getr hM hW zc8 hO.1 rfl 42 (by decide) lf_X8_123 (t := 9) (j := 142) rfl (hO.r 42 (by decide) (by decide)) dX8_air_131 (fun hd10_131 => ?_)
          refine lv_iload_n hM.1 hM.2.1 dX8_air_134 rfl (lv_at hl 1 rfl) ?_
          refine z_iald hM hW hd10_131 rfl (mAir h_1 h_9 hcm (hO.l 42 (by decide) (by decide))) (v := gi S 9 (142) (ix (x))) rfl dX8_air_135 ?_
          refine lv_goto hM.1 hM.2.1 dX8_air_136 (tgt := 145) (by decide) ?_
          exact z_iret hM hlk hr rfl hW hS (zF.of (by unfold r_X8_air; rw [pif_neg h_1, pif_pos h_9, pif_neg h_15_0, pif_neg h_15_1, pif_neg h_15_2, pif_neg h_15_3, pif_neg h_15_4, pif_neg h_15_5, pif_neg h_15_6, pif_pos h_15_7, pif_neg h_127]; first | done | rfl) rfl) dX8_air_145
      by_cases h_15_8 : (y) = (8)
      ·
        refine lv_tableIn hM.1 hM.2.1 dX8_air_15 (by rw [h_15_8]; decide) (by rw [h_15_8]; decide) (off := 131) (by rw [h_15_8]; rfl) (tgt := 146) (by decide) ?_
        refine lv_aload_n hM.1 hM.2.1 dX8_air_146 rfl (lv_at hl 0 rfl) ?_
        refine z_getr hM hW zc8 hO.1 rfl 37 (by decide) lf_X8_108 (t := 9) (j := 137) rfl (hO.r 37 (by decide) (by decide)) dX8_air_147 (fun hd11_147 => ?_)
        refine lv_iload_n hM.1 hM.2.1 dX8_air_150 rfl (lv_at hl 1 rfl) ?_
        refine z_iald hM hW hd11_147 rfl (mAir h_1 h_9 hcm (hO.l 37 (by decide) (by decide))) (v := gi S 9 (137) (ix (x))) rfl dX8_air_151 ?_
        exact z_iret hM hlk hr rfl hW hS (zF.of (by unfold r_X8_air; rw [pif_neg h_1, pif_pos h_9, pif_neg h_15_0, pif_neg h_15_1, pif_neg h_15_2, pif_neg h_15_3, pif_neg h_15_4, pif_neg h_15_5, pif_neg h_15_6, pif_neg h_15_7, pif_pos h_15_8]; first | done | rfl) rfl) dX8_air_152
      refine lv_tableOut hM.1 hM.2.1 dX8_air_15 (by have n0 : Int32.toInt (y) ≠ 0 := fun q => h_15_0 (Int32.toInt_inj.mp (by rw [q]; rfl)); have n1 : Int32.toInt (y) ≠ 1 := fun q => h_15_1 (Int32.toInt_inj.mp (by rw [q]; rfl)); have n2 : Int32.toInt (y) ≠ 2 := fun q => h_15_2 (Int32.toInt_inj.mp (by rw [q]; rfl)); have n3 : Int32.toInt (y) ≠ 3 := fun q => h_15_3 (Int32.toInt_inj.mp (by rw [q]; rfl)); have n4 : Int32.toInt (y) ≠ 4 := fun q => h_15_4 (Int32.toInt_inj.mp (by rw [q]; rfl)); have n5 : Int32.toInt (y) ≠ 5 := fun q => h_15_5 (Int32.toInt_inj.mp (by rw [q]; rfl)); have n6 : Int32.toInt (y) ≠ 6 := fun q => h_15_6 (Int32.toInt_inj.mp (by rw [q]; rfl)); have n7 : Int32.toInt (y) ≠ 7 := fun q => h_15_7 (Int32.toInt_inj.mp (by rw [q]; rfl)); have n8 : Int32.toInt (y) ≠ 8 := fun q => h_15_8 (Int32.toInt_inj.mp (by rw [q]; rfl)); omega) (tgt := 153) (by decide) ?_
      refine lv_iconst (v := (-1)) hM.1 hM.2.1 dX8_air_153 (by decide) ?_
      exact z_iret hM hlk hr rfl hW hS (zF.of (by unfold r_X8_air; rw [pif_neg h_1, pif_pos h_9, pif_neg h_15_0, pif_neg h_15_1, pif_neg h_15_2, pif_neg h_15_3, pif_neg h_15_4, pif_neg h_15_5, pif_neg h_15_6, pif_neg h_15_7, pif_neg h_15_8]; first | done | rfl) rfl) dX8_air_154
    ·
      refine lv_iconst (v := (-1)) hM.1 hM.2.1 dX8_air_12 (by decide) ?_
      exact z_iret hM hlk hr rfl hW hS (zF.of (by unfold r_X8_air; rw [pif_neg h_1, pif_neg h_9]; first | done | rfl) rfl) dX8_air_13
