/-- the votes of those that answered, from k on -/
noncomputable def lQs (S : zS) (x : Int32) (t : Nat) : Nat → Nat → Int32 → Int32
  | 0, _, r => r
  | f + 1, k, r => lQs S x t f (k + 1) (pif (((gi S 9 (117) (ix (x))) >>> ((nI k) &&& 31)) &&& (1) = (1)) (r + gi S 9 (108) (9 * t + k)) (r + 0))
noncomputable def r_X8_isQuorum (S : zS) (n : Nat) (x : Int32) (t w : Nat) : Int32 := pif ((lQs S x t n 0 0) < (gi S 9 (108) (9 * t + w))) 0 1
theorem isB_quo {S : zS} {n : Nat} {x : Int32} {t w : Nat} : isB (r_X8_isQuorum S n x t w) := isB_pif isB_0 isB_1
/-- quorums in each table from t to 'to' -/
noncomputable def lAre (S : zS) (n : Nat) (x to : Int32) (w : Nat) : Nat → Nat → Int32 → Int32
  | 0, _, g => g
  | f + 1, t, g => pif ((to) < (nI t)) g (pif ((g) = (0)) g (lAre S n x to w f (t + 1) (r_X8_isQuorum S n x t w)))
theorem isB_are {S : zS} {n : Nat} {x to : Int32} {w : Nat} : ∀ (f t : Nat) (g : Int32), isB g → isB (lAre S n x to w f t g) := by
  intro f
  induction f with
  | zero => intro t g h; exact h
  | succ f ih => intro t g h; exact isB_pif h (isB_pif h (ih _ _ isB_quo))
noncomputable def s_X8_end (S : zS) (x : Int32) : zS := ((si (si (si S 9 (111) (ix (x)) ((-1))) 9 (112) (ix (x)) (0)) 9 (117) (ix (x)) (0)))
theorem k_X8_end {S : zS} {x : Int32} : (s_X8_end S x).2.2 = S.2.2 := by unfold s_X8_end; simp only [pif_22, oel_22, k_si, k_sj, pif_same, oel_same, k_X6_set, k_X6_put, k_X0_showTag, k_X4_repeat, k_X7_sendRequest, k_X7_sendRequests, k_X7_beginPhase, k_X7_endPhase, k_X7_again, k_X3_obey, k_X7_serve, k_X7_twice, k_X2_learn, k_X8_votes, k_X8_silent, k_X8_side, k_X8_put, k_X8_ask]
set_option maxHeartbeats 400000 in
set_option maxRecDepth 100000 in
theorem c_X8_end {l : Launch} {D : va_G} {ar : Nat → ClassId} {A : Nat → Prop} {Z : zZ} {S : zS} {x : Int32} (hO : mOK Z S.2.2) (hx : vp_in x 4) : zMet l yX8_end prog_10_method_20_code 2 none ({ frames := 0, cells := 0, slots := 0, locals := 0 } : Room) D ar A Z S [.ref (Z.1 8 (0)), .int (x)] rvV (zF () Z (s_X8_end S x)) := by
  refine z_body (by decide +kernel) (Nat.le_of_ble_eq_true rfl) ?_
  intro pX eX sX mX bX methX cX ls hM hr hlk hml hin hl hW hlo
  have hM : zM pX cX mX _ sX prog_10_method_20_code RX8 D ar := hM
  have hS : va_S A sX.heap sX.heap [] := va_S.rf
  have hl : lv_has ls 2 [(0, .ref (Z.1 8 (0))), (1, .int (x))] := hl
  refine lv_aload_n hM.1 hM.2.1 dX8_end_0 rfl (lv_at hl 0 rfl) ?_
  refine z_getr hM hW zc8 hO.1 rfl 11 (by decide) lf_X8_39 (t := 9) (j := 111) rfl (hO.r 11 (by decide) (by decide)) dX8_end_1 (fun hd1_1 => ?_)
  refine lv_iload_n hM.1 hM.2.1 dX8_end_4 rfl (lv_at hl 1 rfl) ?_
  refine lv_iconst (v := (-1)) hM.1 hM.2.1 dX8_end_5 (by decide) ?_
  refine z_iast hM hW hS hd1_1 rfl (vin_L (hO.l 11 (by decide) (by decide)) hx) dX8_end_6 (fun H locs hW hS => ?_)
  refine lv_aload_n hM.1 hM.2.1 dX8_end_7 rfl (lv_at hl 0 rfl) ?_
  refine z_getr hM hW zc8 hO.1 rfl 12 (by decide) lf_X8_42 (t := 9) (j := 112) rfl (hO.r 12 (by decide) (by decide)) dX8_end_8 (fun hd2_8 => ?_)
  refine lv_iload_n hM.1 hM.2.1 dX8_end_11 rfl (lv_at hl 1 rfl) ?_
  refine lv_iconst (v := 0) hM.1 hM.2.1 dX8_end_12 (by decide) ?_
  refine z_iast hM hW hS hd2_8 rfl (vin_L (hO.l 12 (by decide) (by decide)) hx) dX8_end_13 (fun H locs hW hS => ?_)
  refine lv_aload_n hM.1 hM.2.1 dX8_end_14 rfl (lv_at hl 0 rfl) ?_
  refine z_getr hM hW zc8 hO.1 rfl 17 (by decide) lf_X8_57 (t := 9) (j := 117) rfl (hO.r 17 (by decide) (by decide)) dX8_end_15 (fun hd3_15 => ?_)
  refine lv_iload_n hM.1 hM.2.1 dX8_end_18 rfl (lv_at hl 1 rfl) ?_
  refine lv_iconst (v := 0) hM.1 hM.2.1 dX8_end_19 (by decide) ?_
  refine z_iast hM hW hS hd3_15 rfl (vin_L (hO.l 17 (by decide) (by decide)) hx) dX8_end_20 (fun H locs hW hS => ?_)
  exact z_vret hM hlk hr hW hS (zF.of rfl (by unfold s_X8_end; rfl)) dX8_end_21

noncomputable def s_X8_finish (S : zS) (x : Int32) : zS := 
  (pif ((gi S 9 (121) (ix (gi S 9 (111) (ix (x))))) = (0)) ((s_X8_end (sj (si (si (si S 9 (124) (ix (gi S 9 (111) (ix (x)))) (gi S 8 (0) (30))) 9 (125) (ix (gi S 9 (111) (ix (x)))) (gi S 9 (118) (ix (x)))) 9 (126) (ix (gi S 9 (111) (ix (x)))) (gi S 9 (119) (ix (x)))) 10 (128) (ix (gi S 9 (111) (ix (x)))) (gj S 10 (120) (ix (x)))) (x))) ((s_X8_end (si S 9 (124) (ix (gi S 9 (111) (ix (x)))) (gi S 8 (0) (30))) (x))))
theorem k_X8_finish {S : zS} {x : Int32} : (s_X8_finish S x).2.2 = S.2.2 := by unfold s_X8_finish; simp only [pif_22, oel_22, k_si, k_sj, pif_same, oel_same, k_X6_set, k_X6_put, k_X0_showTag, k_X4_repeat, k_X7_sendRequest, k_X7_sendRequests, k_X7_beginPhase, k_X7_endPhase, k_X7_again, k_X3_obey, k_X7_serve, k_X7_twice, k_X2_learn, k_X8_votes, k_X8_silent, k_X8_side, k_X8_put, k_X8_ask, k_X8_end]
set_option maxHeartbeats 400000 in
set_option maxRecDepth 100000 in
theorem c_X8_finish {l : Launch} {D : va_G} {ar : Nat → ClassId} {A : Nat → Prop} {Z : zZ} {S : zS} {x : Int32} (hO : mOK Z S.2.2) (hx : vp_in x 4) (hd : vp_in (gi S 9 111 (ix x)) 201) : zMet l yX8_finish prog_10_method_19_code 3 none ({ frames := 1, cells := 0, slots := 0, locals := 21 } : Room) D ar A Z S [.ref (Z.1 8 (0)), .int (x)] rvV (zF () Z (s_X8_finish S x)) := by
  refine z_body (by decide +kernel) (Nat.le_of_ble_eq_true rfl) ?_
  intro pX eX sX mX bX methX cX ls hM hr hlk hml hin hl hW hlo
  have hM : zM pX cX mX _ sX prog_10_method_19_code RX8 D ar := hM
  have hS : va_S A sX.heap sX.heap [] := va_S.rf
  have hl : lv_has ls 3 [(0, .ref (Z.1 8 (0))), (1, .int (x))] := hl
  refine lv_aload_n hM.1 hM.2.1 dX8_finish_0 rfl (lv_at hl 0 rfl) ?_
  refine z_getr hM hW zc8 hO.1 rfl 11 (by decide) lf_X8_39 (t := 9) (j := 111) rfl (hO.r 11 (by decide) (by decide)) dX8_finish_1 (fun hd1_1 => ?_)
  refine lv_iload_n hM.1 hM.2.1 dX8_finish_4 rfl (lv_at hl 1 rfl) ?_
  refine z_iald hM hW hd1_1 rfl (vin_L (hO.l 11 (by decide) (by decide)) hx) (v := gi S 9 (111) (ix (x))) rfl dX8_finish_5 ?_
  refine lv_istore_n hM.1 hM.2.1 dX8_finish_6 rfl hl (by decide) (lv' := [(2, .int (gi S 9 (111) (ix (x)))), (0, .ref (Z.1 8 (0))), (1, .int (x))]) rfl (fun ls hl => ?_)
  refine lv_aload_n hM.1 hM.2.1 dX8_finish_7 rfl (lv_at hl 1 rfl) ?_
  refine z_getr hM hW zc8 hO.1 rfl 24 (by decide) lf_X8_78 (t := 9) (j := 124) rfl (hO.r 24 (by decide) (by decide)) dX8_finish_8 (fun hd2_8 => ?_)
  refine lv_iload_n hM.1 hM.2.1 dX8_finish_11 rfl (lv_at hl 0 rfl) ?_
  refine lv_aload_n hM.1 hM.2.1 dX8_finish_12 rfl (lv_at hl 1 rfl) ?_
  refine z_get hM hW zc8 hO.1 rfl 30 (by decide) lf_X8_157 (v := .int (gi S 8 (0) (30))) rfl dX8_finish_13 ?_
  refine z_iast hM hW hS hd2_8 rfl (vin_L (hO.l 24 (by decide) (by decide)) hd) dX8_finish_16 (fun H locs hW hS => ?_)
  refine lv_aload_n hM.1 hM.2.1 dX8_finish_17 rfl (lv_at hl 1 rfl) ?_
  refine z_getr hM hW zc8 hO.1 rfl 21 (by decide) lf_X8_69 (t := 9) (j := 121) rfl (hO.r 21 (by decide) (by decide)) dX8_finish_18 (fun hd3_18 => ?_)
  refine lv_iload_n hM.1 hM.2.1 dX8_finish_21 rfl (lv_at hl 0 rfl) ?_
  refine z_iald hM hW hd3_18 rfl (vin_L (hO.l 21 (by decide) (by decide)) hd) (v := gi S 9 (121) (ix (gi S 9 (111) (ix (x))))) rfl dX8_finish_22 ?_
  refine lv_if_ne hM.1 hM.2.1 dX8_finish_23 (tgt := 62) (by decide) (fun h_23 => ?_) (fun h_23 => ?_)
  ·
    refine lv_aload_n hM.1 hM.2.1 dX8_finish_62 rfl (lv_at hl 1 rfl) ?_
    refine lv_iload_n hM.1 hM.2.1 dX8_finish_63 rfl (lv_at hl 2 rfl) ?_
    refine z_Vv hM (hml.trans hl.1.symm) hW hS hlo zc8 hO.1 rfl zyX8_end lm_X8_178 li_yX8_end le_yX8_end (As := [.int (x)]) (rest := []) (c_X8_end hO hx) rfl rfl (Nat.le_of_ble_eq_true rfl) ⟨Nat.le_of_ble_eq_true rfl, Nat.le_of_ble_eq_true rfl⟩ ⟨Nat.le_of_ble_eq_true rfl, Nat.le_of_ble_eq_true rfl⟩ dX8_finish_64 (fun H locs hW hS => ?_)
    obtain ⟨B1, hB1⟩ : ∃ B, B = (s_X8_end (si S 9 (124) (ix (gi S 9 (111) (ix (x)))) (gi S 8 (0) (30))) (x)) := ⟨_, rfl⟩
    rw [← hB1] at hW
    have ke_B1 : B1.2.2 = S.2.2 := by rw [hB1]; simp only [pif_22, oel_22, k_si, k_sj, pif_same, oel_same, k_X6_set, k_X6_put, k_X0_showTag, k_X4_repeat, k_X7_sendRequest, k_X7_sendRequests, k_X7_beginPhase, k_X7_endPhase, k_X7_again, k_X3_obey, k_X7_serve, k_X7_twice, k_X2_learn, k_X8_votes, k_X8_silent, k_X8_side, k_X8_put, k_X8_ask, k_X8_end]
    exact z_vret hM hlk hr hW hS (zF.of rfl (by subst hB1; unfold s_X8_finish; rw [pif_neg h_23]; first | done | rfl)) dX8_finish_67
  ·
    refine lv_aload_n hM.1 hM.2.1 dX8_finish_26 rfl (lv_at hl 1 rfl) ?_
    refine z_getr hM hW zc8 hO.1 rfl 25 (by decide) lf_X8_81 (t := 9) (j := 125) rfl (hO.r 25 (by decide) (by decide)) dX8_finish_27 (fun hd4_27 => ?_)
    refine lv_iload_n hM.1 hM.2.1 dX8_finish_30 rfl (lv_at hl 0 rfl) ?_
    refine lv_aload_n hM.1 hM.2.1 dX8_finish_31 rfl (lv_at hl 1 rfl) ?_
    refine z_getr hM hW zc8 hO.1 rfl 18 (by decide) lf_X8_60 (t := 9) (j := 118) rfl (hO.r 18 (by decide) (by decide)) dX8_finish_32 (fun hd5_32 => ?_)
    refine lv_iload_n hM.1 hM.2.1 dX8_finish_35 rfl (lv_at hl 2 rfl) ?_
    refine z_iald hM hW hd5_32 rfl (vin_L (hO.l 18 (by decide) (by decide)) hx) (v := gi S 9 (118) (ix (x))) rfl dX8_finish_36 ?_
    refine z_iast hM hW hS hd4_27 rfl (vin_L (hO.l 25 (by decide) (by decide)) hd) dX8_finish_37 (fun H locs hW hS => ?_)
    refine lv_aload_n hM.1 hM.2.1 dX8_finish_38 rfl (lv_at hl 1 rfl) ?_
    refine z_getr hM hW zc8 hO.1 rfl 26 (by decide) lf_X8_84 (t := 9) (j := 126) rfl (hO.r 26 (by decide) (by decide)) dX8_finish_39 (fun hd6_39 => ?_)
    refine lv_iload_n hM.1 hM.2.1 dX8_finish_42 rfl (lv_at hl 0 rfl) ?_
    refine lv_aload_n hM.1 hM.2.1 dX8_finish_43 rfl (lv_at hl 1 rfl) ?_
    refine z_getr hM hW zc8 hO.1 rfl 19 (by decide) lf_X8_63 (t := 9) (j := 119) rfl (hO.r 19 (by decide) (by decide)) dX8_finish_44 (fun hd7_44 => ?_)
    refine lv_iload_n hM.1 hM.2.1 dX8_finish_47 rfl (lv_at hl 2 rfl) ?_
    refine z_iald hM hW hd7_44 rfl (vin_L (hO.l 19 (by decide) (by decide)) hx) (v := gi S 9 (119) (ix (x))) rfl dX8_finish_48 ?_
    refine z_iast hM hW hS hd6_39 rfl (vin_L (hO.l 26 (by decide) (by decide)) hd) dX8_finish_49 (fun H locs hW hS => ?_)
    refine lv_aload_n hM.1 hM.2.1 dX8_finish_50 rfl (lv_at hl 1 rfl) ?_
    refine z_getr hM hW zc8 hO.1 rfl 28 (by decide) lf_X8_90 (t := 10) (j := 128) rfl (hO.r 28 (by decide) (by decide)) dX8_finish_51 (fun hd8_51 => ?_)
    refine lv_iload_n hM.1 hM.2.1 dX8_finish_54 rfl (lv_at hl 0 rfl) ?_
    refine lv_aload_n hM.1 hM.2.1 dX8_finish_55 rfl (lv_at hl 1 rfl) ?_
    refine z_getr hM hW zc8 hO.1 rfl 20 (by decide) lf_X8_66 (t := 10) (j := 120) rfl (hO.r 20 (by decide) (by decide)) dX8_finish_56 (fun hd9_56 => ?_)
    refine lv_iload_n hM.1 hM.2.1 dX8_finish_59 rfl (lv_at hl 2 rfl) ?_
    refine z_lald hM hW hd9_56 rfl (vin_L (hO.l 20 (by decide) (by decide)) hx) (v := gj S 10 (120) (ix (x))) rfl dX8_finish_60 ?_
    refine z_last hM hW hS hd8_51 rfl (vin_L (hO.l 28 (by decide) (by decide)) hd) dX8_finish_61 (fun H locs hW hS => ?_)
    refine lv_aload_n hM.1 hM.2.1 dX8_finish_62 rfl (lv_at hl 1 rfl) ?_
    refine lv_iload_n hM.1 hM.2.1 dX8_finish_63 rfl (lv_at hl 2 rfl) ?_
    refine z_Vv hM (hml.trans hl.1.symm) hW hS hlo zc8 hO.1 rfl zyX8_end lm_X8_178 li_yX8_end le_yX8_end (As := [.int (x)]) (rest := []) (c_X8_end hO hx) rfl rfl (Nat.le_of_ble_eq_true rfl) ⟨Nat.le_of_ble_eq_true rfl, Nat.le_of_ble_eq_true rfl⟩ ⟨Nat.le_of_ble_eq_true rfl, Nat.le_of_ble_eq_true rfl⟩ dX8_finish_64 (fun H locs hW hS => ?_)
    obtain ⟨B2, hB2⟩ : ∃ B, B = (s_X8_end (sj (si (si (si S 9 (124) (ix (gi S 9 (111) (ix (x)))) (gi S 8 (0) (30))) 9 (125) (ix (gi S 9 (111) (ix (x)))) (gi S 9 (118) (ix (x)))) 9 (126) (ix (gi S 9 (111) (ix (x)))) (gi S 9 (119) (ix (x)))) 10 (128) (ix (gi S 9 (111) (ix (x)))) (gj S 10 (120) (ix (x)))) (x)) := ⟨_, rfl⟩
    rw [← hB2] at hW
    have ke_B2 : B2.2.2 = S.2.2 := by rw [hB2]; simp only [pif_22, oel_22, k_si, k_sj, pif_same, oel_same, k_X6_set, k_X6_put, k_X0_showTag, k_X4_repeat, k_X7_sendRequest, k_X7_sendRequests, k_X7_beginPhase, k_X7_endPhase, k_X7_again, k_X3_obey, k_X7_serve, k_X7_twice, k_X2_learn, k_X8_votes, k_X8_silent, k_X8_side, k_X8_put, k_X8_ask, k_X8_end]
    exact z_vret hM hlk hr hW hS (zF.of rfl (by subst hB2; unfold s_X8_finish; rw [pif_pos h_23]; first | done | rfl)) dX8_finish_67

noncomputable def r_X8_halt (S : zS) (x : Int32) : Int32 := 
  (pif ((r_X8_isClient S (x)) = (0)) ((-1)) 
    (pif ((0) ≤ (gi S 9 (111) (ix (x)))) (gi S 9 (111) (ix (x))) ((-1))))
noncomputable def s_X8_halt (S : zS) (x : Int32) : zS := 
  (pif ((r_X8_isClient S (x)) = (0)) (S) 
    (pif ((0) ≤ (gi S 9 (111) (ix (x)))) ((s_X8_end (si S 8 (0) (30) ((gi S 8 (0) (30)) + (1))) (x))) (S)))
theorem k_X8_halt {S : zS} {x : Int32} : (s_X8_halt S x).2.2 = S.2.2 := by unfold s_X8_halt; simp only [pif_22, oel_22, k_si, k_sj, pif_same, oel_same, k_X6_set, k_X6_put, k_X0_showTag, k_X4_repeat, k_X7_sendRequest, k_X7_sendRequests, k_X7_beginPhase, k_X7_endPhase, k_X7_again, k_X3_obey, k_X7_serve, k_X7_twice, k_X2_learn, k_X8_votes, k_X8_silent, k_X8_side, k_X8_put, k_X8_ask, k_X8_end, k_X8_finish]
set_option maxHeartbeats 400000 in
set_option maxRecDepth 100000 in
theorem c_X8_halt {l : Launch} {D : va_G} {ar : Nat → ClassId} {A : Nat → Prop} {Z : zZ} {S : zS} {x : Int32} (hO : mOK Z S.2.2)  : zMet l yX8_halt prog_10_method_31_code 3 (some .int) ({ frames := 1, cells := 0, slots := 0, locals := 21 } : Room) D ar A Z S [.ref (Z.1 8 (0)), .int (x)] rvI (zF (r_X8_halt S x) Z (s_X8_halt S x)) := by
  refine z_body (by decide +kernel) (Nat.le_of_ble_eq_true rfl) ?_
  intro pX eX sX mX bX methX cX ls hM hr hlk hml hin hl hW hlo
  have hM : zM pX cX mX _ sX prog_10_method_31_code RX8 D ar := hM
  have hS : va_S A sX.heap sX.heap [] := va_S.rf
  have hl : lv_has ls 3 [(0, .ref (Z.1 8 (0))), (1, .int (x))] := hl
  refine lv_iload_n hM.1 hM.2.1 dX8_halt_0 rfl (lv_at hl 1 rfl) ?_
  refine z_Si hM (hml.trans hl.1.symm) hW hS hlo zyX8_isClient lm_X8_167 ls_yX8_isClient (As := [.int (x)]) (rest := []) (c_X8_isClient (S := S)) rfl rfl (Nat.le_of_ble_eq_true rfl) ⟨Nat.le_of_ble_eq_true rfl, Nat.le_of_ble_eq_true rfl⟩ ⟨Nat.le_of_ble_eq_true rfl, Nat.le_of_ble_eq_true rfl⟩ dX8_halt_1 (fun H locs hW hS => ?_)
  refine lv_if_eq hM.1 hM.2.1 dX8_halt_4 (tgt := 16) (by decide) (fun h_4 => ?_) (fun h_4 => ?_)
  ·
    refine lv_iconst (v := (-1)) hM.1 hM.2.1 dX8_halt_16 (by decide) ?_
    exact z_iret hM hlk hr rfl hW hS (zF.of (by unfold r_X8_halt; rw [pif_pos h_4]; first | done | rfl) (by unfold s_X8_halt; rw [pif_pos h_4]; first | done | rfl)) dX8_halt_17
  ·
    refine lv_aload_n hM.1 hM.2.1 dX8_halt_7 rfl (lv_at hl 0 rfl) ?_
    refine z_getr hM hW zc8 hO.1 rfl 11 (by decide) lf_X8_39 (t := 9) (j := 111) rfl (hO.r 11 (by decide) (by decide)) dX8_halt_8 (fun hd1_8 => ?_)
    refine lv_iload_n hM.1 hM.2.1 dX8_halt_11 rfl (lv_at hl 1 rfl) ?_
    refine z_iald hM hW hd1_8 rfl (mClient h_4 (hO.l 11 (by decide) (by decide))) (v := gi S 9 (111) (ix (x))) rfl dX8_halt_12 ?_
    refine lv_if_ge hM.1 hM.2.1 dX8_halt_13 (tgt := 18) (by decide) (fun h_13 => ?_) (fun h_13 => ?_)
    ·
      refine lv_aload_n hM.1 hM.2.1 dX8_halt_18 rfl (lv_at hl 0 rfl) ?_
      refine lv_dup hM.1 hM.2.1 dX8_halt_19 rfl ?_
      refine z_get hM hW zc8 hO.1 rfl 30 (by decide) lf_X8_157 (v := .int (gi S 8 (0) (30))) rfl dX8_halt_20 ?_
      refine lv_iconst (v := 1) hM.1 hM.2.1 dX8_halt_23 (by decide) ?_
      refine lv_iadd hM.1 hM.2.1 dX8_halt_24 ?_
      refine z_puti hM hW hS zc8 hO.1 rfl 30 (by decide) rfl lf_X8_157 (Or.inl rfl) (tyX8 30) (tyX8_ok 30 (by decide)) rfl rfl dX8_halt_25 (fun H locs hW hS => ?_)
      refine lv_aload_n hM.1 hM.2.1 dX8_halt_28 rfl (lv_at hl 0 rfl) ?_
      refine z_getr hM hW zc8 hO.1 rfl 11 (by decide) lf_X8_39 (t := 9) (j := 111) rfl (hO.r 11 (by decide) (by decide)) dX8_halt_29 (fun hd2_29 => ?_)
      refine lv_iload_n hM.1 hM.2.1 dX8_halt_32 rfl (lv_at hl 1 rfl) ?_
      refine z_iald hM hW hd2_29 rfl (mClient h_4 (hO.l 11 (by decide) (by decide))) (v := gi S 9 (111) (ix (x))) rfl dX8_halt_33 ?_
      refine lv_istore_n hM.1 hM.2.1 dX8_halt_34 rfl hl (by decide) (lv' := [(2, .int (gi S 9 (111) (ix (x)))), (0, .ref (Z.1 8 (0))), (1, .int (x))]) rfl (fun ls hl => ?_)
      refine lv_aload_n hM.1 hM.2.1 dX8_halt_35 rfl (lv_at hl 1 rfl) ?_
      refine lv_iload_n hM.1 hM.2.1 dX8_halt_36 rfl (lv_at hl 2 rfl) ?_
      refine z_Vv hM (hml.trans hl.1.symm) hW hS hlo zc8 hO.1 rfl zyX8_end lm_X8_178 li_yX8_end le_yX8_end (As := [.int (x)]) (rest := []) (c_X8_end hO (mClient h_4 rfl)) rfl rfl (Nat.le_of_ble_eq_true rfl) ⟨Nat.le_of_ble_eq_true rfl, Nat.le_of_ble_eq_true rfl⟩ ⟨Nat.le_of_ble_eq_true rfl, Nat.le_of_ble_eq_true rfl⟩ dX8_halt_37 (fun H locs hW hS => ?_)
      obtain ⟨B1, hB1⟩ : ∃ B, B = (s_X8_end (si S 8 (0) (30) ((gi S 8 (0) (30)) + (1))) (x)) := ⟨_, rfl⟩
      rw [← hB1] at hW
      have ke_B1 : B1.2.2 = S.2.2 := by rw [hB1]; simp only [pif_22, oel_22, k_si, k_sj, pif_same, oel_same, k_X6_set, k_X6_put, k_X0_showTag, k_X4_repeat, k_X7_sendRequest, k_X7_sendRequests, k_X7_beginPhase, k_X7_endPhase, k_X7_again, k_X3_obey, k_X7_serve, k_X7_twice, k_X2_learn, k_X8_votes, k_X8_silent, k_X8_side, k_X8_put, k_X8_ask, k_X8_end, k_X8_finish]
      refine lv_iload_n hM.1 hM.2.1 dX8_halt_40 rfl (lv_at hl 0 rfl) ?_
      exact z_iret hM hlk hr rfl hW hS (zF.of (by subst hB1; unfold r_X8_halt; rw [pif_neg h_4, pif_pos h_13]; first | done | rfl) (by subst hB1; unfold s_X8_halt; rw [pif_neg h_4, pif_pos h_13]; first | done | rfl)) dX8_halt_41
    ·
      refine lv_iconst (v := (-1)) hM.1 hM.2.1 dX8_halt_16 (by decide) ?_
      exact z_iret hM hlk hr rfl hW hS (zF.of (by unfold r_X8_halt; rw [pif_neg h_4, pif_neg h_13]; first | done | rfl) (by unfold s_X8_halt; rw [pif_neg h_4, pif_neg h_13]; first | done | rfl)) dX8_halt_17

set_option maxHeartbeats 400000 in
set_option maxRecDepth 100000 in
theorem c_X8_isQuorum {l : Launch} {D : va_G} {ar : Nat → ClassId} {A : Nat → Prop} {Z : zZ} {S : zS} {n : Nat} {x t : Int32} {tt w : Nat} (hO : mOK Z S.2.2) (hn : gi S 8 0 0 = nI n) (h7 : n ≤ 7) (hx : vp_in x 4) (ht : t = nI tt) (htt : tt < 16) (hw : w < 9) : zMet l yX8_isQuorum prog_10_method_16_code 6 (some .boolean) ({ frames := 0, cells := 0, slots := 0, locals := 0 } : Room) D ar A Z S [.ref (Z.1 8 (0)), .int (x), .int (t), .int (nI w)] rvI (zF (r_X8_isQuorum S n x tt w) Z S) := by
  refine z_body (by decide +kernel) (Nat.le_of_ble_eq_true rfl) ?_
  intro pX eX sX mX bX methX cX ls hM hr hlk hml hin hl hW hlo
  have hM : zM pX cX mX _ sX prog_10_method_16_code RX8 D ar := hM
  have hS : va_S A sX.heap sX.heap [] := va_S.rf
  have hl : lv_has ls 6 [(0, .ref (Z.1 8 (0))), (1, .int (x)), (2, .int (t)), (3, .int (nI w))] := hl
  subst ht
  have loop : ∀ (f k : Nat) (r : Int32) (ls : Array Slot) (H : Heap) (locs : List Loc), k + f = n → lQs S x tt f k r = lQs S x tt n 0 0 → lv_has ls 6 [(5, .int (nI k)), (4, .int (r)), (0, .ref (Z.1 8 (0))), (1, .int (x)), (2, .int (nI tt)), (3, .int (nI w))] → zW D ar A Z S H → va_S A sX.heap H locs → W pX l eX ({ frames := 0, cells := 0, slots := 0, locals := 0 } : Room) sX mX ([.ref (Z.1 8 (0)), .int (x), .int (nI tt), .int (nI w)] : List Value).toArray bX methX cX H locs 0 0 (MQ bX (zQ D ar A rvI (zF (r_X8_isQuorum S n x tt w) Z S)) ([.ref (Z.1 8 (0)), .int (x), .int (nI tt), .int (nI w)] : List Value).toArray sX 0 0 A) (F0 mX 6 ls []) := by
    intro f
    induction f with
    | zero =>
      intro k r ls H locs hk hE hl hW hS
      have hc9 : nI n ≤ nI k := by rw [show k = n by omega]; exact Int32.le_refl _
      have hE : r = lQs S x tt n 0 0 := hE
      refine lv_iload hM.1 hM.2.1 dX8_isQuorum_6 (lv_at hl 0 rfl) ?_
      refine lv_aload_n hM.1 hM.2.1 dX8_isQuorum_8 rfl (lv_at hl 2 rfl) ?_
      refine z_get hM hW zc8 hO.1 rfl 0 (by decide) lf_X8_129 (v := .int (nI n)) (congrArg Value.int (show gi S 8 (0) (0) = nI n from hn)) dX8_isQuorum_9 ?_
      refine lv_icmp_ge hM.1 hM.2.1 dX8_isQuorum_12 (tgt := 57) (by decide) (fun _ => ?_) (fun h => absurd hc9 h)
      refine lv_iload hM.1 hM.2.1 dX8_isQuorum_57 (lv_at hl 1 rfl) ?_
      refine lv_aload_n hM.1 hM.2.1 dX8_isQuorum_59 rfl (lv_at hl 2 rfl) ?_
      refine z_getr hM hW zc8 hO.1 rfl 8 (by decide) lf_X8_33 (t := 9) (j := 108) rfl (hO.r 8 (by decide) (by decide)) dX8_isQuorum_60 (fun hd1_60 => ?_)
      refine lv_bipush (v := 9) hM.1 hM.2.1 dX8_isQuorum_63 (by decide) ?_
      refine lv_iload_n hM.1 hM.2.1 dX8_isQuorum_65 rfl (lv_at hl 4 rfl) ?_
      refine lv_imul hM.1 hM.2.1 dX8_isQuorum_66 ?_
      rw [nI_m9]
      refine lv_iload_n hM.1 hM.2.1 dX8_isQuorum_67 rfl (lv_at hl 5 rfl) ?_
      refine lv_iadd hM.1 hM.2.1 dX8_isQuorum_68 ?_
      rw [← nI_ad]
      refine z_iald hM hW hd1_60 rfl (vin_nI (hO.l 8 (by decide) (by decide)) (by have : mlen 8 = 144 := rfl; omega) (by decide)) (v := gi S 9 (108) (9 * tt + w)) ((congrArg (gi S 9 (108)) (nI_clamp (by omega))).trans rfl) dX8_isQuorum_69 ?_
      refine lv_icmp_lt hM.1 hM.2.1 dX8_isQuorum_70 (tgt := 77) (by decide) (fun h_70 => ?_) (fun h_70 => ?_)
      ·
        refine lv_iconst (v := 0) hM.1 hM.2.1 dX8_isQuorum_77 (by decide) ?_
        exact z_iret hM hlk hr rfl hW hS (zF.of (by unfold r_X8_isQuorum; rw [← hE, pif_pos h_70]) rfl) dX8_isQuorum_78
      ·
        refine lv_iconst (v := 1) hM.1 hM.2.1 dX8_isQuorum_73 (by decide) ?_
        refine lv_goto hM.1 hM.2.1 dX8_isQuorum_74 (tgt := 78) (by decide) ?_
        exact z_iret hM hlk hr rfl hW hS (zF.of (by unfold r_X8_isQuorum; rw [← hE, pif_neg h_70]) rfl) dX8_isQuorum_78
    | succ f ih =>
      intro k r ls H locs hk hE hl hW hS
      have hc9 : ¬ nI n ≤ nI k := nI_ge (by omega) (by omega)
      refine lv_iload hM.1 hM.2.1 dX8_isQuorum_6 (lv_at hl 0 rfl) ?_
      refine lv_aload_n hM.1 hM.2.1 dX8_isQuorum_8 rfl (lv_at hl 2 rfl) ?_
      refine z_get hM hW zc8 hO.1 rfl 0 (by decide) lf_X8_129 (v := .int (nI n)) (congrArg Value.int (show gi S 8 (0) (0) = nI n from hn)) dX8_isQuorum_9 ?_
      refine lv_icmp_ge hM.1 hM.2.1 dX8_isQuorum_12 (tgt := 57) (by decide) (fun h => absurd h hc9) (fun _ => ?_)
      refine lv_iload hM.1 hM.2.1 dX8_isQuorum_15 (lv_at hl 1 rfl) ?_
      refine lv_aload_n hM.1 hM.2.1 dX8_isQuorum_17 rfl (lv_at hl 2 rfl) ?_
      refine z_getr hM hW zc8 hO.1 rfl 17 (by decide) lf_X8_57 (t := 9) (j := 117) rfl (hO.r 17 (by decide) (by decide)) dX8_isQuorum_18 (fun hd2_18 => ?_)
      refine lv_iload_n hM.1 hM.2.1 dX8_isQuorum_21 rfl (lv_at hl 3 rfl) ?_
      refine z_iald hM hW hd2_18 rfl (vin_L (hO.l 17 (by decide) (by decide)) hx) (v := gi S 9 (117) (ix (x))) rfl dX8_isQuorum_22 ?_
      refine lv_iload hM.1 hM.2.1 dX8_isQuorum_23 (lv_at hl 0 rfl) ?_
      refine lv_ishr hM.1 hM.2.1 dX8_isQuorum_25 ?_
      refine lv_iconst (v := 1) hM.1 hM.2.1 dX8_isQuorum_26 (by decide) ?_
      refine lv_iand hM.1 hM.2.1 dX8_isQuorum_27 ?_
      refine lv_iconst (v := 1) hM.1 hM.2.1 dX8_isQuorum_28 (by decide) ?_
      refine lv_icmp_ne hM.1 hM.2.1 dX8_isQuorum_29 (tgt := 47) (by decide) (fun h_29 => ?_) (fun h_29 => ?_)
      ·
        refine lv_iconst (v := 0) hM.1 hM.2.1 dX8_isQuorum_47 (by decide) ?_
        refine lv_iadd hM.1 hM.2.1 dX8_isQuorum_48 ?_
        refine lv_istore hM.1 hM.2.1 dX8_isQuorum_49 hl (by decide) (lv' := [(4, .int ((r) + (0))), (5, .int (nI k)), (0, .ref (Z.1 8 (0))), (1, .int (x)), (2, .int (nI tt)), (3, .int (nI w))]) rfl (fun ls hl => ?_)
        refine lv_iinc hM.1 hM.2.1 dX8_isQuorum_51 hl (k := 1) rfl (v := nI (k + 1)) (nI_succ _).symm (by decide) (lv' := [(5, .int (nI (k + 1))), (4, .int ((r) + (0))), (0, .ref (Z.1 8 (0))), (1, .int (x)), (2, .int (nI tt)), (3, .int (nI w))]) rfl (fun ls hl => ?_)
        refine lv_goto hM.1 hM.2.1 dX8_isQuorum_54 (tgt := 6) (by decide) ?_
        exact ih (k + 1) _ ls H locs (by omega) (by rw [show lQs S x tt (f + 1) k r = lQs S x tt f (k + 1) (pif _ _ _) from rfl, pif_neg h_29] at hE; exact hE) (lv_sub hl [0, 1, 2, 3, 4, 5] rfl) hW hS
      ·
        refine lv_aload_n hM.1 hM.2.1 dX8_isQuorum_32 rfl (lv_at hl 2 rfl) ?_
        refine z_getr hM hW zc8 hO.1 rfl 8 (by decide) lf_X8_33 (t := 9) (j := 108) rfl (hO.r 8 (by decide) (by decide)) dX8_isQuorum_33 (fun hd3_33 => ?_)
        refine lv_bipush (v := 9) hM.1 hM.2.1 dX8_isQuorum_36 (by decide) ?_
        refine lv_iload_n hM.1 hM.2.1 dX8_isQuorum_38 rfl (lv_at hl 4 rfl) ?_
        refine lv_imul hM.1 hM.2.1 dX8_isQuorum_39 ?_
        rw [nI_m9]
        refine lv_iload hM.1 hM.2.1 dX8_isQuorum_40 (lv_at hl 0 rfl) ?_
        refine lv_iadd hM.1 hM.2.1 dX8_isQuorum_42 ?_
        rw [← nI_ad]
        refine z_iald hM hW hd3_33 rfl (vin_nI (hO.l 8 (by decide) (by decide)) (by have : mlen 8 = 144 := rfl; omega) (by decide)) (v := gi S 9 (108) (9 * tt + k)) ((congrArg (gi S 9 (108)) (nI_clamp (by omega))).trans rfl) dX8_isQuorum_43 ?_
        refine lv_goto hM.1 hM.2.1 dX8_isQuorum_44 (tgt := 48) (by decide) ?_
        refine lv_iadd hM.1 hM.2.1 dX8_isQuorum_48 ?_
        refine lv_istore hM.1 hM.2.1 dX8_isQuorum_49 hl (by decide) (lv' := [(4, .int ((r) + (gi S 9 (108) (9 * tt + k)))), (5, .int (nI k)), (0, .ref (Z.1 8 (0))), (1, .int (x)), (2, .int (nI tt)), (3, .int (nI w))]) rfl (fun ls hl => ?_)
        refine lv_iinc hM.1 hM.2.1 dX8_isQuorum_51 hl (k := 1) rfl (v := nI (k + 1)) (nI_succ _).symm (by decide) (lv' := [(5, .int (nI (k + 1))), (4, .int ((r) + (gi S 9 (108) (9 * tt + k)))), (0, .ref (Z.1 8 (0))), (1, .int (x)), (2, .int (nI tt)), (3, .int (nI w))]) rfl (fun ls hl => ?_)
        refine lv_goto hM.1 hM.2.1 dX8_isQuorum_54 (tgt := 6) (by decide) ?_
        exact ih (k + 1) _ ls H locs (by omega) (by rw [show lQs S x tt (f + 1) k r = lQs S x tt f (k + 1) (pif _ _ _) from rfl, pif_pos h_29] at hE; exact hE) (lv_sub hl [0, 1, 2, 3, 4, 5] rfl) hW hS
  refine lv_iconst (v := 0) hM.1 hM.2.1 dX8_isQuorum_0 (by decide) ?_
  refine lv_istore hM.1 hM.2.1 dX8_isQuorum_1 hl (by decide) (lv' := [(4, .int (0)), (0, .ref (Z.1 8 (0))), (1, .int (x)), (2, .int (nI tt)), (3, .int (nI w))]) rfl (fun ls hl => ?_)
  refine lv_iconst (v := 0) hM.1 hM.2.1 dX8_isQuorum_3 (by decide) ?_
  refine lv_istore hM.1 hM.2.1 dX8_isQuorum_4 hl (by decide) (lv' := [(5, .int (0)), (4, .int (0)), (0, .ref (Z.1 8 (0))), (1, .int (x)), (2, .int (nI tt)), (3, .int (nI w))]) rfl (fun ls hl => ?_)
  exact loop n 0 0 ls _ _ (by omega) rfl (lv_sub hl [0, 1, 2, 3, 4, 5] rfl) hW hS

set_option maxHeartbeats 400000 in
set_option maxRecDepth 100000 in
theorem c_X8_areQuorums {l : Launch} {D : va_G} {ar : Nat → ClassId} {A : Nat → Prop} {Z : zZ} {S : zS} {n : Nat} {x u to : Int32} {fr w : Nat} (hO : mOK Z S.2.2) (hn : gi S 8 0 0 = nI n) (h7 : n ≤ 7) (hx : vp_in x 4) (hu : u = nI fr) (hfr : fr < 16) (hto : to < 16) (hw : w < 9) : zMet l yX8_areQuorums prog_10_method_17_code 7 (some .boolean) ({ frames := 1, cells := 0, slots := 0, locals := 25 } : Room) D ar A Z S [.ref (Z.1 8 (0)), .int (x), .int (u), .int (to), .int (nI w)] rvI (zF (lAre S n x to w (16 - fr) fr 1) Z S) := by
  refine z_body (by decide +kernel) (Nat.le_of_ble_eq_true rfl) ?_
  intro pX eX sX mX bX methX cX ls hM hr hlk hml hin hl hW hlo
  have hM : zM pX cX mX _ sX prog_10_method_17_code RX8 D ar := hM
  have hS : va_S A sX.heap sX.heap [] := va_S.rf
  have hl : lv_has ls 7 [(0, .ref (Z.1 8 (0))), (1, .int (x)), (2, .int (u)), (3, .int (to)), (4, .int (nI w))] := hl
  subst hu
  have loop : ∀ (f t : Nat) (g : Int32) (ls : Array Slot) (H : Heap) (locs : List Loc), t + f = 16 → isB g → lAre S n x to w f t g = lAre S n x to w (16 - fr) fr 1 → lv_has ls 7 [(6, .int (nI t)), (5, .int (g)), (0, .ref (Z.1 8 (0))), (1, .int (x)), (2, .int (nI fr)), (3, .int (to)), (4, .int (nI w))] → zW D ar A Z S H → va_S A sX.heap H locs → W pX l eX ({ frames := 1, cells := 0, slots := 0, locals := 25 } : Room) sX mX ([.ref (Z.1 8 (0)), .int (x), .int (nI fr), .int (to), .int (nI w)] : List Value).toArray bX methX cX H locs 0 0 (MQ bX (zQ D ar A rvI (zF (lAre S n x to w (16 - fr) fr 1) Z S)) ([.ref (Z.1 8 (0)), .int (x), .int (nI fr), .int (to), .int (nI w)] : List Value).toArray sX 0 0 A) (F0 mX 6 ls []) := by
    intro f
    induction f with
    | zero =>
      intro t g ls H locs hk hg hE hl hW hS
      have hc9 : to < nI t := by rw [show t = 16 by omega]; exact hto
      refine lv_iload hM.1 hM.2.1 dX8_areQuorums_6 (lv_at hl 0 rfl) ?_
      refine lv_iload_n hM.1 hM.2.1 dX8_areQuorums_8 rfl (lv_at hl 5 rfl) ?_
      refine lv_icmp_gt hM.1 hM.2.1 dX8_areQuorums_9 (tgt := 34) (by decide) (fun _ => ?_) (fun h => absurd hc9 h)
      refine lv_iload hM.1 hM.2.1 dX8_areQuorums_34 (lv_at hl 1 rfl) ?_
      exact z_iret hM hlk hr (narrow_isB hg) hW hS (zF.of hE rfl) dX8_areQuorums_36
    | succ f ih =>
      intro t g ls H locs hk hg hE hl hW hS
      refine lv_iload hM.1 hM.2.1 dX8_areQuorums_6 (lv_at hl 0 rfl) ?_
      refine lv_iload_n hM.1 hM.2.1 dX8_areQuorums_8 rfl (lv_at hl 5 rfl) ?_
      refine lv_icmp_gt hM.1 hM.2.1 dX8_areQuorums_9 (tgt := 34) (by decide) (fun h_9 => ?_) (fun h_9 => ?_)
      ·
        refine lv_iload hM.1 hM.2.1 dX8_areQuorums_34 (lv_at hl 1 rfl) ?_
        exact z_iret hM hlk hr (narrow_isB hg) hW hS (zF.of (by rw [show lAre S n x to w (f + 1) t g = pif _ _ _ from rfl, pif_pos h_9] at hE; exact hE) rfl) dX8_areQuorums_36
      ·
        refine lv_iload hM.1 hM.2.1 dX8_areQuorums_12 (lv_at hl 1 rfl) ?_
        refine lv_if_eq hM.1 hM.2.1 dX8_areQuorums_14 (tgt := 34) (by decide) (fun h_14 => ?_) (fun h_14 => ?_)
        ·
          refine lv_iload hM.1 hM.2.1 dX8_areQuorums_34 (lv_at hl 1 rfl) ?_
          exact z_iret hM hlk hr (narrow_isB hg) hW hS (zF.of (by rw [show lAre S n x to w (f + 1) t g = pif _ _ _ from rfl, pif_neg h_9, pif_pos h_14] at hE; exact hE) rfl) dX8_areQuorums_36
        ·
          refine lv_aload_n hM.1 hM.2.1 dX8_areQuorums_17 rfl (lv_at hl 2 rfl) ?_
          refine lv_iload_n hM.1 hM.2.1 dX8_areQuorums_18 rfl (lv_at hl 3 rfl) ?_
          refine lv_iload hM.1 hM.2.1 dX8_areQuorums_19 (lv_at hl 0 rfl) ?_
          refine lv_iload hM.1 hM.2.1 dX8_areQuorums_21 (lv_at hl 6 rfl) ?_
          refine z_Vi hM (hml.trans hl.1.symm) hW hS hlo zc8 hO.1 rfl zyX8_isQuorum lm_X8_170 li_yX8_isQuorum le_yX8_isQuorum (As := [.int (x), .int (nI t), .int (nI w)]) (rest := []) (c_X8_isQuorum (tt := t) (w := w) hO hn h7 hx rfl (by omega) (by omega)) rfl rfl (Nat.le_of_ble_eq_true rfl) ⟨Nat.le_of_ble_eq_true rfl, Nat.le_of_ble_eq_true rfl⟩ ⟨Nat.le_of_ble_eq_true rfl, Nat.le_of_ble_eq_true rfl⟩ dX8_areQuorums_23 (fun H locs hW hS => ?_)
          refine lv_istore hM.1 hM.2.1 dX8_areQuorums_26 hl (by decide) (lv' := [(5, .int (r_X8_isQuorum S n (x) (t) (w))), (6, .int (nI t)), (0, .ref (Z.1 8 (0))), (1, .int (x)), (2, .int (nI fr)), (3, .int (to)), (4, .int (nI w))]) rfl (fun ls hl => ?_)
          refine lv_iinc hM.1 hM.2.1 dX8_areQuorums_28 hl (k := 1) rfl (v := nI (t + 1)) (nI_succ _).symm (by decide) (lv' := [(6, .int (nI (t + 1))), (5, .int (r_X8_isQuorum S n (x) (t) (w))), (0, .ref (Z.1 8 (0))), (1, .int (x)), (2, .int (nI fr)), (3, .int (to)), (4, .int (nI w))]) rfl (fun ls hl => ?_)
          refine lv_goto hM.1 hM.2.1 dX8_areQuorums_31 (tgt := 6) (by decide) ?_
          exact ih (t + 1) _ ls H locs (by omega) isB_quo (by rw [show lAre S n x to w (f + 1) t g = pif _ _ _ from rfl, pif_neg h_9, pif_neg h_14] at hE; exact hE) (lv_sub hl [0, 1, 2, 3, 4, 5, 6] rfl) hW hS
  refine lv_iconst (v := 1) hM.1 hM.2.1 dX8_areQuorums_0 (by decide) ?_
  refine lv_istore hM.1 hM.2.1 dX8_areQuorums_1 hl (by decide) (lv' := [(5, .int (1)), (0, .ref (Z.1 8 (0))), (1, .int (x)), (2, .int (nI fr)), (3, .int (to)), (4, .int (nI w))]) rfl (fun ls hl => ?_)
  refine lv_iload_n hM.1 hM.2.1 dX8_areQuorums_3 rfl (lv_at hl 3 rfl) ?_
  refine lv_istore hM.1 hM.2.1 dX8_areQuorums_4 hl (by decide) (lv' := [(6, .int (nI fr)), (5, .int (1)), (0, .ref (Z.1 8 (0))), (1, .int (x)), (2, .int (nI fr)), (3, .int (to)), (4, .int (nI w))]) rfl (fun ls hl => ?_)
  exact loop (16 - fr) fr 1 ls _ _ (by omega) isB_1 rfl (lv_sub hl [0, 1, 2, 3, 4, 5, 6] rfl) hW hS

noncomputable def r_X8_isOver (S : zS) (n fr tt : Nat) (x : Int32) : Int32 := 
  (pif ((gi S 9 (112) (ix (x))) = (1)) (lAre S n (x) (gi S 9 (115) (ix (x))) 7 (16 - fr) fr 1) 
    (pif ((gi S 9 (112) (ix (x))) = (2)) (lAre S n (x) (gi S 9 (115) (ix (x))) 8 (16 - fr) fr 1) 
      (pif ((gi S 9 (112) (ix (x))) = (3)) (lAre S n (x) ((gi S 9 (127) (ix (gi S 9 (111) (ix (x))))) - (1)) 8 (16 - fr) fr 1) (r_X8_isQuorum S n (x) tt 8))))
set_option maxHeartbeats 400000 in
set_option maxRecDepth 100000 in
theorem c_X8_isOver {l : Launch} {D : va_G} {ar : Nat → ClassId} {A : Nat → Prop} {Z : zZ} {S : zS} {n fr tt : Nat} {x : Int32} (hO : mOK Z S.2.2) (hn : gi S 8 0 0 = nI n) (h7 : n ≤ 7) (hx : vp_in x 4) (hd : vp_in (gi S 9 111 (ix x)) 201) (hbs : gi S 9 114 (ix x) = nI fr) (hfr : fr < 16) (hla : gi S 9 115 (ix x) < 16) (hto3 : gi S 9 112 (ix x) = 3 → gi S 9 127 (ix (gi S 9 111 (ix x))) - 1 < 16) (htt : ¬ gi S 9 112 (ix x) = 1 → ¬ gi S 9 112 (ix x) = 2 → ¬ gi S 9 112 (ix x) = 3 → gi S 9 127 (ix (gi S 9 111 (ix x))) = nI tt) (htl : tt < 16) : zMet l yX8_isOver prog_10_method_18_code 3 (some .boolean) ({ frames := 2, cells := 0, slots := 0, locals := 51 } : Room) D ar A Z S [.ref (Z.1 8 (0)), .int (x)] rvI (zF (r_X8_isOver S n fr tt x) Z S) := by
  refine z_body (by decide +kernel) (Nat.le_of_ble_eq_true rfl) ?_
  intro pX eX sX mX bX methX cX ls hM hr hlk hml hin hl hW hlo
  have hM : zM pX cX mX _ sX prog_10_method_18_code RX8 D ar := hM
  have hS : va_S A sX.heap sX.heap [] := va_S.rf
  have hl : lv_has ls 3 [(0, .ref (Z.1 8 (0))), (1, .int (x))] := hl
  refine lv_aload_n hM.1 hM.2.1 dX8_isOver_0 rfl (lv_at hl 0 rfl) ?_
  refine z_getr hM hW zc8 hO.1 rfl 27 (by decide) lf_X8_87 (t := 9) (j := 127) rfl (hO.r 27 (by decide) (by decide)) dX8_isOver_1 (fun hd1_1 => ?_)
  refine lv_aload_n hM.1 hM.2.1 dX8_isOver_4 rfl (lv_at hl 0 rfl) ?_
  refine z_getr hM hW zc8 hO.1 rfl 11 (by decide) lf_X8_39 (t := 9) (j := 111) rfl (hO.r 11 (by decide) (by decide)) dX8_isOver_5 (fun hd2_5 => ?_)
  refine lv_iload_n hM.1 hM.2.1 dX8_isOver_8 rfl (lv_at hl 1 rfl) ?_
  refine z_iald hM hW hd2_5 rfl (vin_L (hO.l 11 (by decide) (by decide)) hx) (v := gi S 9 (111) (ix (x))) rfl dX8_isOver_9 ?_
  refine z_iald hM hW hd1_1 rfl (vin_L (hO.l 27 (by decide) (by decide)) hd) (v := gi S 9 (127) (ix (gi S 9 (111) (ix (x))))) rfl dX8_isOver_10 ?_
  refine lv_istore_n hM.1 hM.2.1 dX8_isOver_11 rfl hl (by decide) (lv' := [(2, .int (gi S 9 (127) (ix (gi S 9 (111) (ix (x)))))), (0, .ref (Z.1 8 (0))), (1, .int (x))]) rfl (fun ls hl => ?_)
  refine lv_aload_n hM.1 hM.2.1 dX8_isOver_12 rfl (lv_at hl 1 rfl) ?_
  refine z_getr hM hW zc8 hO.1 rfl 12 (by decide) lf_X8_42 (t := 9) (j := 112) rfl (hO.r 12 (by decide) (by decide)) dX8_isOver_13 (fun hd3_13 => ?_)
  refine lv_iload_n hM.1 hM.2.1 dX8_isOver_16 rfl (lv_at hl 2 rfl) ?_
  refine z_iald hM hW hd3_13 rfl (vin_L (hO.l 12 (by decide) (by decide)) hx) (v := gi S 9 (112) (ix (x))) rfl dX8_isOver_17 ?_
  by_cases h_18_1 : (gi S 9 (112) (ix (x))) = (1)
  ·
    refine lv_tableIn hM.1 hM.2.1 dX8_isOver_18 (by rw [h_18_1]; decide) (by rw [h_18_1]; decide) (off := 26) (by rw [h_18_1]; rfl) (tgt := 44) (by decide) ?_
    refine lv_aload_n hM.1 hM.2.1 dX8_isOver_44 rfl (lv_at hl 1 rfl) ?_
    refine lv_iload_n hM.1 hM.2.1 dX8_isOver_45 rfl (lv_at hl 2 rfl) ?_
    refine lv_aload_n hM.1 hM.2.1 dX8_isOver_46 rfl (lv_at hl 1 rfl) ?_
    refine z_getr hM hW zc8 hO.1 rfl 14 (by decide) lf_X8_48 (t := 9) (j := 114) rfl (hO.r 14 (by decide) (by decide)) dX8_isOver_47 (fun hd4_47 => ?_)
    refine lv_iload_n hM.1 hM.2.1 dX8_isOver_50 rfl (lv_at hl 2 rfl) ?_
    refine z_iald hM hW hd4_47 rfl (vin_L (hO.l 14 (by decide) (by decide)) hx) (v := gi S 9 (114) (ix (x))) rfl dX8_isOver_51 ?_
    refine lv_aload_n hM.1 hM.2.1 dX8_isOver_52 rfl (lv_at hl 1 rfl) ?_
    refine z_getr hM hW zc8 hO.1 rfl 15 (by decide) lf_X8_51 (t := 9) (j := 115) rfl (hO.r 15 (by decide) (by decide)) dX8_isOver_53 (fun hd5_53 => ?_)
    refine lv_iload_n hM.1 hM.2.1 dX8_isOver_56 rfl (lv_at hl 2 rfl) ?_
    refine z_iald hM hW hd5_53 rfl (vin_L (hO.l 15 (by decide) (by decide)) hx) (v := gi S 9 (115) (ix (x))) rfl dX8_isOver_57 ?_
    refine lv_bipush (v := 7) hM.1 hM.2.1 dX8_isOver_58 (by decide) ?_
    refine z_Vi hM (hml.trans hl.1.symm) hW hS hlo zc8 hO.1 rfl zyX8_areQuorums lm_X8_174 li_yX8_areQuorums le_yX8_areQuorums (As := [.int (x), .int (gi S 9 (114) (ix (x))), .int (gi S 9 (115) (ix (x))), .int (7)]) (rest := []) (c_X8_areQuorums (w := 7) hO hn h7 hx hbs hfr hla (by decide)) rfl rfl (Nat.le_of_ble_eq_true rfl) ⟨Nat.le_of_ble_eq_true rfl, Nat.le_of_ble_eq_true rfl⟩ ⟨Nat.le_of_ble_eq_true rfl, Nat.le_of_ble_eq_true rfl⟩ dX8_isOver_60 (fun H locs hW hS => ?_)
    exact z_iret hM hlk hr (narrow_isB (isB_are _ _ _ isB_1)) hW hS (zF.of (by unfold r_X8_isOver; rw [pif_pos h_18_1]; first | done | rfl) rfl) dX8_isOver_63
  by_cases h_18_2 : (gi S 9 (112) (ix (x))) = (2)
  ·
    refine lv_tableIn hM.1 hM.2.1 dX8_isOver_18 (by rw [h_18_2]; decide) (by rw [h_18_2]; decide) (off := 46) (by rw [h_18_2]; rfl) (tgt := 64) (by decide) ?_
    refine lv_aload_n hM.1 hM.2.1 dX8_isOver_64 rfl (lv_at hl 1 rfl) ?_
    refine lv_iload_n hM.1 hM.2.1 dX8_isOver_65 rfl (lv_at hl 2 rfl) ?_
    refine lv_aload_n hM.1 hM.2.1 dX8_isOver_66 rfl (lv_at hl 1 rfl) ?_
    refine z_getr hM hW zc8 hO.1 rfl 14 (by decide) lf_X8_48 (t := 9) (j := 114) rfl (hO.r 14 (by decide) (by decide)) dX8_isOver_67 (fun hd6_67 => ?_)
    refine lv_iload_n hM.1 hM.2.1 dX8_isOver_70 rfl (lv_at hl 2 rfl) ?_
    refine z_iald hM hW hd6_67 rfl (vin_L (hO.l 14 (by decide) (by decide)) hx) (v := gi S 9 (114) (ix (x))) rfl dX8_isOver_71 ?_
    refine lv_aload_n hM.1 hM.2.1 dX8_isOver_72 rfl (lv_at hl 1 rfl) ?_
    refine z_getr hM hW zc8 hO.1 rfl 15 (by decide) lf_X8_51 (t := 9) (j := 115) rfl (hO.r 15 (by decide) (by decide)) dX8_isOver_73 (fun hd7_73 => ?_)
    refine lv_iload_n hM.1 hM.2.1 dX8_isOver_76 rfl (lv_at hl 2 rfl) ?_
    refine z_iald hM hW hd7_73 rfl (vin_L (hO.l 15 (by decide) (by decide)) hx) (v := gi S 9 (115) (ix (x))) rfl dX8_isOver_77 ?_
    refine lv_bipush (v := 8) hM.1 hM.2.1 dX8_isOver_78 (by decide) ?_
    refine z_Vi hM (hml.trans hl.1.symm) hW hS hlo zc8 hO.1 rfl zyX8_areQuorums lm_X8_174 li_yX8_areQuorums le_yX8_areQuorums (As := [.int (x), .int (gi S 9 (114) (ix (x))), .int (gi S 9 (115) (ix (x))), .int (8)]) (rest := []) (c_X8_areQuorums (w := 8) hO hn h7 hx hbs hfr hla (by decide)) rfl rfl (Nat.le_of_ble_eq_true rfl) ⟨Nat.le_of_ble_eq_true rfl, Nat.le_of_ble_eq_true rfl⟩ ⟨Nat.le_of_ble_eq_true rfl, Nat.le_of_ble_eq_true rfl⟩ dX8_isOver_80 (fun H locs hW hS => ?_)
    exact z_iret hM hlk hr (narrow_isB (isB_are _ _ _ isB_1)) hW hS (zF.of (by unfold r_X8_isOver; rw [pif_neg h_18_1, pif_pos h_18_2]; first | done | rfl) rfl) dX8_isOver_83
  by_cases h_18_3 : (gi S 9 (112) (ix (x))) = (3)
  ·
    refine lv_tableIn hM.1 hM.2.1 dX8_isOver_18 (by rw [h_18_3]; decide) (by rw [h_18_3]; decide) (off := 66) (by rw [h_18_3]; rfl) (tgt := 84) (by decide) ?_
    refine lv_aload_n hM.1 hM.2.1 dX8_isOver_84 rfl (lv_at hl 1 rfl) ?_
    refine lv_iload_n hM.1 hM.2.1 dX8_isOver_85 rfl (lv_at hl 2 rfl) ?_
    refine lv_aload_n hM.1 hM.2.1 dX8_isOver_86 rfl (lv_at hl 1 rfl) ?_
    refine z_getr hM hW zc8 hO.1 rfl 14 (by decide) lf_X8_48 (t := 9) (j := 114) rfl (hO.r 14 (by decide) (by decide)) dX8_isOver_87 (fun hd8_87 => ?_)
    refine lv_iload_n hM.1 hM.2.1 dX8_isOver_90 rfl (lv_at hl 2 rfl) ?_
    refine z_iald hM hW hd8_87 rfl (vin_L (hO.l 14 (by decide) (by decide)) hx) (v := gi S 9 (114) (ix (x))) rfl dX8_isOver_91 ?_
    refine lv_iload_n hM.1 hM.2.1 dX8_isOver_92 rfl (lv_at hl 0 rfl) ?_
    refine lv_iconst (v := 1) hM.1 hM.2.1 dX8_isOver_93 (by decide) ?_
    refine lv_isub hM.1 hM.2.1 dX8_isOver_94 ?_
    refine lv_bipush (v := 8) hM.1 hM.2.1 dX8_isOver_95 (by decide) ?_
    refine z_Vi hM (hml.trans hl.1.symm) hW hS hlo zc8 hO.1 rfl zyX8_areQuorums lm_X8_174 li_yX8_areQuorums le_yX8_areQuorums (As := [.int (x), .int (gi S 9 (114) (ix (x))), .int ((gi S 9 (127) (ix (gi S 9 (111) (ix (x))))) - (1)), .int (8)]) (rest := []) (c_X8_areQuorums (w := 8) hO hn h7 hx hbs hfr (hto3 h_18_3) (by decide)) rfl rfl (Nat.le_of_ble_eq_true rfl) ⟨Nat.le_of_ble_eq_true rfl, Nat.le_of_ble_eq_true rfl⟩ ⟨Nat.le_of_ble_eq_true rfl, Nat.le_of_ble_eq_true rfl⟩ dX8_isOver_97 (fun H locs hW hS => ?_)
    exact z_iret hM hlk hr (narrow_isB (isB_are _ _ _ isB_1)) hW hS (zF.of (by unfold r_X8_isOver; rw [pif_neg h_18_1, pif_neg h_18_2, pif_pos h_18_3]; first | done | rfl) rfl) dX8_isOver_100
  refine lv_tableOut hM.1 hM.2.1 dX8_isOver_18 (by have n1 : Int32.toInt (gi S 9 (112) (ix (x))) ≠ 1 := fun q => h_18_1 (Int32.toInt_inj.mp (by rw [q]; rfl)); have n2 : Int32.toInt (gi S 9 (112) (ix (x))) ≠ 2 := fun q => h_18_2 (Int32.toInt_inj.mp (by rw [q]; rfl)); have n3 : Int32.toInt (gi S 9 (112) (ix (x))) ≠ 3 := fun q => h_18_3 (Int32.toInt_inj.mp (by rw [q]; rfl)); omega) (tgt := 101) (by decide) ?_
  refine lv_aload_n hM.1 hM.2.1 dX8_isOver_101 rfl (lv_at hl 1 rfl) ?_
  refine lv_iload_n hM.1 hM.2.1 dX8_isOver_102 rfl (lv_at hl 2 rfl) ?_
  refine lv_iload_n hM.1 hM.2.1 dX8_isOver_103 rfl (lv_at hl 0 rfl) ?_
  refine lv_bipush (v := 8) hM.1 hM.2.1 dX8_isOver_104 (by decide) ?_
  refine z_Vi hM (hml.trans hl.1.symm) hW hS hlo zc8 hO.1 rfl zyX8_isQuorum lm_X8_170 li_yX8_isQuorum le_yX8_isQuorum (As := [.int (x), .int (gi S 9 (127) (ix (gi S 9 (111) (ix (x))))), .int (8)]) (rest := []) (c_X8_isQuorum (w := 8) (tt := tt) hO hn h7 hx (htt h_18_1 h_18_2 h_18_3) htl (by decide)) rfl rfl (Nat.le_of_ble_eq_true rfl) ⟨Nat.le_of_ble_eq_true rfl, Nat.le_of_ble_eq_true rfl⟩ ⟨Nat.le_of_ble_eq_true rfl, Nat.le_of_ble_eq_true rfl⟩ dX8_isOver_106 (fun H locs hW hS => ?_)
  exact z_iret hM hlk hr (narrow_isB isB_quo) hW hS (zF.of (by unfold r_X8_isOver; rw [pif_neg h_18_1, pif_neg h_18_2, pif_neg h_18_3]; first | done | rfl) rfl) dX8_isOver_109
