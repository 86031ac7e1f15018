/-- asking those that have not answered, from k on -/
noncomputable def lAg (x : Int32) : Nat → Nat → zS → Int32 → zS × Int32
  | 0, _, T, r => (T, r)
  | f + 1, k, T, r => pif (((gi T 9 (117) (ix (x))) >>> ((nI k) &&& 31)) &&& (1) = (1)) (lAg x f (k + 1) T r) (lAg x f (k + 1) (s_X8_ask T (ix (gi T 8 0 44)) (x) (nI k)) (r + 1))
noncomputable def s_X8_again (S : zS) (n : Nat) (x : Int32) : zS := pif ((r_X8_isClient S (x)) = (0)) S (pif ((0) ≤ (gi S 9 (111) (ix (x)))) (lAg x n 0 S 0).1 S)
noncomputable def r_X8_again (S : zS) (n : Nat) (x : Int32) : Int32 := pif ((r_X8_isClient S (x)) = (0)) (-1) (pif ((0) ≤ (gi S 9 (111) (ix (x)))) (lAg x n 0 S 0).2 (-1))
theorem mAc200 {x : Int32} {a : Nat} (h : ¬ x = 200) (e : x = nI a) (ha : a ≤ 200) : a < 200 := by
  rcases Nat.lt_or_eq_of_le ha with q | q
  · exact q
  · subst q; exact absurd e h
theorem vin0 : vp_in 0 4 := by unfold vp_in; decide
set_option maxHeartbeats 400000 in
set_option maxRecDepth 100000 in
theorem c_X8_again {l : Launch} {D : va_G} {ar : Nat → ClassId} {A : Nat → Prop} {Z : zZ} {S : zS} {n : Nat} {x : Int32} (hI : mI n Z S) : zMet l yX8_again prog_10_method_14_code 4 (some .int) ({ frames := 2, cells := 0, slots := 0, locals := 62 } : Room) D ar A Z S [.ref (Z.1 8 (0)), .int (x)] rvI (zF (r_X8_again S n x) Z (s_X8_again S n x)) := by
  refine z_body (by decide +kernel) (Nat.le_of_ble_eq_true rfl) ?_
  intro pX eX sX mX bX methX cX ls hM hr hlk hml hin hl hW hlo
  have hM : zM pX cX mX _ sX prog_10_method_14_code RX8 D ar := hM
  have hS : va_S A sX.heap sX.heap [] := va_S.rf
  have hl : lv_has ls 4 [(0, .ref (Z.1 8 (0))), (1, .int (x))] := hl
  have hO := hI.O
  have hn := hI.n
  have h7 := hI.n7
  have loop : vp_in x 4 → ∀ (f k : Nat) (T : zS) (r : Int32) (ls : Array Slot) (H : Heap) (locs : List Loc), k + f = n → mS n x S T → (lAg x f k T r).1 = s_X8_again S n x → (lAg x f k T r).2 = r_X8_again S n x → lv_has ls 4 [(3, .int (nI k)), (2, .int (r)), (0, .ref (Z.1 8 (0))), (1, .int (x))] → zW D ar A Z T H → va_S A sX.heap H locs → W pX l eX ({ frames := 2, cells := 0, slots := 0, locals := 62 } : Room) sX mX ([.ref (Z.1 8 (0)), .int (x)] : List Value).toArray bX methX cX H locs 0 0 (MQ bX (zQ D ar A rvI (zF (r_X8_again S n x) Z (s_X8_again S n x))) ([.ref (Z.1 8 (0)), .int (x)] : List Value).toArray sX 0 0 A) (F0 mX 22 ls []) := by
    intro hx f
    induction f with
    | zero =>
      intro k T r ls H locs hk hT hE1 hE2 hl hW hS
      have hc9 : nI n ≤ nI k := by rw [show k = n by omega]; exact Int32.le_refl _
      refine lv_iload_n hM.1 hM.2.1 dX8_again_22 rfl (lv_at hl 0 rfl) ?_
      refine lv_aload_n hM.1 hM.2.1 dX8_again_23 rfl (lv_at hl 2 rfl) ?_
      refine z_get hM hW zc8 hI.O.1 rfl 0 (by decide) lf_X8_129 (v := .int (nI n)) (congrArg Value.int (show gi T 8 (0) (0) = nI n from hT.2.1)) dX8_again_24 ?_
      refine lv_icmp_ge hM.1 hM.2.1 dX8_again_27 (tgt := 62) (by decide) (fun _ => ?_) (fun h => absurd hc9 h)
      refine lv_iload_n hM.1 hM.2.1 dX8_again_62 rfl (lv_at hl 1 rfl) ?_
      exact z_iret hM hlk hr rfl hW hS (zF.of hE2 hE1) dX8_again_63
    | succ f ih =>
      intro k T r ls H locs hk hT hE1 hE2 hl hW hS
      have hc9 : ¬ nI n ≤ nI k := nI_ge (by omega) (by omega)
      refine lv_iload_n hM.1 hM.2.1 dX8_again_22 rfl (lv_at hl 0 rfl) ?_
      refine lv_aload_n hM.1 hM.2.1 dX8_again_23 rfl (lv_at hl 2 rfl) ?_
      refine z_get hM hW zc8 hI.O.1 rfl 0 (by decide) lf_X8_129 (v := .int (nI n)) (congrArg Value.int (show gi T 8 (0) (0) = nI n from hT.2.1)) dX8_again_24 ?_
      refine lv_icmp_ge hM.1 hM.2.1 dX8_again_27 (tgt := 62) (by decide) (fun h => absurd h hc9) (fun _ => ?_)
      refine lv_aload_n hM.1 hM.2.1 dX8_again_30 rfl (lv_at hl 2 rfl) ?_
      refine z_getr hM hW zc8 hI.O.1 rfl 17 (by decide) lf_X8_57 (t := 9) (j := 117) rfl ((gr_of hT.1).trans (hO.r 17 (by decide) (by decide))) dX8_again_31 (fun hd1_31 => ?_)
      refine lv_iload_n hM.1 hM.2.1 dX8_again_34 rfl (lv_at hl 3 rfl) ?_
      refine z_iald hM hW hd1_31 rfl (vin_L (hO.l 17 (by decide) (by decide)) hx) (v := gi T 9 (117) (ix (x))) rfl dX8_again_35 ?_
      refine lv_iload_n hM.1 hM.2.1 dX8_again_36 rfl (lv_at hl 0 rfl) ?_
      refine lv_ishr hM.1 hM.2.1 dX8_again_37 ?_
      refine lv_iconst (v := 1) hM.1 hM.2.1 dX8_again_38 (by decide) ?_
      refine lv_iand hM.1 hM.2.1 dX8_again_39 ?_
      refine lv_iconst (v := 1) hM.1 hM.2.1 dX8_again_40 (by decide) ?_
      refine lv_icmp_ne hM.1 hM.2.1 dX8_again_41 (tgt := 47) (by decide) (fun h_41 => ?_) (fun h_41 => ?_)
      ·
        refine lv_aload_n hM.1 hM.2.1 dX8_again_47 rfl (lv_at hl 2 rfl) ?_
        refine lv_iload_n hM.1 hM.2.1 dX8_again_48 rfl (lv_at hl 3 rfl) ?_
        refine lv_iload_n hM.1 hM.2.1 dX8_again_49 rfl (lv_at hl 0 rfl) ?_
        refine z_Vv hM (hml.trans hl.1.symm) hW hS hlo zc8 hI.O.1 rfl zyX8_ask lm_X8_150 li_yX8_ask le_yX8_ask (As := [.int (x), .int (nI k)]) (rest := []) (c_X8_ask (hO.of hT.1) hT.2.2.2.1 hT.2.2.2.2 hx hT.2.2.1) rfl rfl (Nat.le_of_ble_eq_true rfl) ⟨Nat.le_of_ble_eq_true rfl, Nat.le_of_ble_eq_true rfl⟩ ⟨Nat.le_of_ble_eq_true rfl, Nat.le_of_ble_eq_true rfl⟩ dX8_again_50 (fun H locs hW hS => ?_)
        refine lv_iinc hM.1 hM.2.1 dX8_again_53 hl (k := 1) rfl (v := r + 1) rfl (by decide) (lv' := [(2, .int (r + 1)), (3, .int (nI k)), (0, .ref (Z.1 8 (0))), (1, .int (x))]) rfl (fun ls hl => ?_)
        refine lv_iinc hM.1 hM.2.1 dX8_again_56 hl (k := 1) rfl (v := nI (k + 1)) (nI_succ _).symm (by decide) (lv' := [(3, .int (nI (k + 1))), (2, .int (r + 1)), (0, .ref (Z.1 8 (0))), (1, .int (x))]) rfl (fun ls hl => ?_)
        refine lv_goto hM.1 hM.2.1 dX8_again_59 (tgt := 22) (by decide) ?_
        exact ih (k + 1) _ _ ls H locs (by omega) hT.ask (by rw [show lAg x (f + 1) k T r = pif _ _ _ from rfl, pif_neg h_41] at hE1; exact hE1) (by rw [show lAg x (f + 1) k T r = pif _ _ _ from rfl, pif_neg h_41] at hE2; exact hE2) (lv_sub hl [0, 1, 2, 3] rfl) hW hS
      ·
        refine lv_goto hM.1 hM.2.1 dX8_again_44 (tgt := 56) (by decide) ?_
        refine lv_iinc hM.1 hM.2.1 dX8_again_56 hl (k := 0) rfl (v := nI (k + 1)) (nI_succ _).symm (by decide) (lv' := [(3, .int (nI (k + 1))), (2, .int (r)), (0, .ref (Z.1 8 (0))), (1, .int (x))]) rfl (fun ls hl => ?_)
        refine lv_goto hM.1 hM.2.1 dX8_again_59 (tgt := 22) (by decide) ?_
        exact ih (k + 1) _ _ ls H locs (by omega) hT (by rw [show lAg x (f + 1) k T r = pif _ _ _ from rfl, pif_pos h_41] at hE1; exact hE1) (by rw [show lAg x (f + 1) k T r = pif _ _ _ from rfl, pif_pos h_41] at hE2; exact hE2) (lv_sub hl [0, 1, 2, 3] rfl) hW hS
  refine lv_iload_n hM.1 hM.2.1 dX8_again_0 rfl (lv_at hl 1 rfl) ?_
  refine z_Si hM (hml.trans hl.1.symm) hW hS hlo zyX8_isClient lm_X8_167 ls_yX8_isClient (As := [.int (x)]) (rest := []) (c_X8_isClient (S := S)) rfl rfl (Nat.le_of_ble_eq_true rfl) ⟨Nat.le_of_ble_eq_true rfl, Nat.le_of_ble_eq_true rfl⟩ ⟨Nat.le_of_ble_eq_true rfl, Nat.le_of_ble_eq_true rfl⟩ dX8_again_1 (fun H locs hW hS => ?_)
  refine lv_if_eq hM.1 hM.2.1 dX8_again_4 (tgt := 16) (by decide) (fun h_4 => ?_) (fun h_4 => ?_)
  ·
    refine lv_iconst (v := (-1)) hM.1 hM.2.1 dX8_again_16 (by decide) ?_
    exact z_iret hM hlk hr rfl hW hS (zF.of (by unfold r_X8_again; rw [pif_pos h_4]) (by unfold s_X8_again; rw [pif_pos h_4])) dX8_again_17
  ·
    refine lv_aload_n hM.1 hM.2.1 dX8_again_7 rfl (lv_at hl 0 rfl) ?_
    refine z_getr hM hW zc8 hI.O.1 rfl 11 (by decide) lf_X8_39 (t := 9) (j := 111) rfl (hO.r 11 (by decide) (by decide)) dX8_again_8 (fun hd2_8 => ?_)
    refine lv_iload_n hM.1 hM.2.1 dX8_again_11 rfl (lv_at hl 1 rfl) ?_
    refine z_iald hM hW hd2_8 rfl (mClient h_4 (hO.l 11 (by decide) (by decide))) (v := gi S 9 (111) (ix (x))) rfl dX8_again_12 ?_
    refine lv_if_ge hM.1 hM.2.1 dX8_again_13 (tgt := 18) (by decide) (fun h_13 => ?_) (fun h_13 => ?_)
    ·
      refine lv_iconst (v := 0) hM.1 hM.2.1 dX8_again_18 (by decide) ?_
      refine lv_istore_n hM.1 hM.2.1 dX8_again_19 rfl hl (by decide) (lv' := [(2, .int (0)), (0, .ref (Z.1 8 (0))), (1, .int (x))]) rfl (fun ls hl => ?_)
      refine lv_iconst (v := 0) hM.1 hM.2.1 dX8_again_20 (by decide) ?_
      refine lv_istore_n hM.1 hM.2.1 dX8_again_21 rfl hl (by decide) (lv' := [(3, .int (0)), (2, .int (0)), (0, .ref (Z.1 8 (0))), (1, .int (x))]) rfl (fun ls hl => ?_)
      exact loop (mClient h_4 rfl) n 0 S 0 ls _ _ (by omega) ⟨rfl, hn, ((hI.cl (mClient h_4 rfl)).2.2 (Int32.not_lt.mpr h_13)).1, hI.cn, hI.cm⟩ (by unfold s_X8_again; rw [pif_neg h_4, pif_pos h_13]) (by unfold r_X8_again; rw [pif_neg h_4, pif_pos h_13]) (lv_sub hl [0, 1, 2, 3] rfl) hW hS
    ·
      refine lv_iconst (v := (-1)) hM.1 hM.2.1 dX8_again_16 (by decide) ?_
      exact z_iret hM hlk hr rfl hW hS (zF.of (by unfold r_X8_again; rw [pif_neg h_4, pif_neg h_13]) (by unfold s_X8_again; rw [pif_neg h_4, pif_neg h_13])) dX8_again_17

noncomputable def r_X8_beginAct (S : zS) (n ac : Nat) (x y : Int32) (v : Int64) (t : Int32) : Int32 := 
  (pif ((y) = (2)) (gi (s_X8_beginPhase (si (sj (si (si (si (si (sj (si (si (si (si (si (si (si (si (si S 8 (0) (29) (nI (ac + 1))) 8 (0) (30) ((gi S 8 (0) (30)) + (1))) 9 (121) (ac + 1) (y)) 9 (122) (ac + 1) (x)) 9 (123) (ac + 1) ((gi S 8 (0) (30)) + (1))) 9 (124) (ac + 1) ((-1))) 9 (125) (ac + 1) ((-1))) 9 (126) (ac + 1) ((-1))) 9 (127) (ac + 1) (t)) 10 (128) (ac + 1) (v)) 9 (111) (ix (x)) (nI (ac + 1))) 9 (113) (ix (x)) (0)) 9 (118) (ix (x)) (0)) 9 (119) (ix (x)) (0)) 10 (120) (ix (x)) (0)) 9 (115) (ix (x)) (t)) n (x) (3)) 8 (0) (29)) (gi (s_X8_beginPhase (sj (si (si (si (si (sj (si (si (si (si (si (si (si (si (si S 8 (0) (29) (nI (ac + 1))) 8 (0) (30) ((gi S 8 (0) (30)) + (1))) 9 (121) (ac + 1) (y)) 9 (122) (ac + 1) (x)) 9 (123) (ac + 1) ((gi S 8 (0) (30)) + (1))) 9 (124) (ac + 1) ((-1))) 9 (125) (ac + 1) ((-1))) 9 (126) (ac + 1) ((-1))) 9 (127) (ac + 1) (t)) 10 (128) (ac + 1) (v)) 9 (111) (ix (x)) (nI (ac + 1))) 9 (113) (ix (x)) (0)) 9 (118) (ix (x)) (0)) 9 (119) (ix (x)) (0)) 10 (120) (ix (x)) (0)) n (x) (1)) 8 (0) (29)))
noncomputable def s_X8_beginAct (S : zS) (n ac : Nat) (x y : Int32) (v : Int64) (t : Int32) : zS := 
  (pif ((y) = (2)) ((s_X8_beginPhase (si (sj (si (si (si (si (sj (si (si (si (si (si (si (si (si (si S 8 (0) (29) (nI (ac + 1))) 8 (0) (30) ((gi S 8 (0) (30)) + (1))) 9 (121) (ac + 1) (y)) 9 (122) (ac + 1) (x)) 9 (123) (ac + 1) ((gi S 8 (0) (30)) + (1))) 9 (124) (ac + 1) ((-1))) 9 (125) (ac + 1) ((-1))) 9 (126) (ac + 1) ((-1))) 9 (127) (ac + 1) (t)) 10 (128) (ac + 1) (v)) 9 (111) (ix (x)) (nI (ac + 1))) 9 (113) (ix (x)) (0)) 9 (118) (ix (x)) (0)) 9 (119) (ix (x)) (0)) 10 (120) (ix (x)) (0)) 9 (115) (ix (x)) (t)) n (x) (3))) ((s_X8_beginPhase (sj (si (si (si (si (sj (si (si (si (si (si (si (si (si (si S 8 (0) (29) (nI (ac + 1))) 8 (0) (30) ((gi S 8 (0) (30)) + (1))) 9 (121) (ac + 1) (y)) 9 (122) (ac + 1) (x)) 9 (123) (ac + 1) ((gi S 8 (0) (30)) + (1))) 9 (124) (ac + 1) ((-1))) 9 (125) (ac + 1) ((-1))) 9 (126) (ac + 1) ((-1))) 9 (127) (ac + 1) (t)) 10 (128) (ac + 1) (v)) 9 (111) (ix (x)) (nI (ac + 1))) 9 (113) (ix (x)) (0)) 9 (118) (ix (x)) (0)) 9 (119) (ix (x)) (0)) 10 (120) (ix (x)) (0)) n (x) (1))))
set_option maxHeartbeats 400000 in
set_option maxRecDepth 100000 in
theorem c_X8_beginAct {l : Launch} {D : va_G} {ar : Nat → ClassId} {A : Nat → Prop} {Z : zZ} {S : zS} {n ac : Nat} {x y : Int32} {v : Int64} {t : Int32} (hO : mOK Z S.2.2) (hn : gi S 8 0 0 = nI n) (h7 : n ≤ 7) (hx : vp_in x 4) (hac : gi S 8 0 29 = nI ac) (ha2 : ac < 200) (h44 : gi S 8 0 44 = nI (ix (gi S 8 0 44))) (h45 : ix (gi S 8 0 44) ≤ 300) : zMet l yX8_beginAct prog_10_method_9_code 6 (some .int) ({ frames := 3, cells := 0, slots := 0, locals := 85 } : Room) D ar A Z S [.ref (Z.1 8 (0)), .int (x), .int (y), .long (v), .int (t)] rvI (zF (r_X8_beginAct S n ac x y v t) Z (s_X8_beginAct S n ac x y v t)) := by
  refine z_body (by decide +kernel) (Nat.le_of_ble_eq_true rfl) ?_
  intro pX eX sX mX bX methX cX ls hM hr hlk hml hin hl hW hlo
  have hM : zM pX cX mX _ sX prog_10_method_9_code RX8 D ar := hM
  have hS : va_S A sX.heap sX.heap [] := va_S.rf
  have hl : lv_has ls 6 [(0, .ref (Z.1 8 (0))), (1, .int (x)), (2, .int (y)), (3, .long (v)), (5, .int (t))] := hl
  refine lv_aload_n hM.1 hM.2.1 dX8_beginAct_0 rfl (lv_at hl 0 rfl) ?_
  refine lv_dup hM.1 hM.2.1 dX8_beginAct_1 rfl ?_
  refine z_get hM hW zc8 hO.1 rfl 29 (by decide) lf_X8_154 (v := .int (nI ac)) (congrArg Value.int (show gi S 8 (0) (29) = nI ac from hac)) dX8_beginAct_2 ?_
  refine lv_iconst (v := 1) hM.1 hM.2.1 dX8_beginAct_5 (by decide) ?_
  refine lv_iadd hM.1 hM.2.1 dX8_beginAct_6 ?_
  rw [← nI_succ]
  refine z_puti hM hW hS zc8 hO.1 rfl 29 (by decide) rfl lf_X8_154 (Or.inl rfl) (tyX8 29) (tyX8_ok 29 (by decide)) rfl rfl dX8_beginAct_7 (fun H locs hW hS => ?_)
  refine lv_aload_n hM.1 hM.2.1 dX8_beginAct_10 rfl (lv_at hl 0 rfl) ?_
  refine lv_dup hM.1 hM.2.1 dX8_beginAct_11 rfl ?_
  refine z_get hM hW zc8 hO.1 rfl 30 (by decide) lf_X8_157 (v := .int (gi S 8 (0) (30))) rfl dX8_beginAct_12 ?_
  refine lv_iconst (v := 1) hM.1 hM.2.1 dX8_beginAct_15 (by decide) ?_
  refine lv_iadd hM.1 hM.2.1 dX8_beginAct_16 ?_
  refine z_puti hM hW hS zc8 hO.1 rfl 30 (by decide) rfl lf_X8_157 (Or.inl rfl) (tyX8 30) (tyX8_ok 30 (by decide)) rfl rfl dX8_beginAct_17 (fun H locs hW hS => ?_)
  refine lv_aload_n hM.1 hM.2.1 dX8_beginAct_20 rfl (lv_at hl 0 rfl) ?_
  refine z_getr hM hW zc8 hO.1 rfl 21 (by decide) lf_X8_69 (t := 9) (j := 121) rfl (hO.r 21 (by decide) (by decide)) dX8_beginAct_21 (fun hd1_21 => ?_)
  refine lv_aload_n hM.1 hM.2.1 dX8_beginAct_24 rfl (lv_at hl 0 rfl) ?_
  refine z_get hM hW zc8 hO.1 rfl 29 (by decide) lf_X8_154 (v := .int (nI (ac + 1))) rfl dX8_beginAct_25 ?_
  refine lv_iload_n hM.1 hM.2.1 dX8_beginAct_28 rfl (lv_at hl 2 rfl) ?_
  refine z_iast hM hW hS hd1_21 rfl (vin_nI (hO.l 21 (by decide) (by decide)) (by have : mlen 21 = 201 := rfl; omega) (by decide)) dX8_beginAct_29 (fun H locs hW hS => ?_)
  rw [nI_clamp (by omega)] at hW
  refine lv_aload_n hM.1 hM.2.1 dX8_beginAct_30 rfl (lv_at hl 0 rfl) ?_
  refine z_getr hM hW zc8 hO.1 rfl 22 (by decide) lf_X8_72 (t := 9) (j := 122) rfl (hO.r 22 (by decide) (by decide)) dX8_beginAct_31 (fun hd2_31 => ?_)
  refine lv_aload_n hM.1 hM.2.1 dX8_beginAct_34 rfl (lv_at hl 0 rfl) ?_
  refine z_get hM hW zc8 hO.1 rfl 29 (by decide) lf_X8_154 (v := .int (nI (ac + 1))) rfl dX8_beginAct_35 ?_
  refine lv_iload_n hM.1 hM.2.1 dX8_beginAct_38 rfl (lv_at hl 1 rfl) ?_
  refine z_iast hM hW hS hd2_31 rfl (vin_nI (hO.l 22 (by decide) (by decide)) (by have : mlen 22 = 201 := rfl; omega) (by decide)) dX8_beginAct_39 (fun H locs hW hS => ?_)
  rw [nI_clamp (by omega)] at hW
  refine lv_aload_n hM.1 hM.2.1 dX8_beginAct_40 rfl (lv_at hl 0 rfl) ?_
  refine z_getr hM hW zc8 hO.1 rfl 23 (by decide) lf_X8_75 (t := 9) (j := 123) rfl (hO.r 23 (by decide) (by decide)) dX8_beginAct_41 (fun hd3_41 => ?_)
  refine lv_aload_n hM.1 hM.2.1 dX8_beginAct_44 rfl (lv_at hl 0 rfl) ?_
  refine z_get hM hW zc8 hO.1 rfl 29 (by decide) lf_X8_154 (v := .int (nI (ac + 1))) rfl dX8_beginAct_45 ?_
  refine lv_aload_n hM.1 hM.2.1 dX8_beginAct_48 rfl (lv_at hl 0 rfl) ?_
  refine z_get hM hW zc8 hO.1 rfl 30 (by decide) lf_X8_157 (v := .int ((gi S 8 (0) (30)) + (1))) rfl dX8_beginAct_49 ?_
  refine z_iast hM hW hS hd3_41 rfl (vin_nI (hO.l 23 (by decide) (by decide)) (by have : mlen 23 = 201 := rfl; omega) (by decide)) dX8_beginAct_52 (fun H locs hW hS => ?_)
  rw [nI_clamp (by omega)] at hW
  refine lv_aload_n hM.1 hM.2.1 dX8_beginAct_53 rfl (lv_at hl 0 rfl) ?_
  refine z_getr hM hW zc8 hO.1 rfl 24 (by decide) lf_X8_78 (t := 9) (j := 124) rfl (hO.r 24 (by decide) (by decide)) dX8_beginAct_54 (fun hd4_54 => ?_)
  refine lv_aload_n hM.1 hM.2.1 dX8_beginAct_57 rfl (lv_at hl 0 rfl) ?_
  refine z_get hM hW zc8 hO.1 rfl 29 (by decide) lf_X8_154 (v := .int (nI (ac + 1))) rfl dX8_beginAct_58 ?_
  refine lv_iconst (v := (-1)) hM.1 hM.2.1 dX8_beginAct_61 (by decide) ?_
  refine z_iast hM hW hS hd4_54 rfl (vin_nI (hO.l 24 (by decide) (by decide)) (by have : mlen 24 = 201 := rfl; omega) (by decide)) dX8_beginAct_62 (fun H locs hW hS => ?_)
  rw [nI_clamp (by omega)] at hW
  refine lv_aload_n hM.1 hM.2.1 dX8_beginAct_63 rfl (lv_at hl 0 rfl) ?_
  refine z_getr hM hW zc8 hO.1 rfl 25 (by decide) lf_X8_81 (t := 9) (j := 125) rfl (hO.r 25 (by decide) (by decide)) dX8_beginAct_64 (fun hd5_64 => ?_)
  refine lv_aload_n hM.1 hM.2.1 dX8_beginAct_67 rfl (lv_at hl 0 rfl) ?_
  refine z_get hM hW zc8 hO.1 rfl 29 (by decide) lf_X8_154 (v := .int (nI (ac + 1))) rfl dX8_beginAct_68 ?_
  refine lv_iconst (v := (-1)) hM.1 hM.2.1 dX8_beginAct_71 (by decide) ?_
  refine z_iast hM hW hS hd5_64 rfl (vin_nI (hO.l 25 (by decide) (by decide)) (by have : mlen 25 = 201 := rfl; omega) (by decide)) dX8_beginAct_72 (fun H locs hW hS => ?_)
  rw [nI_clamp (by omega)] at hW
  refine lv_aload_n hM.1 hM.2.1 dX8_beginAct_73 rfl (lv_at hl 0 rfl) ?_
  refine z_getr hM hW zc8 hO.1 rfl 26 (by decide) lf_X8_84 (t := 9) (j := 126) rfl (hO.r 26 (by decide) (by decide)) dX8_beginAct_74 (fun hd6_74 => ?_)
  refine lv_aload_n hM.1 hM.2.1 dX8_beginAct_77 rfl (lv_at hl 0 rfl) ?_
  refine z_get hM hW zc8 hO.1 rfl 29 (by decide) lf_X8_154 (v := .int (nI (ac + 1))) rfl dX8_beginAct_78 ?_
  refine lv_iconst (v := (-1)) hM.1 hM.2.1 dX8_beginAct_81 (by decide) ?_
  refine z_iast hM hW hS hd6_74 rfl (vin_nI (hO.l 26 (by decide) (by decide)) (by have : mlen 26 = 201 := rfl; omega) (by decide)) dX8_beginAct_82 (fun H locs hW hS => ?_)
  rw [nI_clamp (by omega)] at hW
  refine lv_aload_n hM.1 hM.2.1 dX8_beginAct_83 rfl (lv_at hl 0 rfl) ?_
  refine z_getr hM hW zc8 hO.1 rfl 27 (by decide) lf_X8_87 (t := 9) (j := 127) rfl (hO.r 27 (by decide) (by decide)) dX8_beginAct_84 (fun hd7_84 => ?_)
  refine lv_aload_n hM.1 hM.2.1 dX8_beginAct_87 rfl (lv_at hl 0 rfl) ?_
  refine z_get hM hW zc8 hO.1 rfl 29 (by decide) lf_X8_154 (v := .int (nI (ac + 1))) rfl dX8_beginAct_88 ?_
  refine lv_iload hM.1 hM.2.1 dX8_beginAct_91 (lv_at hl 4 rfl) ?_
  refine z_iast hM hW hS hd7_84 rfl (vin_nI (hO.l 27 (by decide) (by decide)) (by have : mlen 27 = 201 := rfl; omega) (by decide)) dX8_beginAct_93 (fun H locs hW hS => ?_)
  rw [nI_clamp (by omega)] at hW
  refine lv_aload_n hM.1 hM.2.1 dX8_beginAct_94 rfl (lv_at hl 0 rfl) ?_
  refine z_getr hM hW zc8 hO.1 rfl 28 (by decide) lf_X8_90 (t := 10) (j := 128) rfl (hO.r 28 (by decide) (by decide)) dX8_beginAct_95 (fun hd8_95 => ?_)
  refine lv_aload_n hM.1 hM.2.1 dX8_beginAct_98 rfl (lv_at hl 0 rfl) ?_
  refine z_get hM hW zc8 hO.1 rfl 29 (by decide) lf_X8_154 (v := .int (nI (ac + 1))) rfl dX8_beginAct_99 ?_
  refine lv_lload_n hM.1 hM.2.1 dX8_beginAct_102 rfl (lv_at hl 3 rfl) ?_
  refine z_last hM hW hS hd8_95 rfl (vin_nI (hO.l 28 (by decide) (by decide)) (by have : mlen 28 = 201 := rfl; omega) (by decide)) dX8_beginAct_103 (fun H locs hW hS => ?_)
  rw [nI_clamp (by omega)] at hW
  refine lv_aload_n hM.1 hM.2.1 dX8_beginAct_104 rfl (lv_at hl 0 rfl) ?_
  refine z_getr hM hW zc8 hO.1 rfl 11 (by decide) lf_X8_39 (t := 9) (j := 111) rfl (hO.r 11 (by decide) (by decide)) dX8_beginAct_105 (fun hd9_105 => ?_)
  refine lv_iload_n hM.1 hM.2.1 dX8_beginAct_108 rfl (lv_at hl 1 rfl) ?_
  refine lv_aload_n hM.1 hM.2.1 dX8_beginAct_109 rfl (lv_at hl 0 rfl) ?_
  refine z_get hM hW zc8 hO.1 rfl 29 (by decide) lf_X8_154 (v := .int (nI (ac + 1))) rfl dX8_beginAct_110 ?_
  refine z_iast hM hW hS hd9_105 rfl (vin_L (hO.l 11 (by decide) (by decide)) hx) dX8_beginAct_113 (fun H locs hW hS => ?_)
  refine lv_aload_n hM.1 hM.2.1 dX8_beginAct_114 rfl (lv_at hl 0 rfl) ?_
  refine z_getr hM hW zc8 hO.1 rfl 13 (by decide) lf_X8_45 (t := 9) (j := 113) rfl (hO.r 13 (by decide) (by decide)) dX8_beginAct_115 (fun hd10_115 => ?_)
  refine lv_iload_n hM.1 hM.2.1 dX8_beginAct_118 rfl (lv_at hl 1 rfl) ?_
  refine lv_iconst (v := 0) hM.1 hM.2.1 dX8_beginAct_119 (by decide) ?_
  refine z_iast hM hW hS hd10_115 rfl (vin_L (hO.l 13 (by decide) (by decide)) hx) dX8_beginAct_120 (fun H locs hW hS => ?_)
  refine lv_aload_n hM.1 hM.2.1 dX8_beginAct_121 rfl (lv_at hl 0 rfl) ?_
  refine z_getr hM hW zc8 hO.1 rfl 18 (by decide) lf_X8_60 (t := 9) (j := 118) rfl (hO.r 18 (by decide) (by decide)) dX8_beginAct_122 (fun hd11_122 => ?_)
  refine lv_iload_n hM.1 hM.2.1 dX8_beginAct_125 rfl (lv_at hl 1 rfl) ?_
  refine lv_iconst (v := 0) hM.1 hM.2.1 dX8_beginAct_126 (by decide) ?_
  refine z_iast hM hW hS hd11_122 rfl (vin_L (hO.l 18 (by decide) (by decide)) hx) dX8_beginAct_127 (fun H locs hW hS => ?_)
  refine lv_aload_n hM.1 hM.2.1 dX8_beginAct_128 rfl (lv_at hl 0 rfl) ?_
  refine z_getr hM hW zc8 hO.1 rfl 19 (by decide) lf_X8_63 (t := 9) (j := 119) rfl (hO.r 19 (by decide) (by decide)) dX8_beginAct_129 (fun hd12_129 => ?_)
  refine lv_iload_n hM.1 hM.2.1 dX8_beginAct_132 rfl (lv_at hl 1 rfl) ?_
  refine lv_iconst (v := 0) hM.1 hM.2.1 dX8_beginAct_133 (by decide) ?_
  refine z_iast hM hW hS hd12_129 rfl (vin_L (hO.l 19 (by decide) (by decide)) hx) dX8_beginAct_134 (fun H locs hW hS => ?_)
  refine lv_aload_n hM.1 hM.2.1 dX8_beginAct_135 rfl (lv_at hl 0 rfl) ?_
  refine z_getr hM hW zc8 hO.1 rfl 20 (by decide) lf_X8_66 (t := 10) (j := 120) rfl (hO.r 20 (by decide) (by decide)) dX8_beginAct_136 (fun hd13_136 => ?_)
  refine lv_iload_n hM.1 hM.2.1 dX8_beginAct_139 rfl (lv_at hl 1 rfl) ?_
  refine lv_lconst (v := 0) hM.1 hM.2.1 dX8_beginAct_140 (by decide) ?_
  refine z_last hM hW hS hd13_136 rfl (vin_L (hO.l 20 (by decide) (by decide)) hx) dX8_beginAct_141 (fun H locs hW hS => ?_)
  refine lv_iload_n hM.1 hM.2.1 dX8_beginAct_142 rfl (lv_at hl 2 rfl) ?_
  refine lv_iconst (v := 2) hM.1 hM.2.1 dX8_beginAct_143 (by decide) ?_
  refine lv_icmp_ne hM.1 hM.2.1 dX8_beginAct_144 (tgt := 155) (by decide) (fun h_144 => ?_) (fun h_144 => ?_)
  ·
    refine lv_aload_n hM.1 hM.2.1 dX8_beginAct_155 rfl (lv_at hl 0 rfl) ?_
    refine lv_iload_n hM.1 hM.2.1 dX8_beginAct_156 rfl (lv_at hl 1 rfl) ?_
    refine lv_iload_n hM.1 hM.2.1 dX8_beginAct_157 rfl (lv_at hl 2 rfl) ?_
    refine lv_iconst (v := 2) hM.1 hM.2.1 dX8_beginAct_158 (by decide) ?_
    refine lv_icmp_ne hM.1 hM.2.1 dX8_beginAct_159 (tgt := 166) (by decide) (fun _ => ?_) (fun h => absurd h h_144)
    refine lv_iconst (v := 1) hM.1 hM.2.1 dX8_beginAct_166 (by decide) ?_
    refine z_Vv hM (hml.trans hl.1.symm) hW hS hlo zc8 hO.1 rfl zyX8_beginPhase lm_X8_160 li_yX8_beginPhase le_yX8_beginPhase (As := [.int (x), .int (1)]) (rest := []) (c_X8_beginPhase hO hn h7 hx (by rw [show gi (sj (si (si (si (si (sj (si (si (si (si (si (si (si (si (si S 8 (0) (29) (nI (ac + 1))) 8 (0) (30) ((gi S 8 (0) (30)) + (1))) 9 (121) (ac + 1) (y)) 9 (122) (ac + 1) (x)) 9 (123) (ac + 1) ((gi S 8 (0) (30)) + (1))) 9 (124) (ac + 1) ((-1))) 9 (125) (ac + 1) ((-1))) 9 (126) (ac + 1) ((-1))) 9 (127) (ac + 1) (t)) 10 (128) (ac + 1) (v)) 9 (111) (ix (x)) (nI (ac + 1))) 9 (113) (ix (x)) (0)) 9 (118) (ix (x)) (0)) 9 (119) (ix (x)) (0)) 10 (120) (ix (x)) (0)) 9 111 (ix x) = nI (ac + 1) from by simp [gi_si, gi_sj]]; exact nI_in (by omega) (by decide)) h44 h45) rfl rfl (Nat.le_of_ble_eq_true rfl) ⟨Nat.le_of_ble_eq_true rfl, Nat.le_of_ble_eq_true rfl⟩ ⟨Nat.le_of_ble_eq_true rfl, Nat.le_of_ble_eq_true rfl⟩ dX8_beginAct_167 (fun H locs hW hS => ?_)
    refine lv_aload_n hM.1 hM.2.1 dX8_beginAct_170 rfl (lv_at hl 0 rfl) ?_
    refine z_get hM hW zc8 hO.1 rfl 29 (by decide) lf_X8_154 (v := .int (gi (s_X8_beginPhase (sj (si (si (si (si (sj (si (si (si (si (si (si (si (si (si S 8 (0) (29) (nI (ac + 1))) 8 (0) (30) ((gi S 8 (0) (30)) + (1))) 9 (121) (ac + 1) (y)) 9 (122) (ac + 1) (x)) 9 (123) (ac + 1) ((gi S 8 (0) (30)) + (1))) 9 (124) (ac + 1) ((-1))) 9 (125) (ac + 1) ((-1))) 9 (126) (ac + 1) ((-1))) 9 (127) (ac + 1) (t)) 10 (128) (ac + 1) (v)) 9 (111) (ix (x)) (nI (ac + 1))) 9 (113) (ix (x)) (0)) 9 (118) (ix (x)) (0)) 9 (119) (ix (x)) (0)) 10 (120) (ix (x)) (0)) n (x) (1)) 8 (0) (29))) rfl dX8_beginAct_171 ?_
    exact z_iret hM hlk hr rfl hW hS (zF.of (by unfold r_X8_beginAct; rw [pif_neg h_144]; first | done | rfl) (by unfold s_X8_beginAct; rw [pif_neg h_144]; first | done | rfl)) dX8_beginAct_174
  ·
    refine lv_aload_n hM.1 hM.2.1 dX8_beginAct_147 rfl (lv_at hl 0 rfl) ?_
    refine z_getr hM hW zc8 hO.1 rfl 15 (by decide) lf_X8_51 (t := 9) (j := 115) rfl (hO.r 15 (by decide) (by decide)) dX8_beginAct_148 (fun hd14_148 => ?_)
    refine lv_iload_n hM.1 hM.2.1 dX8_beginAct_151 rfl (lv_at hl 1 rfl) ?_
    refine lv_iload hM.1 hM.2.1 dX8_beginAct_152 (lv_at hl 4 rfl) ?_
    refine z_iast hM hW hS hd14_148 rfl (vin_L (hO.l 15 (by decide) (by decide)) hx) dX8_beginAct_154 (fun H locs hW hS => ?_)
    refine lv_aload_n hM.1 hM.2.1 dX8_beginAct_155 rfl (lv_at hl 0 rfl) ?_
    refine lv_iload_n hM.1 hM.2.1 dX8_beginAct_156 rfl (lv_at hl 1 rfl) ?_
    refine lv_iload_n hM.1 hM.2.1 dX8_beginAct_157 rfl (lv_at hl 2 rfl) ?_
    refine lv_iconst (v := 2) hM.1 hM.2.1 dX8_beginAct_158 (by decide) ?_
    refine lv_icmp_ne hM.1 hM.2.1 dX8_beginAct_159 (tgt := 166) (by decide) (fun h => absurd h_144 h) (fun _ => ?_)
    refine lv_iconst (v := 3) hM.1 hM.2.1 dX8_beginAct_162 (by decide) ?_
    refine lv_goto hM.1 hM.2.1 dX8_beginAct_163 (tgt := 167) (by decide) ?_
    refine z_Vv hM (hml.trans hl.1.symm) hW hS hlo zc8 hO.1 rfl zyX8_beginPhase lm_X8_160 li_yX8_beginPhase le_yX8_beginPhase (As := [.int (x), .int (3)]) (rest := []) (c_X8_beginPhase hO hn h7 hx (by rw [show gi (si (sj (si (si (si (si (sj (si (si (si (si (si (si (si (si (si S 8 (0) (29) (nI (ac + 1))) 8 (0) (30) ((gi S 8 (0) (30)) + (1))) 9 (121) (ac + 1) (y)) 9 (122) (ac + 1) (x)) 9 (123) (ac + 1) ((gi S 8 (0) (30)) + (1))) 9 (124) (ac + 1) ((-1))) 9 (125) (ac + 1) ((-1))) 9 (126) (ac + 1) ((-1))) 9 (127) (ac + 1) (t)) 10 (128) (ac + 1) (v)) 9 (111) (ix (x)) (nI (ac + 1))) 9 (113) (ix (x)) (0)) 9 (118) (ix (x)) (0)) 9 (119) (ix (x)) (0)) 10 (120) (ix (x)) (0)) 9 (115) (ix (x)) (t)) 9 111 (ix x) = nI (ac + 1) from by simp [gi_si, gi_sj]]; exact nI_in (by omega) (by decide)) h44 h45) rfl rfl (Nat.le_of_ble_eq_true rfl) ⟨Nat.le_of_ble_eq_true rfl, Nat.le_of_ble_eq_true rfl⟩ ⟨Nat.le_of_ble_eq_true rfl, Nat.le_of_ble_eq_true rfl⟩ dX8_beginAct_167 (fun H locs hW hS => ?_)
    refine lv_aload_n hM.1 hM.2.1 dX8_beginAct_170 rfl (lv_at hl 0 rfl) ?_
    refine z_get hM hW zc8 hO.1 rfl 29 (by decide) lf_X8_154 (v := .int (gi (s_X8_beginPhase (si (sj (si (si (si (si (sj (si (si (si (si (si (si (si (si (si S 8 (0) (29) (nI (ac + 1))) 8 (0) (30) ((gi S 8 (0) (30)) + (1))) 9 (121) (ac + 1) (y)) 9 (122) (ac + 1) (x)) 9 (123) (ac + 1) ((gi S 8 (0) (30)) + (1))) 9 (124) (ac + 1) ((-1))) 9 (125) (ac + 1) ((-1))) 9 (126) (ac + 1) ((-1))) 9 (127) (ac + 1) (t)) 10 (128) (ac + 1) (v)) 9 (111) (ix (x)) (nI (ac + 1))) 9 (113) (ix (x)) (0)) 9 (118) (ix (x)) (0)) 9 (119) (ix (x)) (0)) 10 (120) (ix (x)) (0)) 9 (115) (ix (x)) (t)) n (x) (3)) 8 (0) (29))) rfl dX8_beginAct_171 ?_
    exact z_iret hM hlk hr rfl hW hS (zF.of (by unfold r_X8_beginAct; rw [pif_pos h_144]; first | done | rfl) (by unfold s_X8_beginAct; rw [pif_pos h_144]; first | done | rfl)) dX8_beginAct_174
