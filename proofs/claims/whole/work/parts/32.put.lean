theorem vin_L {x : Int32} {L N : Nat} (hL : L = N) (h : vp_in x N) : vp_in x L := by rw [hL]; exact h
theorem mput {cn : Nat} (h : ¬ nI cn = 300) (hcm : cn ≤ 300) : cn < 300 := by
  rcases Nat.lt_or_eq_of_le hcm with q | q
  · exact q
  · subst q; exact absurd rfl h
noncomputable def s_X8_put (S : zS) (cn : Nat) (x1 x2 x3 x4 x5 x6 x7 x8 : Int32) (v : Int64) (x9 x10 x11 : Int32) : zS := 
  (pif ((nI cn) = (300)) ((si S 8 (0) (31) ((gi S 8 (0) (31)) + (1)))) ((si (si (si (si (sj (si (si (si (si (si (si (si (si S 11 (132) (cn) (x1)) 9 (133) (cn) (x2)) 9 (134) (cn) (x3)) 9 (135) (cn) (x4)) 9 (136) (cn) (x5)) 9 (137) (cn) (x6)) 9 (138) (cn) (x7)) 9 (139) (cn) (x8)) 10 (143) (cn) (v)) 9 (140) (cn) (x9)) 9 (141) (cn) (x10)) 9 (142) (cn) (x11)) 8 (0) (44) (nI (cn + 1)))))
theorem k_X8_put {S : zS} {cn : Nat} {x1 x2 x3 x4 x5 x6 x7 x8 : Int32} {v : Int64} {x9 x10 x11 : Int32} : (s_X8_put S cn x1 x2 x3 x4 x5 x6 x7 x8 v x9 x10 x11).2.2 = S.2.2 := by unfold s_X8_put; simp only [pif_22, oel_22, k_si, k_sj, pif_same, oel_same, k_X6_set, k_X6_put, k_X0_showTag, k_X4_repeat, k_X7_sendRequest, k_X7_sendRequests, k_X7_beginPhase, k_X7_endPhase, k_X7_again, k_X3_obey, k_X7_serve, k_X7_twice, k_X2_learn, k_X8_votes, k_X8_silent, k_X8_side]
set_option maxHeartbeats 400000 in
set_option maxRecDepth 100000 in
theorem c_X8_put {l : Launch} {D : va_G} {ar : Nat → ClassId} {A : Nat → Prop} {Z : zZ} {S : zS} {cn : Nat} {x1 x2 x3 x4 x5 x6 x7 x8 : Int32} {v : Int64} {x9 x10 x11 : Int32} (hO : mOK Z S.2.2) (hcn : gi S 8 0 44 = nI cn) (hcm : cn ≤ 300) (hb : isB x1) : zMet l yX8_put prog_10_method_5_code 14 none ({ frames := 0, cells := 0, slots := 0, locals := 0 } : Room) D ar A Z S [.ref (Z.1 8 (0)), .int (x1), .int (x2), .int (x3), .int (x4), .int (x5), .int (x6), .int (x7), .int (x8), .long (v), .int (x9), .int (x10), .int (x11)] rvV (zF () Z (s_X8_put S cn x1 x2 x3 x4 x5 x6 x7 x8 v x9 x10 x11)) := by
  refine z_body (by decide +kernel) (Nat.le_of_ble_eq_true rfl) ?_
  intro pX eX sX mX bX methX cX ls hM hr hlk hml hin hl hW hlo
  have hM : zM pX cX mX _ sX prog_10_method_5_code RX8 D ar := hM
  have hS : va_S A sX.heap sX.heap [] := va_S.rf
  have hl : lv_has ls 14 [(0, .ref (Z.1 8 (0))), (1, .int (x1)), (2, .int (x2)), (3, .int (x3)), (4, .int (x4)), (5, .int (x5)), (6, .int (x6)), (7, .int (x7)), (8, .int (x8)), (9, .long (v)), (11, .int (x9)), (12, .int (x10)), (13, .int (x11))] := hl
  refine lv_aload_n hM.1 hM.2.1 dX8_put_0 rfl (lv_at hl 0 rfl) ?_
  refine z_get hM hW zc8 hO.1 rfl 44 (by decide) lf_X8_140 (v := .int (nI cn)) (congrArg Value.int (show gi S 8 (0) (44) = nI cn from hcn)) dX8_put_1 ?_
  refine lv_sipush (v := 300) hM.1 hM.2.1 dX8_put_4 (by decide) ?_
  refine lv_icmp_ne hM.1 hM.2.1 dX8_put_7 (tgt := 21) (by decide) (fun h_7 => ?_) (fun h_7 => ?_)
  ·
    refine lv_aload_n hM.1 hM.2.1 dX8_put_21 rfl (lv_at hl 0 rfl) ?_
    refine z_getr hM hW zc8 hO.1 rfl 32 (by decide) lf_X8_93 (t := 11) (j := 132) rfl (hO.r 32 (by decide) (by decide)) dX8_put_22 (fun hd1_22 => ?_)
    refine lv_aload_n hM.1 hM.2.1 dX8_put_25 rfl (lv_at hl 0 rfl) ?_
    refine z_get hM hW zc8 hO.1 rfl 44 (by decide) lf_X8_140 (v := .int (nI cn)) (congrArg Value.int (show gi S 8 (0) (44) = nI cn from hcn)) dX8_put_26 ?_
    refine lv_iload_n hM.1 hM.2.1 dX8_put_29 rfl (lv_at hl 1 rfl) ?_
    refine z_zast hM hW hS hd1_22 rfl (vin_nI (hO.l 32 (by decide) (by decide)) (mput h_7 hcm) (by decide)) (narrow_isB hb) dX8_put_30 (fun H locs hW hS => ?_)
    rw [nI_clamp (by omega)] at hW
    refine lv_aload_n hM.1 hM.2.1 dX8_put_31 rfl (lv_at hl 0 rfl) ?_
    refine z_getr hM hW zc8 hO.1 rfl 33 (by decide) lf_X8_96 (t := 9) (j := 133) rfl (hO.r 33 (by decide) (by decide)) dX8_put_32 (fun hd2_32 => ?_)
    refine lv_aload_n hM.1 hM.2.1 dX8_put_35 rfl (lv_at hl 0 rfl) ?_
    refine z_get hM hW zc8 hO.1 rfl 44 (by decide) lf_X8_140 (v := .int (nI cn)) (congrArg Value.int (show gi (si S 11 (132) (cn) (x1)) 8 (0) (44) = nI cn from hcn)) dX8_put_36 ?_
    refine lv_iload_n hM.1 hM.2.1 dX8_put_39 rfl (lv_at hl 2 rfl) ?_
    refine z_iast hM hW hS hd2_32 rfl (vin_nI (hO.l 33 (by decide) (by decide)) (mput h_7 hcm) (by decide)) dX8_put_40 (fun H locs hW hS => ?_)
    rw [nI_clamp (by omega)] at hW
    refine lv_aload_n hM.1 hM.2.1 dX8_put_41 rfl (lv_at hl 0 rfl) ?_
    refine z_getr hM hW zc8 hO.1 rfl 34 (by decide) lf_X8_99 (t := 9) (j := 134) rfl (hO.r 34 (by decide) (by decide)) dX8_put_42 (fun hd3_42 => ?_)
    refine lv_aload_n hM.1 hM.2.1 dX8_put_45 rfl (lv_at hl 0 rfl) ?_
    refine z_get hM hW zc8 hO.1 rfl 44 (by decide) lf_X8_140 (v := .int (nI cn)) (congrArg Value.int (show gi (si (si S 11 (132) (cn) (x1)) 9 (133) (cn) (x2)) 8 (0) (44) = nI cn from hcn)) dX8_put_46 ?_
    refine lv_iload_n hM.1 hM.2.1 dX8_put_49 rfl (lv_at hl 3 rfl) ?_
    refine z_iast hM hW hS hd3_42 rfl (vin_nI (hO.l 34 (by decide) (by decide)) (mput h_7 hcm) (by decide)) dX8_put_50 (fun H locs hW hS => ?_)
    rw [nI_clamp (by omega)] at hW
    refine lv_aload_n hM.1 hM.2.1 dX8_put_51 rfl (lv_at hl 0 rfl) ?_
    refine z_getr hM hW zc8 hO.1 rfl 35 (by decide) lf_X8_102 (t := 9) (j := 135) rfl (hO.r 35 (by decide) (by decide)) dX8_put_52 (fun hd4_52 => ?_)
    refine lv_aload_n hM.1 hM.2.1 dX8_put_55 rfl (lv_at hl 0 rfl) ?_
    refine z_get hM hW zc8 hO.1 rfl 44 (by decide) lf_X8_140 (v := .int (nI cn)) (congrArg Value.int (show gi (si (si (si S 11 (132) (cn) (x1)) 9 (133) (cn) (x2)) 9 (134) (cn) (x3)) 8 (0) (44) = nI cn from hcn)) dX8_put_56 ?_
    refine lv_iload hM.1 hM.2.1 dX8_put_59 (lv_at hl 4 rfl) ?_
    refine z_iast hM hW hS hd4_52 rfl (vin_nI (hO.l 35 (by decide) (by decide)) (mput h_7 hcm) (by decide)) dX8_put_61 (fun H locs hW hS => ?_)
    rw [nI_clamp (by omega)] at hW
    refine lv_aload_n hM.1 hM.2.1 dX8_put_62 rfl (lv_at hl 0 rfl) ?_
    refine z_getr hM hW zc8 hO.1 rfl 36 (by decide) lf_X8_105 (t := 9) (j := 136) rfl (hO.r 36 (by decide) (by decide)) dX8_put_63 (fun hd5_63 => ?_)
    refine lv_aload_n hM.1 hM.2.1 dX8_put_66 rfl (lv_at hl 0 rfl) ?_
    refine z_get hM hW zc8 hO.1 rfl 44 (by decide) lf_X8_140 (v := .int (nI cn)) (congrArg Value.int (show gi (si (si (si (si S 11 (132) (cn) (x1)) 9 (133) (cn) (x2)) 9 (134) (cn) (x3)) 9 (135) (cn) (x4)) 8 (0) (44) = nI cn from hcn)) dX8_put_67 ?_
    refine lv_iload hM.1 hM.2.1 dX8_put_70 (lv_at hl 5 rfl) ?_
    refine z_iast hM hW hS hd5_63 rfl (vin_nI (hO.l 36 (by decide) (by decide)) (mput h_7 hcm) (by decide)) dX8_put_72 (fun H locs hW hS => ?_)
    rw [nI_clamp (by omega)] at hW
    refine lv_aload_n hM.1 hM.2.1 dX8_put_73 rfl (lv_at hl 0 rfl) ?_
    refine z_getr hM hW zc8 hO.1 rfl 37 (by decide) lf_X8_108 (t := 9) (j := 137) rfl (hO.r 37 (by decide) (by decide)) dX8_put_74 (fun hd6_74 => ?_)
    refine lv_aload_n hM.1 hM.2.1 dX8_put_77 rfl (lv_at hl 0 rfl) ?_
    refine z_get hM hW zc8 hO.1 rfl 44 (by decide) lf_X8_140 (v := .int (nI cn)) (congrArg Value.int (show gi (si (si (si (si (si S 11 (132) (cn) (x1)) 9 (133) (cn) (x2)) 9 (134) (cn) (x3)) 9 (135) (cn) (x4)) 9 (136) (cn) (x5)) 8 (0) (44) = nI cn from hcn)) dX8_put_78 ?_
    refine lv_iload hM.1 hM.2.1 dX8_put_81 (lv_at hl 6 rfl) ?_
    refine z_iast hM hW hS hd6_74 rfl (vin_nI (hO.l 37 (by decide) (by decide)) (mput h_7 hcm) (by decide)) dX8_put_83 (fun H locs hW hS => ?_)
    rw [nI_clamp (by omega)] at hW
    refine lv_aload_n hM.1 hM.2.1 dX8_put_84 rfl (lv_at hl 0 rfl) ?_
    refine z_getr hM hW zc8 hO.1 rfl 38 (by decide) lf_X8_111 (t := 9) (j := 138) rfl (hO.r 38 (by decide) (by decide)) dX8_put_85 (fun hd7_85 => ?_)
    refine lv_aload_n hM.1 hM.2.1 dX8_put_88 rfl (lv_at hl 0 rfl) ?_
    refine z_get hM hW zc8 hO.1 rfl 44 (by decide) lf_X8_140 (v := .int (nI cn)) (congrArg Value.int (show gi (si (si (si (si (si (si S 11 (132) (cn) (x1)) 9 (133) (cn) (x2)) 9 (134) (cn) (x3)) 9 (135) (cn) (x4)) 9 (136) (cn) (x5)) 9 (137) (cn) (x6)) 8 (0) (44) = nI cn from hcn)) dX8_put_89 ?_
    refine lv_iload hM.1 hM.2.1 dX8_put_92 (lv_at hl 7 rfl) ?_
    refine z_iast hM hW hS hd7_85 rfl (vin_nI (hO.l 38 (by decide) (by decide)) (mput h_7 hcm) (by decide)) dX8_put_94 (fun H locs hW hS => ?_)
    rw [nI_clamp (by omega)] at hW
    refine lv_aload_n hM.1 hM.2.1 dX8_put_95 rfl (lv_at hl 0 rfl) ?_
    refine z_getr hM hW zc8 hO.1 rfl 39 (by decide) lf_X8_114 (t := 9) (j := 139) rfl (hO.r 39 (by decide) (by decide)) dX8_put_96 (fun hd8_96 => ?_)
    refine lv_aload_n hM.1 hM.2.1 dX8_put_99 rfl (lv_at hl 0 rfl) ?_
    refine z_get hM hW zc8 hO.1 rfl 44 (by decide) lf_X8_140 (v := .int (nI cn)) (congrArg Value.int (show gi (si (si (si (si (si (si (si S 11 (132) (cn) (x1)) 9 (133) (cn) (x2)) 9 (134) (cn) (x3)) 9 (135) (cn) (x4)) 9 (136) (cn) (x5)) 9 (137) (cn) (x6)) 9 (138) (cn) (x7)) 8 (0) (44) = nI cn from hcn)) dX8_put_100 ?_
    refine lv_iload hM.1 hM.2.1 dX8_put_103 (lv_at hl 8 rfl) ?_
    refine z_iast hM hW hS hd8_96 rfl (vin_nI (hO.l 39 (by decide) (by decide)) (mput h_7 hcm) (by decide)) dX8_put_105 (fun H locs hW hS => ?_)
    rw [nI_clamp (by omega)] at hW
    refine lv_aload_n hM.1 hM.2.1 dX8_put_106 rfl (lv_at hl 0 rfl) ?_
    refine z_getr hM hW zc8 hO.1 rfl 43 (by decide) lf_X8_126 (t := 10) (j := 143) rfl (hO.r 43 (by decide) (by decide)) dX8_put_107 (fun hd9_107 => ?_)
    refine lv_aload_n hM.1 hM.2.1 dX8_put_110 rfl (lv_at hl 0 rfl) ?_
    refine z_get hM hW zc8 hO.1 rfl 44 (by decide) lf_X8_140 (v := .int (nI cn)) (congrArg Value.int (show gi (si (si (si (si (si (si (si (si S 11 (132) (cn) (x1)) 9 (133) (cn) (x2)) 9 (134) (cn) (x3)) 9 (135) (cn) (x4)) 9 (136) (cn) (x5)) 9 (137) (cn) (x6)) 9 (138) (cn) (x7)) 9 (139) (cn) (x8)) 8 (0) (44) = nI cn from hcn)) dX8_put_111 ?_
    refine lv_lload hM.1 hM.2.1 dX8_put_114 (lv_at hl 9 rfl) ?_
    refine z_last hM hW hS hd9_107 rfl (vin_nI (hO.l 43 (by decide) (by decide)) (mput h_7 hcm) (by decide)) dX8_put_116 (fun H locs hW hS => ?_)
    rw [nI_clamp (by omega)] at hW
    refine lv_aload_n hM.1 hM.2.1 dX8_put_117 rfl (lv_at hl 0 rfl) ?_
    refine z_getr hM hW zc8 hO.1 rfl 40 (by decide) lf_X8_117 (t := 9) (j := 140) rfl (hO.r 40 (by decide) (by decide)) dX8_put_118 (fun hd10_118 => ?_)
    refine lv_aload_n hM.1 hM.2.1 dX8_put_121 rfl (lv_at hl 0 rfl) ?_
    refine z_get hM hW zc8 hO.1 rfl 44 (by decide) lf_X8_140 (v := .int (nI cn)) (congrArg Value.int (show gi (sj (si (si (si (si (si (si (si (si S 11 (132) (cn) (x1)) 9 (133) (cn) (x2)) 9 (134) (cn) (x3)) 9 (135) (cn) (x4)) 9 (136) (cn) (x5)) 9 (137) (cn) (x6)) 9 (138) (cn) (x7)) 9 (139) (cn) (x8)) 10 (143) (cn) (v)) 8 (0) (44) = nI cn from hcn)) dX8_put_122 ?_
    refine lv_iload hM.1 hM.2.1 dX8_put_125 (lv_at hl 10 rfl) ?_
    refine z_iast hM hW hS hd10_118 rfl (vin_nI (hO.l 40 (by decide) (by decide)) (mput h_7 hcm) (by decide)) dX8_put_127 (fun H locs hW hS => ?_)
    rw [nI_clamp (by omega)] at hW
    refine lv_aload_n hM.1 hM.2.1 dX8_put_128 rfl (lv_at hl 0 rfl) ?_
    refine z_getr hM hW zc8 hO.1 rfl 41 (by decide) lf_X8_120 (t := 9) (j := 141) rfl (hO.r 41 (by decide) (by decide)) dX8_put_129 (fun hd11_129 => ?_)
    refine lv_aload_n hM.1 hM.2.1 dX8_put_132 rfl (lv_at hl 0 rfl) ?_
    refine z_get hM hW zc8 hO.1 rfl 44 (by decide) lf_X8_140 (v := .int (nI cn)) (congrArg Value.int (show gi (si (sj (si (si (si (si (si (si (si (si S 11 (132) (cn) (x1)) 9 (133) (cn) (x2)) 9 (134) (cn) (x3)) 9 (135) (cn) (x4)) 9 (136) (cn) (x5)) 9 (137) (cn) (x6)) 9 (138) (cn) (x7)) 9 (139) (cn) (x8)) 10 (143) (cn) (v)) 9 (140) (cn) (x9)) 8 (0) (44) = nI cn from hcn)) dX8_put_133 ?_
    refine lv_iload hM.1 hM.2.1 dX8_put_136 (lv_at hl 11 rfl) ?_
    refine z_iast hM hW hS hd11_129 rfl (vin_nI (hO.l 41 (by decide) (by decide)) (mput h_7 hcm) (by decide)) dX8_put_138 (fun H locs hW hS => ?_)
    rw [nI_clamp (by omega)] at hW
    refine lv_aload_n hM.1 hM.2.1 dX8_put_139 rfl (lv_at hl 0 rfl) ?_
    refine z_getr hM hW zc8 hO.1 rfl 42 (by decide) lf_X8_123 (t := 9) (j := 142) rfl (hO.r 42 (by decide) (by decide)) dX8_put_140 (fun hd12_140 => ?_)
    refine lv_aload_n hM.1 hM.2.1 dX8_put_143 rfl (lv_at hl 0 rfl) ?_
    refine z_get hM hW zc8 hO.1 rfl 44 (by decide) lf_X8_140 (v := .int (nI cn)) (congrArg Value.int (show gi (si (si (sj (si (si (si (si (si (si (si (si S 11 (132) (cn) (x1)) 9 (133) (cn) (x2)) 9 (134) (cn) (x3)) 9 (135) (cn) (x4)) 9 (136) (cn) (x5)) 9 (137) (cn) (x6)) 9 (138) (cn) (x7)) 9 (139) (cn) (x8)) 10 (143) (cn) (v)) 9 (140) (cn) (x9)) 9 (141) (cn) (x10)) 8 (0) (44) = nI cn from hcn)) dX8_put_144 ?_
    refine lv_iload hM.1 hM.2.1 dX8_put_147 (lv_at hl 12 rfl) ?_
    refine z_iast hM hW hS hd12_140 rfl (vin_nI (hO.l 42 (by decide) (by decide)) (mput h_7 hcm) (by decide)) dX8_put_149 (fun H locs hW hS => ?_)
    rw [nI_clamp (by omega)] at hW
    refine lv_aload_n hM.1 hM.2.1 dX8_put_150 rfl (lv_at hl 0 rfl) ?_
    refine lv_dup hM.1 hM.2.1 dX8_put_151 rfl ?_
    refine z_get hM hW zc8 hO.1 rfl 44 (by decide) lf_X8_140 (v := .int (nI cn)) (congrArg Value.int (show gi (si (si (si (sj (si (si (si (si (si (si (si (si S 11 (132) (cn) (x1)) 9 (133) (cn) (x2)) 9 (134) (cn) (x3)) 9 (135) (cn) (x4)) 9 (136) (cn) (x5)) 9 (137) (cn) (x6)) 9 (138) (cn) (x7)) 9 (139) (cn) (x8)) 10 (143) (cn) (v)) 9 (140) (cn) (x9)) 9 (141) (cn) (x10)) 9 (142) (cn) (x11)) 8 (0) (44) = nI cn from hcn)) dX8_put_152 ?_
    refine lv_iconst (v := 1) hM.1 hM.2.1 dX8_put_155 (by decide) ?_
    refine lv_iadd hM.1 hM.2.1 dX8_put_156 ?_
    rw [← nI_succ]
    refine z_puti hM hW hS zc8 hO.1 rfl 44 (by decide) rfl lf_X8_140 (Or.inl rfl) (tyX8 44) (tyX8_ok 44 (by decide)) rfl rfl dX8_put_157 (fun H locs hW hS => ?_)
    exact z_vret hM hlk hr hW hS (zF.of rfl (by unfold s_X8_put; rw [pif_neg h_7]; first | done | rfl)) dX8_put_160
  ·
    refine lv_aload_n hM.1 hM.2.1 dX8_put_10 rfl (lv_at hl 0 rfl) ?_
    refine lv_dup hM.1 hM.2.1 dX8_put_11 rfl ?_
    refine z_get hM hW zc8 hO.1 rfl 31 (by decide) lf_X8_143 (v := .int (gi S 8 (0) (31))) rfl dX8_put_12 ?_
    refine lv_iconst (v := 1) hM.1 hM.2.1 dX8_put_15 (by decide) ?_
    refine lv_iadd hM.1 hM.2.1 dX8_put_16 ?_
    refine z_puti hM hW hS zc8 hO.1 rfl 31 (by decide) rfl lf_X8_143 (Or.inl rfl) (tyX8 31) (tyX8_ok 31 (by decide)) rfl rfl dX8_put_17 (fun H locs hW hS => ?_)
    exact z_vret hM hlk hr hW hS (zF.of rfl (by unfold s_X8_put; rw [pif_pos h_7]; first | done | rfl)) dX8_put_20

noncomputable def s_X8_ask (S : zS) (cn : Nat) (x y : Int32) : zS := 
  (pif ((gi S 9 (112) (ix (x))) = (2)) 
    (pif ((gi S 9 (121) (ix (gi S 9 (111) (ix (x))))) = (1)) ((s_X8_put S cn (0) (y) (x) (gi S 9 (111) (ix (x))) (gi S 9 (112) (ix (x))) (gi S 9 (113) (ix (x))) (gi S 9 (125) (ix (gi S 9 (111) (ix (x))))) (gi S 9 (126) (ix (gi S 9 (111) (ix (x))))) (gj S 10 (128) (ix (gi S 9 (111) (ix (x))))) ((-1)) (0) (0))) ((s_X8_put S cn (0) (y) (x) (gi S 9 (111) (ix (x))) (gi S 9 (112) (ix (x))) (gi S 9 (113) (ix (x))) (gi S 9 (118) (ix (x))) (gi S 9 (119) (ix (x))) (gj S 10 (120) (ix (x))) ((-1)) (0) (0)))) 
    (pif ((gi S 9 (112) (ix (x))) = (4)) ((s_X8_put S cn (0) (y) (x) (gi S 9 (111) (ix (x))) (gi S 9 (112) (ix (x))) (gi S 9 (113) (ix (x))) (gi S 9 (118) (ix (x))) (gi S 9 (119) (ix (x))) (gj S 10 (120) (ix (x))) ((-1)) (0) (0))) 
      (pif ((gi S 9 (112) (ix (x))) = (3)) ((s_X8_put S cn (0) (y) (x) (gi S 9 (111) (ix (x))) (gi S 9 (112) (ix (x))) (gi S 9 (113) (ix (x))) (0) (0) (0) (gi S 9 (127) (ix (gi S 9 (111) (ix (x))))) (0) (0))) 
        (pif ((gi S 9 (112) (ix (x))) = (5)) ((s_X8_put S cn (0) (y) (x) (gi S 9 (111) (ix (x))) (gi S 9 (112) (ix (x))) (gi S 9 (113) (ix (x))) (0) (0) (0) (gi S 9 (127) (ix (gi S 9 (111) (ix (x))))) (0) (0))) ((s_X8_put S cn (0) (y) (x) (gi S 9 (111) (ix (x))) (gi S 9 (112) (ix (x))) (gi S 9 (113) (ix (x))) (0) (0) (0) ((-1)) (0) (0)))))))
theorem k_X8_ask {S : zS} {cn : Nat} {x y : Int32} : (s_X8_ask S cn x y).2.2 = S.2.2 := by unfold s_X8_ask; simp only [pif_22, oel_22, k_si, k_sj, pif_same, oel_same, k_X6_set, k_X6_put, k_X0_showTag, k_X4_repeat, k_X7_sendRequest, k_X7_sendRequests, k_X7_beginPhase, k_X7_endPhase, k_X7_again, k_X3_obey, k_X7_serve, k_X7_twice, k_X2_learn, k_X8_votes, k_X8_silent, k_X8_side, k_X8_put]
set_option maxHeartbeats 400000 in
set_option maxRecDepth 100000 in
theorem c_X8_ask {l : Launch} {D : va_G} {ar : Nat → ClassId} {A : Nat → Prop} {Z : zZ} {S : zS} {cn : Nat} {x y : Int32} (hO : mOK Z S.2.2) (hcn : gi S 8 0 44 = nI cn) (hcm : cn ≤ 300) (hx : vp_in x 4) (hd : vp_in (gi S 9 111 (ix x)) 201) : zMet l yX8_ask prog_10_method_7_code 10 none ({ frames := 1, cells := 0, slots := 0, locals := 33 } : Room) D ar A Z S [.ref (Z.1 8 (0)), .int (x), .int (y)] rvV (zF () Z (s_X8_ask S cn x y)) := by
  refine z_body (by decide +kernel) (Nat.le_of_ble_eq_true rfl) ?_
  intro pX eX sX mX bX methX cX ls hM hr hlk hml hin hl hW hlo
  have hM : zM pX cX mX _ sX prog_10_method_7_code RX8 D ar := hM
  have hS : va_S A sX.heap sX.heap [] := va_S.rf
  have hl : lv_has ls 10 [(0, .ref (Z.1 8 (0))), (1, .int (x)), (2, .int (y))] := hl
  refine lv_aload_n hM.1 hM.2.1 dX8_ask_0 rfl (lv_at hl 0 rfl) ?_
  refine z_getr hM hW zc8 hO.1 rfl 11 (by decide) lf_X8_39 (t := 9) (j := 111) rfl (hO.r 11 (by decide) (by decide)) dX8_ask_1 (fun hd1_1 => ?_)
  refine lv_iload_n hM.1 hM.2.1 dX8_ask_4 rfl (lv_at hl 1 rfl) ?_
  refine z_iald hM hW hd1_1 rfl (vin_L (hO.l 11 (by decide) (by decide)) hx) (v := gi S 9 (111) (ix (x))) rfl dX8_ask_5 ?_
  refine lv_istore_n hM.1 hM.2.1 dX8_ask_6 rfl hl (by decide) (lv' := [(3, .int (gi S 9 (111) (ix (x)))), (0, .ref (Z.1 8 (0))), (1, .int (x)), (2, .int (y))]) rfl (fun ls hl => ?_)
  refine lv_aload_n hM.1 hM.2.1 dX8_ask_7 rfl (lv_at hl 1 rfl) ?_
  refine z_getr hM hW zc8 hO.1 rfl 12 (by decide) lf_X8_42 (t := 9) (j := 112) rfl (hO.r 12 (by decide) (by decide)) dX8_ask_8 (fun hd2_8 => ?_)
  refine lv_iload_n hM.1 hM.2.1 dX8_ask_11 rfl (lv_at hl 2 rfl) ?_
  refine z_iald hM hW hd2_8 rfl (vin_L (hO.l 12 (by decide) (by decide)) hx) (v := gi S 9 (112) (ix (x))) rfl dX8_ask_12 ?_
  refine lv_iconst (v := 2) hM.1 hM.2.1 dX8_ask_13 (by decide) ?_
  refine lv_icmp_eq hM.1 hM.2.1 dX8_ask_14 (tgt := 27) (by decide) (fun h_14 => ?_) (fun h_14 => ?_)
  ·
    refine lv_iconst (v := 1) hM.1 hM.2.1 dX8_ask_27 (by decide) ?_
    refine lv_goto hM.1 hM.2.1 dX8_ask_28 (tgt := 32) (by decide) ?_
    refine lv_istore hM.1 hM.2.1 dX8_ask_32 hl (by decide) (lv' := [(4, .int (1)), (3, .int (gi S 9 (111) (ix (x)))), (0, .ref (Z.1 8 (0))), (1, .int (x)), (2, .int (y))]) rfl (fun ls hl => ?_)
    refine lv_aload_n hM.1 hM.2.1 dX8_ask_34 rfl (lv_at hl 2 rfl) ?_
    refine z_getr hM hW zc8 hO.1 rfl 12 (by decide) lf_X8_42 (t := 9) (j := 112) rfl (hO.r 12 (by decide) (by decide)) dX8_ask_35 (fun hd3_35 => ?_)
    refine lv_iload_n hM.1 hM.2.1 dX8_ask_38 rfl (lv_at hl 3 rfl) ?_
    refine z_iald hM hW hd3_35 rfl (vin_L (hO.l 12 (by decide) (by decide)) hx) (v := gi S 9 (112) (ix (x))) rfl dX8_ask_39 ?_
    refine lv_iconst (v := 2) hM.1 hM.2.1 dX8_ask_40 (by decide) ?_
    refine lv_icmp_ne hM.1 hM.2.1 dX8_ask_41 (tgt := 58) (by decide) (fun h => absurd h_14 h) (fun _ => ?_)
    refine lv_aload_n hM.1 hM.2.1 dX8_ask_44 rfl (lv_at hl 2 rfl) ?_
    refine z_getr hM hW zc8 hO.1 rfl 21 (by decide) lf_X8_69 (t := 9) (j := 121) rfl (hO.r 21 (by decide) (by decide)) dX8_ask_45 (fun hd4_45 => ?_)
    refine lv_iload_n hM.1 hM.2.1 dX8_ask_48 rfl (lv_at hl 1 rfl) ?_
    refine z_iald hM hW hd4_45 rfl (vin_L (hO.l 21 (by decide) (by decide)) hd) (v := gi S 9 (121) (ix (gi S 9 (111) (ix (x))))) rfl dX8_ask_49 ?_
    refine lv_iconst (v := 1) hM.1 hM.2.1 dX8_ask_50 (by decide) ?_
    refine lv_icmp_ne hM.1 hM.2.1 dX8_ask_51 (tgt := 58) (by decide) (fun h_51 => ?_) (fun h_51 => ?_)
    ·
      refine lv_iconst (v := 0) hM.1 hM.2.1 dX8_ask_58 (by decide) ?_
      refine lv_istore hM.1 hM.2.1 dX8_ask_59 hl (by decide) (lv' := [(5, .int (0)), (4, .int (1)), (3, .int (gi S 9 (111) (ix (x)))), (0, .ref (Z.1 8 (0))), (1, .int (x)), (2, .int (y))]) rfl (fun ls hl => ?_)
      refine lv_iload hM.1 hM.2.1 dX8_ask_61 (lv_at hl 1 rfl) ?_
      refine lv_if_ne hM.1 hM.2.1 dX8_ask_63 (tgt := 70) (by decide) (fun _ => ?_) (fun h => absurd h (by decide))
      refine lv_iload hM.1 hM.2.1 dX8_ask_70 (lv_at hl 0 rfl) ?_
      refine lv_if_eq hM.1 hM.2.1 dX8_ask_72 (tgt := 84) (by decide) (fun _ => ?_) (fun h => absurd (by decide) h)
      refine lv_aload_n hM.1 hM.2.1 dX8_ask_84 rfl (lv_at hl 3 rfl) ?_
      refine z_getr hM hW zc8 hO.1 rfl 18 (by decide) lf_X8_60 (t := 9) (j := 118) rfl (hO.r 18 (by decide) (by decide)) dX8_ask_85 (fun hd5_85 => ?_)
      refine lv_iload_n hM.1 hM.2.1 dX8_ask_88 rfl (lv_at hl 4 rfl) ?_
      refine z_iald hM hW hd5_85 rfl (vin_L (hO.l 18 (by decide) (by decide)) hx) (v := gi S 9 (118) (ix (x))) rfl dX8_ask_89 ?_
      refine lv_istore hM.1 hM.2.1 dX8_ask_90 hl (by decide) (lv' := [(6, .int (gi S 9 (118) (ix (x)))), (5, .int (0)), (4, .int (1)), (3, .int (gi S 9 (111) (ix (x)))), (0, .ref (Z.1 8 (0))), (1, .int (x)), (2, .int (y))]) rfl (fun ls hl => ?_)
      refine lv_iload hM.1 hM.2.1 dX8_ask_92 (lv_at hl 2 rfl) ?_
      refine lv_if_ne hM.1 hM.2.1 dX8_ask_94 (tgt := 101) (by decide) (fun _ => ?_) (fun h => absurd h (by decide))
      refine lv_iload hM.1 hM.2.1 dX8_ask_101 (lv_at hl 1 rfl) ?_
      refine lv_if_eq hM.1 hM.2.1 dX8_ask_103 (tgt := 115) (by decide) (fun _ => ?_) (fun h => absurd (by decide) h)
      refine lv_aload_n hM.1 hM.2.1 dX8_ask_115 rfl (lv_at hl 4 rfl) ?_
      refine z_getr hM hW zc8 hO.1 rfl 19 (by decide) lf_X8_63 (t := 9) (j := 119) rfl (hO.r 19 (by decide) (by decide)) dX8_ask_116 (fun hd6_116 => ?_)
      refine lv_iload_n hM.1 hM.2.1 dX8_ask_119 rfl (lv_at hl 5 rfl) ?_
      refine z_iald hM hW hd6_116 rfl (vin_L (hO.l 19 (by decide) (by decide)) hx) (v := gi S 9 (119) (ix (x))) rfl dX8_ask_120 ?_
      refine lv_istore hM.1 hM.2.1 dX8_ask_121 hl (by decide) (lv' := [(7, .int (gi S 9 (119) (ix (x)))), (6, .int (gi S 9 (118) (ix (x)))), (5, .int (0)), (4, .int (1)), (3, .int (gi S 9 (111) (ix (x)))), (0, .ref (Z.1 8 (0))), (1, .int (x)), (2, .int (y))]) rfl (fun ls hl => ?_)
      refine lv_iload hM.1 hM.2.1 dX8_ask_123 (lv_at hl 3 rfl) ?_
      refine lv_if_ne hM.1 hM.2.1 dX8_ask_125 (tgt := 132) (by decide) (fun _ => ?_) (fun h => absurd h (by decide))
      refine lv_iload hM.1 hM.2.1 dX8_ask_132 (lv_at hl 2 rfl) ?_
      refine lv_if_eq hM.1 hM.2.1 dX8_ask_134 (tgt := 146) (by decide) (fun _ => ?_) (fun h => absurd (by decide) h)
      refine lv_aload_n hM.1 hM.2.1 dX8_ask_146 rfl (lv_at hl 5 rfl) ?_
      refine z_getr hM hW zc8 hO.1 rfl 20 (by decide) lf_X8_66 (t := 10) (j := 120) rfl (hO.r 20 (by decide) (by decide)) dX8_ask_147 (fun hd7_147 => ?_)
      refine lv_iload_n hM.1 hM.2.1 dX8_ask_150 rfl (lv_at hl 6 rfl) ?_
      refine z_lald hM hW hd7_147 rfl (vin_L (hO.l 20 (by decide) (by decide)) hx) (v := gj S 10 (120) (ix (x))) rfl dX8_ask_151 ?_
      refine lv_lstore hM.1 hM.2.1 dX8_ask_152 hl (by decide) (lv' := [(8, .long (gj S 10 (120) (ix (x)))), (7, .int (gi S 9 (119) (ix (x)))), (6, .int (gi S 9 (118) (ix (x)))), (5, .int (0)), (4, .int (1)), (3, .int (gi S 9 (111) (ix (x)))), (0, .ref (Z.1 8 (0))), (1, .int (x)), (2, .int (y))]) rfl (fun ls hl => ?_)
      refine lv_aload_n hM.1 hM.2.1 dX8_ask_154 rfl (lv_at hl 6 rfl) ?_
      refine lv_iconst (v := 0) hM.1 hM.2.1 dX8_ask_155 (by decide) ?_
      refine lv_iload_n hM.1 hM.2.1 dX8_ask_156 rfl (lv_at hl 8 rfl) ?_
      refine lv_iload_n hM.1 hM.2.1 dX8_ask_157 rfl (lv_at hl 7 rfl) ?_
      refine lv_iload_n hM.1 hM.2.1 dX8_ask_158 rfl (lv_at hl 5 rfl) ?_
      refine lv_aload_n hM.1 hM.2.1 dX8_ask_159 rfl (lv_at hl 6 rfl) ?_
      refine z_getr hM hW zc8 hO.1 rfl 12 (by decide) lf_X8_42 (t := 9) (j := 112) rfl (hO.r 12 (by decide) (by decide)) dX8_ask_160 (fun hd8_160 => ?_)
      refine lv_iload_n hM.1 hM.2.1 dX8_ask_163 rfl (lv_at hl 7 rfl) ?_
      refine z_iald hM hW hd8_160 rfl (vin_L (hO.l 12 (by decide) (by decide)) hx) (v := gi S 9 (112) (ix (x))) rfl dX8_ask_164 ?_
      refine lv_aload_n hM.1 hM.2.1 dX8_ask_165 rfl (lv_at hl 6 rfl) ?_
      refine z_getr hM hW zc8 hO.1 rfl 13 (by decide) lf_X8_45 (t := 9) (j := 113) rfl (hO.r 13 (by decide) (by decide)) dX8_ask_166 (fun hd9_166 => ?_)
      refine lv_iload_n hM.1 hM.2.1 dX8_ask_169 rfl (lv_at hl 7 rfl) ?_
      refine z_iald hM hW hd9_166 rfl (vin_L (hO.l 13 (by decide) (by decide)) hx) (v := gi S 9 (113) (ix (x))) rfl dX8_ask_170 ?_
      refine lv_iload hM.1 hM.2.1 dX8_ask_171 (lv_at hl 2 rfl) ?_
      refine lv_iload hM.1 hM.2.1 dX8_ask_173 (lv_at hl 1 rfl) ?_
      refine lv_lload hM.1 hM.2.1 dX8_ask_175 (lv_at hl 0 rfl) ?_
      refine lv_aload_n hM.1 hM.2.1 dX8_ask_177 rfl (lv_at hl 6 rfl) ?_
      refine z_getr hM hW zc8 hO.1 rfl 12 (by decide) lf_X8_42 (t := 9) (j := 112) rfl (hO.r 12 (by decide) (by decide)) dX8_ask_178 (fun hd10_178 => ?_)
      refine lv_iload_n hM.1 hM.2.1 dX8_ask_181 rfl (lv_at hl 7 rfl) ?_
      refine z_iald hM hW hd10_178 rfl (vin_L (hO.l 12 (by decide) (by decide)) hx) (v := gi S 9 (112) (ix (x))) rfl dX8_ask_182 ?_
      refine lv_iconst (v := 3) hM.1 hM.2.1 dX8_ask_183 (by decide) ?_
      refine lv_icmp_eq hM.1 hM.2.1 dX8_ask_184 (tgt := 197) (by decide) (fun h => absurd h (fun q => absurd (h_14.symm.trans q) (by decide))) (fun _ => ?_)
      refine lv_aload_n hM.1 hM.2.1 dX8_ask_187 rfl (lv_at hl 6 rfl) ?_
      refine z_getr hM hW zc8 hO.1 rfl 12 (by decide) lf_X8_42 (t := 9) (j := 112) rfl (hO.r 12 (by decide) (by decide)) dX8_ask_188 (fun hd11_188 => ?_)
      refine lv_iload_n hM.1 hM.2.1 dX8_ask_191 rfl (lv_at hl 7 rfl) ?_
      refine z_iald hM hW hd11_188 rfl (vin_L (hO.l 12 (by decide) (by decide)) hx) (v := gi S 9 (112) (ix (x))) rfl dX8_ask_192 ?_
      refine lv_iconst (v := 5) hM.1 hM.2.1 dX8_ask_193 (by decide) ?_
      refine lv_icmp_ne hM.1 hM.2.1 dX8_ask_194 (tgt := 206) (by decide) (fun _ => ?_) (fun h => absurd h (fun q => absurd (h_14.symm.trans q) (by decide)))
      refine lv_iconst (v := (-1)) hM.1 hM.2.1 dX8_ask_206 (by decide) ?_
      refine lv_iconst (v := 0) hM.1 hM.2.1 dX8_ask_207 (by decide) ?_
      refine lv_iconst (v := 0) hM.1 hM.2.1 dX8_ask_208 (by decide) ?_
      refine z_Vv hM (hml.trans hl.1.symm) hW hS hlo zc8 hO.1 rfl zyX8_put lm_X8_146 li_yX8_put le_yX8_put (As := [.int (0), .int (y), .int (x), .int (gi S 9 (111) (ix (x))), .int (gi S 9 (112) (ix (x))), .int (gi S 9 (113) (ix (x))), .int (gi S 9 (118) (ix (x))), .int (gi S 9 (119) (ix (x))), .long (gj S 10 (120) (ix (x))), .int ((-1)), .int (0), .int (0)]) (rest := []) (c_X8_put (cn := cn) hO hcn hcm isB_0) rfl rfl (Nat.le_of_ble_eq_true rfl) ⟨Nat.le_of_ble_eq_true rfl, Nat.le_of_ble_eq_true rfl⟩ ⟨Nat.le_of_ble_eq_true rfl, Nat.le_of_ble_eq_true rfl⟩ dX8_ask_209 (fun H locs hW hS => ?_)
      obtain ⟨B1, hB1⟩ : ∃ B, B = (s_X8_put S cn (0) (y) (x) (gi S 9 (111) (ix (x))) (gi S 9 (112) (ix (x))) (gi S 9 (113) (ix (x))) (gi S 9 (118) (ix (x))) (gi S 9 (119) (ix (x))) (gj S 10 (120) (ix (x))) ((-1)) (0) (0)) := ⟨_, rfl⟩
      rw [← hB1] at hW
      have ke_B1 : B1.2.2 = S.2.2 := by rw [hB1]; simp only [pif_22, oel_22, k_si, k_sj, pif_same, oel_same, k_X6_set, k_X6_put, k_X0_showTag, k_X4_repeat, k_X7_sendRequest, k_X7_sendRequests, k_X7_beginPhase, k_X7_endPhase, k_X7_again, k_X3_obey, k_X7_serve, k_X7_twice, k_X2_learn, k_X8_votes, k_X8_silent, k_X8_side, k_X8_put]
      exact z_vret hM hlk hr hW hS (zF.of rfl (by subst hB1; unfold s_X8_ask; rw [pif_pos h_14, pif_neg h_51]; first | done | rfl)) dX8_ask_212
    ·
      refine lv_iconst (v := 1) hM.1 hM.2.1 dX8_ask_54 (by decide) ?_
      refine lv_goto hM.1 hM.2.1 dX8_ask_55 (tgt := 59) (by decide) ?_
      refine lv_istore hM.1 hM.2.1 dX8_ask_59 hl (by decide) (lv' := [(5, .int (1)), (4, .int (1)), (3, .int (gi S 9 (111) (ix (x)))), (0, .ref (Z.1 8 (0))), (1, .int (x)), (2, .int (y))]) rfl (fun ls hl => ?_)
      refine lv_iload hM.1 hM.2.1 dX8_ask_61 (lv_at hl 1 rfl) ?_
      refine lv_if_ne hM.1 hM.2.1 dX8_ask_63 (tgt := 70) (by decide) (fun _ => ?_) (fun h => absurd h (by decide))
      refine lv_iload hM.1 hM.2.1 dX8_ask_70 (lv_at hl 0 rfl) ?_
      refine lv_if_eq hM.1 hM.2.1 dX8_ask_72 (tgt := 84) (by decide) (fun h => absurd h (by decide)) (fun _ => ?_)
      refine lv_aload_n hM.1 hM.2.1 dX8_ask_75 rfl (lv_at hl 3 rfl) ?_
      refine z_getr hM hW zc8 hO.1 rfl 25 (by decide) lf_X8_81 (t := 9) (j := 125) rfl (hO.r 25 (by decide) (by decide)) dX8_ask_76 (fun hd12_76 => ?_)
      refine lv_iload_n hM.1 hM.2.1 dX8_ask_79 rfl (lv_at hl 2 rfl) ?_
      refine z_iald hM hW hd12_76 rfl (vin_L (hO.l 25 (by decide) (by decide)) hd) (v := gi S 9 (125) (ix (gi S 9 (111) (ix (x))))) rfl dX8_ask_80 ?_
      refine lv_goto hM.1 hM.2.1 dX8_ask_81 (tgt := 90) (by decide) ?_
      refine lv_istore hM.1 hM.2.1 dX8_ask_90 hl (by decide) (lv' := [(6, .int (gi S 9 (125) (ix (gi S 9 (111) (ix (x)))))), (5, .int (1)), (4, .int (1)), (3, .int (gi S 9 (111) (ix (x)))), (0, .ref (Z.1 8 (0))), (1, .int (x)), (2, .int (y))]) rfl (fun ls hl => ?_)
      refine lv_iload hM.1 hM.2.1 dX8_ask_92 (lv_at hl 2 rfl) ?_
      refine lv_if_ne hM.1 hM.2.1 dX8_ask_94 (tgt := 101) (by decide) (fun _ => ?_) (fun h => absurd h (by decide))
      refine lv_iload hM.1 hM.2.1 dX8_ask_101 (lv_at hl 1 rfl) ?_
      refine lv_if_eq hM.1 hM.2.1 dX8_ask_103 (tgt := 115) (by decide) (fun h => absurd h (by decide)) (fun _ => ?_)
      refine lv_aload_n hM.1 hM.2.1 dX8_ask_106 rfl (lv_at hl 4 rfl) ?_
      refine z_getr hM hW zc8 hO.1 rfl 26 (by decide) lf_X8_84 (t := 9) (j := 126) rfl (hO.r 26 (by decide) (by decide)) dX8_ask_107 (fun hd13_107 => ?_)
      refine lv_iload_n hM.1 hM.2.1 dX8_ask_110 rfl (lv_at hl 3 rfl) ?_
      refine z_iald hM hW hd13_107 rfl (vin_L (hO.l 26 (by decide) (by decide)) hd) (v := gi S 9 (126) (ix (gi S 9 (111) (ix (x))))) rfl dX8_ask_111 ?_
      refine lv_goto hM.1 hM.2.1 dX8_ask_112 (tgt := 121) (by decide) ?_
      refine lv_istore hM.1 hM.2.1 dX8_ask_121 hl (by decide) (lv' := [(7, .int (gi S 9 (126) (ix (gi S 9 (111) (ix (x)))))), (6, .int (gi S 9 (125) (ix (gi S 9 (111) (ix (x)))))), (5, .int (1)), (4, .int (1)), (3, .int (gi S 9 (111) (ix (x)))), (0, .ref (Z.1 8 (0))), (1, .int (x)), (2, .int (y))]) rfl (fun ls hl => ?_)
      refine lv_iload hM.1 hM.2.1 dX8_ask_123 (lv_at hl 3 rfl) ?_
      refine lv_if_ne hM.1 hM.2.1 dX8_ask_125 (tgt := 132) (by decide) (fun _ => ?_) (fun h => absurd h (by decide))
      refine lv_iload hM.1 hM.2.1 dX8_ask_132 (lv_at hl 2 rfl) ?_
      refine lv_if_eq hM.1 hM.2.1 dX8_ask_134 (tgt := 146) (by decide) (fun h => absurd h (by decide)) (fun _ => ?_)
      refine lv_aload_n hM.1 hM.2.1 dX8_ask_137 rfl (lv_at hl 5 rfl) ?_
      refine z_getr hM hW zc8 hO.1 rfl 28 (by decide) lf_X8_90 (t := 10) (j := 128) rfl (hO.r 28 (by decide) (by decide)) dX8_ask_138 (fun hd14_138 => ?_)
      refine lv_iload_n hM.1 hM.2.1 dX8_ask_141 rfl (lv_at hl 4 rfl) ?_
      refine z_lald hM hW hd14_138 rfl (vin_L (hO.l 28 (by decide) (by decide)) hd) (v := gj S 10 (128) (ix (gi S 9 (111) (ix (x))))) rfl dX8_ask_142 ?_
      refine lv_goto hM.1 hM.2.1 dX8_ask_143 (tgt := 152) (by decide) ?_
      refine lv_lstore hM.1 hM.2.1 dX8_ask_152 hl (by decide) (lv' := [(8, .long (gj S 10 (128) (ix (gi S 9 (111) (ix (x)))))), (7, .int (gi S 9 (126) (ix (gi S 9 (111) (ix (x)))))), (6, .int (gi S 9 (125) (ix (gi S 9 (111) (ix (x)))))), (5, .int (1)), (4, .int (1)), (3, .int (gi S 9 (111) (ix (x)))), (0, .ref (Z.1 8 (0))), (1, .int (x)), (2, .int (y))]) rfl (fun ls hl => ?_)
      refine lv_aload_n hM.1 hM.2.1 dX8_ask_154 rfl (lv_at hl 6 rfl) ?_
      refine lv_iconst (v := 0) hM.1 hM.2.1 dX8_ask_155 (by decide) ?_
      refine lv_iload_n hM.1 hM.2.1 dX8_ask_156 rfl (lv_at hl 8 rfl) ?_
      refine lv_iload_n hM.1 hM.2.1 dX8_ask_157 rfl (lv_at hl 7 rfl) ?_
      refine lv_iload_n hM.1 hM.2.1 dX8_ask_158 rfl (lv_at hl 5 rfl) ?_
      refine lv_aload_n hM.1 hM.2.1 dX8_ask_159 rfl (lv_at hl 6 rfl) ?_
      refine z_getr hM hW zc8 hO.1 rfl 12 (by decide) lf_X8_42 (t := 9) (j := 112) rfl (hO.r 12 (by decide) (by decide)) dX8_ask_160 (fun hd15_160 => ?_)
      refine lv_iload_n hM.1 hM.2.1 dX8_ask_163 rfl (lv_at hl 7 rfl) ?_
      refine z_iald hM hW hd15_160 rfl (vin_L (hO.l 12 (by decide) (by decide)) hx) (v := gi S 9 (112) (ix (x))) rfl dX8_ask_164 ?_
      refine lv_aload_n hM.1 hM.2.1 dX8_ask_165 rfl (lv_at hl 6 rfl) ?_
      refine z_getr hM hW zc8 hO.1 rfl 13 (by decide) lf_X8_45 (t := 9) (j := 113) rfl (hO.r 13 (by decide) (by decide)) dX8_ask_166 (fun hd16_166 => ?_)
      refine lv_iload_n hM.1 hM.2.1 dX8_ask_169 rfl (lv_at hl 7 rfl) ?_
      refine z_iald hM hW hd16_166 rfl (vin_L (hO.l 13 (by decide) (by decide)) hx) (v := gi S 9 (113) (ix (x))) rfl dX8_ask_170 ?_
      refine lv_iload hM.1 hM.2.1 dX8_ask_171 (lv_at hl 2 rfl) ?_
      refine lv_iload hM.1 hM.2.1 dX8_ask_173 (lv_at hl 1 rfl) ?_
      refine lv_lload hM.1 hM.2.1 dX8_ask_175 (lv_at hl 0 rfl) ?_
      refine lv_aload_n hM.1 hM.2.1 dX8_ask_177 rfl (lv_at hl 6 rfl) ?_
      refine z_getr hM hW zc8 hO.1 rfl 12 (by decide) lf_X8_42 (t := 9) (j := 112) rfl (hO.r 12 (by decide) (by decide)) dX8_ask_178 (fun hd17_178 => ?_)
      refine lv_iload_n hM.1 hM.2.1 dX8_ask_181 rfl (lv_at hl 7 rfl) ?_
      refine z_iald hM hW hd17_178 rfl (vin_L (hO.l 12 (by decide) (by decide)) hx) (v := gi S 9 (112) (ix (x))) rfl dX8_ask_182 ?_
      refine lv_iconst (v := 3) hM.1 hM.2.1 dX8_ask_183 (by decide) ?_
      refine lv_icmp_eq hM.1 hM.2.1 dX8_ask_184 (tgt := 197) (by decide) (fun h => absurd h (fun q => absurd (h_14.symm.trans q) (by decide))) (fun _ => ?_)
      refine lv_aload_n hM.1 hM.2.1 dX8_ask_187 rfl (lv_at hl 6 rfl) ?_
      refine z_getr hM hW zc8 hO.1 rfl 12 (by decide) lf_X8_42 (t := 9) (j := 112) rfl (hO.r 12 (by decide) (by decide)) dX8_ask_188 (fun hd18_188 => ?_)
      refine lv_iload_n hM.1 hM.2.1 dX8_ask_191 rfl (lv_at hl 7 rfl) ?_
      refine z_iald hM hW hd18_188 rfl (vin_L (hO.l 12 (by decide) (by decide)) hx) (v := gi S 9 (112) (ix (x))) rfl dX8_ask_192 ?_
      refine lv_iconst (v := 5) hM.1 hM.2.1 dX8_ask_193 (by decide) ?_
      refine lv_icmp_ne hM.1 hM.2.1 dX8_ask_194 (tgt := 206) (by decide) (fun _ => ?_) (fun h => absurd h (fun q => absurd (h_14.symm.trans q) (by decide)))
      refine lv_iconst (v := (-1)) hM.1 hM.2.1 dX8_ask_206 (by decide) ?_
      refine lv_iconst (v := 0) hM.1 hM.2.1 dX8_ask_207 (by decide) ?_
      refine lv_iconst (v := 0) hM.1 hM.2.1 dX8_ask_208 (by decide) ?_
      refine z_Vv hM (hml.trans hl.1.symm) hW hS hlo zc8 hO.1 rfl zyX8_put lm_X8_146 li_yX8_put le_yX8_put (As := [.int (0), .int (y), .int (x), .int (gi S 9 (111) (ix (x))), .int (gi S 9 (112) (ix (x))), .int (gi S 9 (113) (ix (x))), .int (gi S 9 (125) (ix (gi S 9 (111) (ix (x))))), .int (gi S 9 (126) (ix (gi S 9 (111) (ix (x))))), .long (gj S 10 (128) (ix (gi S 9 (111) (ix (x))))), .int ((-1)), .int (0), .int (0)]) (rest := []) (c_X8_put (cn := cn) hO hcn hcm isB_0) rfl rfl (Nat.le_of_ble_eq_true rfl) ⟨Nat.le_of_ble_eq_true rfl, Nat.le_of_ble_eq_true rfl⟩ ⟨Nat.le_of_ble_eq_true rfl, Nat.le_of_ble_eq_true rfl⟩ dX8_ask_209 (fun H locs hW hS => ?_)
      obtain ⟨B2, hB2⟩ : ∃ B, B = (s_X8_put S cn (0) (y) (x) (gi S 9 (111) (ix (x))) (gi S 9 (112) (ix (x))) (gi S 9 (113) (ix (x))) (gi S 9 (125) (ix (gi S 9 (111) (ix (x))))) (gi S 9 (126) (ix (gi S 9 (111) (ix (x))))) (gj S 10 (128) (ix (gi S 9 (111) (ix (x))))) ((-1)) (0) (0)) := ⟨_, rfl⟩
      rw [← hB2] at hW
      have ke_B2 : B2.2.2 = S.2.2 := by rw [hB2]; simp only [pif_22, oel_22, k_si, k_sj, pif_same, oel_same, k_X6_set, k_X6_put, k_X0_showTag, k_X4_repeat, k_X7_sendRequest, k_X7_sendRequests, k_X7_beginPhase, k_X7_endPhase, k_X7_again, k_X3_obey, k_X7_serve, k_X7_twice, k_X2_learn, k_X8_votes, k_X8_silent, k_X8_side, k_X8_put]
      exact z_vret hM hlk hr hW hS (zF.of rfl (by subst hB2; unfold s_X8_ask; rw [pif_pos h_14, pif_pos h_51]; first | done | rfl)) dX8_ask_212
  ·
    refine lv_aload_n hM.1 hM.2.1 dX8_ask_17 rfl (lv_at hl 1 rfl) ?_
    refine z_getr hM hW zc8 hO.1 rfl 12 (by decide) lf_X8_42 (t := 9) (j := 112) rfl (hO.r 12 (by decide) (by decide)) dX8_ask_18 (fun hd19_18 => ?_)
    refine lv_iload_n hM.1 hM.2.1 dX8_ask_21 rfl (lv_at hl 2 rfl) ?_
    refine z_iald hM hW hd19_18 rfl (vin_L (hO.l 12 (by decide) (by decide)) hx) (v := gi S 9 (112) (ix (x))) rfl dX8_ask_22 ?_
    refine lv_iconst (v := 4) hM.1 hM.2.1 dX8_ask_23 (by decide) ?_
    refine lv_icmp_ne hM.1 hM.2.1 dX8_ask_24 (tgt := 31) (by decide) (fun h_24 => ?_) (fun h_24 => ?_)
    ·
      refine lv_iconst (v := 0) hM.1 hM.2.1 dX8_ask_31 (by decide) ?_
      refine lv_istore hM.1 hM.2.1 dX8_ask_32 hl (by decide) (lv' := [(4, .int (0)), (3, .int (gi S 9 (111) (ix (x)))), (0, .ref (Z.1 8 (0))), (1, .int (x)), (2, .int (y))]) rfl (fun ls hl => ?_)
      refine lv_aload_n hM.1 hM.2.1 dX8_ask_34 rfl (lv_at hl 2 rfl) ?_
      refine z_getr hM hW zc8 hO.1 rfl 12 (by decide) lf_X8_42 (t := 9) (j := 112) rfl (hO.r 12 (by decide) (by decide)) dX8_ask_35 (fun hd20_35 => ?_)
      refine lv_iload_n hM.1 hM.2.1 dX8_ask_38 rfl (lv_at hl 3 rfl) ?_
      refine z_iald hM hW hd20_35 rfl (vin_L (hO.l 12 (by decide) (by decide)) hx) (v := gi S 9 (112) (ix (x))) rfl dX8_ask_39 ?_
      refine lv_iconst (v := 2) hM.1 hM.2.1 dX8_ask_40 (by decide) ?_
      refine lv_icmp_ne hM.1 hM.2.1 dX8_ask_41 (tgt := 58) (by decide) (fun _ => ?_) (fun h => absurd h h_14)
      refine lv_iconst (v := 0) hM.1 hM.2.1 dX8_ask_58 (by decide) ?_
      refine lv_istore hM.1 hM.2.1 dX8_ask_59 hl (by decide) (lv' := [(5, .int (0)), (4, .int (0)), (3, .int (gi S 9 (111) (ix (x)))), (0, .ref (Z.1 8 (0))), (1, .int (x)), (2, .int (y))]) rfl (fun ls hl => ?_)
      refine lv_iload hM.1 hM.2.1 dX8_ask_61 (lv_at hl 1 rfl) ?_
      refine lv_if_ne hM.1 hM.2.1 dX8_ask_63 (tgt := 70) (by decide) (fun h => absurd (by decide) h) (fun _ => ?_)
      refine lv_iconst (v := 0) hM.1 hM.2.1 dX8_ask_66 (by decide) ?_
      refine lv_goto hM.1 hM.2.1 dX8_ask_67 (tgt := 90) (by decide) ?_
      refine lv_istore hM.1 hM.2.1 dX8_ask_90 hl (by decide) (lv' := [(6, .int (0)), (5, .int (0)), (4, .int (0)), (3, .int (gi S 9 (111) (ix (x)))), (0, .ref (Z.1 8 (0))), (1, .int (x)), (2, .int (y))]) rfl (fun ls hl => ?_)
      refine lv_iload hM.1 hM.2.1 dX8_ask_92 (lv_at hl 2 rfl) ?_
      refine lv_if_ne hM.1 hM.2.1 dX8_ask_94 (tgt := 101) (by decide) (fun h => absurd (by decide) h) (fun _ => ?_)
      refine lv_iconst (v := 0) hM.1 hM.2.1 dX8_ask_97 (by decide) ?_
      refine lv_goto hM.1 hM.2.1 dX8_ask_98 (tgt := 121) (by decide) ?_
      refine lv_istore hM.1 hM.2.1 dX8_ask_121 hl (by decide) (lv' := [(7, .int (0)), (6, .int (0)), (5, .int (0)), (4, .int (0)), (3, .int (gi S 9 (111) (ix (x)))), (0, .ref (Z.1 8 (0))), (1, .int (x)), (2, .int (y))]) rfl (fun ls hl => ?_)
      refine lv_iload hM.1 hM.2.1 dX8_ask_123 (lv_at hl 3 rfl) ?_
      refine lv_if_ne hM.1 hM.2.1 dX8_ask_125 (tgt := 132) (by decide) (fun h => absurd (by decide) h) (fun _ => ?_)
      refine lv_lconst (v := 0) hM.1 hM.2.1 dX8_ask_128 (by decide) ?_
      refine lv_goto hM.1 hM.2.1 dX8_ask_129 (tgt := 152) (by decide) ?_
      refine lv_lstore hM.1 hM.2.1 dX8_ask_152 hl (by decide) (lv' := [(8, .long (0)), (7, .int (0)), (6, .int (0)), (5, .int (0)), (4, .int (0)), (3, .int (gi S 9 (111) (ix (x)))), (0, .ref (Z.1 8 (0))), (1, .int (x)), (2, .int (y))]) rfl (fun ls hl => ?_)
      refine lv_aload_n hM.1 hM.2.1 dX8_ask_154 rfl (lv_at hl 6 rfl) ?_
      refine lv_iconst (v := 0) hM.1 hM.2.1 dX8_ask_155 (by decide) ?_
      refine lv_iload_n hM.1 hM.2.1 dX8_ask_156 rfl (lv_at hl 8 rfl) ?_
      refine lv_iload_n hM.1 hM.2.1 dX8_ask_157 rfl (lv_at hl 7 rfl) ?_
      refine lv_iload_n hM.1 hM.2.1 dX8_ask_158 rfl (lv_at hl 5 rfl) ?_
      refine lv_aload_n hM.1 hM.2.1 dX8_ask_159 rfl (lv_at hl 6 rfl) ?_
      refine z_getr hM hW zc8 hO.1 rfl 12 (by decide) lf_X8_42 (t := 9) (j := 112) rfl (hO.r 12 (by decide) (by decide)) dX8_ask_160 (fun hd21_160 => ?_)
      refine lv_iload_n hM.1 hM.2.1 dX8_ask_163 rfl (lv_at hl 7 rfl) ?_
      refine z_iald hM hW hd21_160 rfl (vin_L (hO.l 12 (by decide) (by decide)) hx) (v := gi S 9 (112) (ix (x))) rfl dX8_ask_164 ?_
      refine lv_aload_n hM.1 hM.2.1 dX8_ask_165 rfl (lv_at hl 6 rfl) ?_
      refine z_getr hM hW zc8 hO.1 rfl 13 (by decide) lf_X8_45 (t := 9) (j := 113) rfl (hO.r 13 (by decide) (by decide)) dX8_ask_166 (fun hd22_166 => ?_)
      refine lv_iload_n hM.1 hM.2.1 dX8_ask_169 rfl (lv_at hl 7 rfl) ?_
      refine z_iald hM hW hd22_166 rfl (vin_L (hO.l 13 (by decide) (by decide)) hx) (v := gi S 9 (113) (ix (x))) rfl dX8_ask_170 ?_
      refine lv_iload hM.1 hM.2.1 dX8_ask_171 (lv_at hl 2 rfl) ?_
      refine lv_iload hM.1 hM.2.1 dX8_ask_173 (lv_at hl 1 rfl) ?_
      refine lv_lload hM.1 hM.2.1 dX8_ask_175 (lv_at hl 0 rfl) ?_
      refine lv_aload_n hM.1 hM.2.1 dX8_ask_177 rfl (lv_at hl 6 rfl) ?_
      refine z_getr hM hW zc8 hO.1 rfl 12 (by decide) lf_X8_42 (t := 9) (j := 112) rfl (hO.r 12 (by decide) (by decide)) dX8_ask_178 (fun hd23_178 => ?_)
      refine lv_iload_n hM.1 hM.2.1 dX8_ask_181 rfl (lv_at hl 7 rfl) ?_
      refine z_iald hM hW hd23_178 rfl (vin_L (hO.l 12 (by decide) (by decide)) hx) (v := gi S 9 (112) (ix (x))) rfl dX8_ask_182 ?_
      refine lv_iconst (v := 3) hM.1 hM.2.1 dX8_ask_183 (by decide) ?_
      refine lv_icmp_eq hM.1 hM.2.1 dX8_ask_184 (tgt := 197) (by decide) (fun h_184 => ?_) (fun h_184 => ?_)
      ·
        refine lv_aload_n hM.1 hM.2.1 dX8_ask_197 rfl (lv_at hl 6 rfl) ?_
        refine z_getr hM hW zc8 hO.1 rfl 27 (by decide) lf_X8_87 (t := 9) (j := 127) rfl (hO.r 27 (by decide) (by decide)) dX8_ask_198 (fun hd24_198 => ?_)
        refine lv_iload_n hM.1 hM.2.1 dX8_ask_201 rfl (lv_at hl 5 rfl) ?_
        refine z_iald hM hW hd24_198 rfl (vin_L (hO.l 27 (by decide) (by decide)) hd) (v := gi S 9 (127) (ix (gi S 9 (111) (ix (x))))) rfl dX8_ask_202 ?_
        refine lv_goto hM.1 hM.2.1 dX8_ask_203 (tgt := 207) (by decide) ?_
        refine lv_iconst (v := 0) hM.1 hM.2.1 dX8_ask_207 (by decide) ?_
        refine lv_iconst (v := 0) hM.1 hM.2.1 dX8_ask_208 (by decide) ?_
        refine z_Vv hM (hml.trans hl.1.symm) hW hS hlo zc8 hO.1 rfl zyX8_put lm_X8_146 li_yX8_put le_yX8_put (As := [.int (0), .int (y), .int (x), .int (gi S 9 (111) (ix (x))), .int (gi S 9 (112) (ix (x))), .int (gi S 9 (113) (ix (x))), .int (0), .int (0), .long (0), .int (gi S 9 (127) (ix (gi S 9 (111) (ix (x))))), .int (0), .int (0)]) (rest := []) (c_X8_put (cn := cn) hO hcn hcm isB_0) rfl rfl (Nat.le_of_ble_eq_true rfl) ⟨Nat.le_of_ble_eq_true rfl, Nat.le_of_ble_eq_true rfl⟩ ⟨Nat.le_of_ble_eq_true rfl, Nat.le_of_ble_eq_true rfl⟩ dX8_ask_209 (fun H locs hW hS => ?_)
        obtain ⟨B3, hB3⟩ : ∃ B, B = (s_X8_put S cn (0) (y) (x) (gi S 9 (111) (ix (x))) (gi S 9 (112) (ix (x))) (gi S 9 (113) (ix (x))) (0) (0) (0) (gi S 9 (127) (ix (gi S 9 (111) (ix (x))))) (0) (0)) := ⟨_, rfl⟩
        rw [← hB3] at hW
        have ke_B3 : B3.2.2 = S.2.2 := by rw [hB3]; simp only [pif_22, oel_22, k_si, k_sj, pif_same, oel_same, k_X6_set, k_X6_put, k_X0_showTag, k_X4_repeat, k_X7_sendRequest, k_X7_sendRequests, k_X7_beginPhase, k_X7_endPhase, k_X7_again, k_X3_obey, k_X7_serve, k_X7_twice, k_X2_learn, k_X8_votes, k_X8_silent, k_X8_side, k_X8_put]
        exact z_vret hM hlk hr hW hS (zF.of rfl (by subst hB3; unfold s_X8_ask; rw [pif_neg h_14, pif_neg h_24, pif_pos h_184]; first | done | rfl)) dX8_ask_212
      ·
        refine lv_aload_n hM.1 hM.2.1 dX8_ask_187 rfl (lv_at hl 6 rfl) ?_
        refine z_getr hM hW zc8 hO.1 rfl 12 (by decide) lf_X8_42 (t := 9) (j := 112) rfl (hO.r 12 (by decide) (by decide)) dX8_ask_188 (fun hd25_188 => ?_)
        refine lv_iload_n hM.1 hM.2.1 dX8_ask_191 rfl (lv_at hl 7 rfl) ?_
        refine z_iald hM hW hd25_188 rfl (vin_L (hO.l 12 (by decide) (by decide)) hx) (v := gi S 9 (112) (ix (x))) rfl dX8_ask_192 ?_
        refine lv_iconst (v := 5) hM.1 hM.2.1 dX8_ask_193 (by decide) ?_
        refine lv_icmp_ne hM.1 hM.2.1 dX8_ask_194 (tgt := 206) (by decide) (fun h_194 => ?_) (fun h_194 => ?_)
        ·
          refine lv_iconst (v := (-1)) hM.1 hM.2.1 dX8_ask_206 (by decide) ?_
          refine lv_iconst (v := 0) hM.1 hM.2.1 dX8_ask_207 (by decide) ?_
          refine lv_iconst (v := 0) hM.1 hM.2.1 dX8_ask_208 (by decide) ?_
          refine z_Vv hM (hml.trans hl.1.symm) hW hS hlo zc8 hO.1 rfl zyX8_put lm_X8_146 li_yX8_put le_yX8_put (As := [.int (0), .int (y), .int (x), .int (gi S 9 (111) (ix (x))), .int (gi S 9 (112) (ix (x))), .int (gi S 9 (113) (ix (x))), .int (0), .int (0), .long (0), .int ((-1)), .int (0), .int (0)]) (rest := []) (c_X8_put (cn := cn) hO hcn hcm isB_0) rfl rfl (Nat.le_of_ble_eq_true rfl) ⟨Nat.le_of_ble_eq_true rfl, Nat.le_of_ble_eq_true rfl⟩ ⟨Nat.le_of_ble_eq_true rfl, Nat.le_of_ble_eq_true rfl⟩ dX8_ask_209 (fun H locs hW hS => ?_)
          obtain ⟨B4, hB4⟩ : ∃ B, B = (s_X8_put S cn (0) (y) (x) (gi S 9 (111) (ix (x))) (gi S 9 (112) (ix (x))) (gi S 9 (113) (ix (x))) (0) (0) (0) ((-1)) (0) (0)) := ⟨_, rfl⟩
          rw [← hB4] at hW
          have ke_B4 : B4.2.2 = S.2.2 := by rw [hB4]; simp only [pif_22, oel_22, k_si, k_sj, pif_same, oel_same, k_X6_set, k_X6_put, k_X0_showTag, k_X4_repeat, k_X7_sendRequest, k_X7_sendRequests, k_X7_beginPhase, k_X7_endPhase, k_X7_again, k_X3_obey, k_X7_serve, k_X7_twice, k_X2_learn, k_X8_votes, k_X8_silent, k_X8_side, k_X8_put]
          exact z_vret hM hlk hr hW hS (zF.of rfl (by subst hB4; unfold s_X8_ask; rw [pif_neg h_14, pif_neg h_24, pif_neg h_184, pif_neg h_194]; first | done | rfl)) dX8_ask_212
        ·
          refine lv_aload_n hM.1 hM.2.1 dX8_ask_197 rfl (lv_at hl 6 rfl) ?_
          refine z_getr hM hW zc8 hO.1 rfl 27 (by decide) lf_X8_87 (t := 9) (j := 127) rfl (hO.r 27 (by decide) (by decide)) dX8_ask_198 (fun hd26_198 => ?_)
          refine lv_iload_n hM.1 hM.2.1 dX8_ask_201 rfl (lv_at hl 5 rfl) ?_
          refine z_iald hM hW hd26_198 rfl (vin_L (hO.l 27 (by decide) (by decide)) hd) (v := gi S 9 (127) (ix (gi S 9 (111) (ix (x))))) rfl dX8_ask_202 ?_
          refine lv_goto hM.1 hM.2.1 dX8_ask_203 (tgt := 207) (by decide) ?_
          refine lv_iconst (v := 0) hM.1 hM.2.1 dX8_ask_207 (by decide) ?_
          refine lv_iconst (v := 0) hM.1 hM.2.1 dX8_ask_208 (by decide) ?_
          refine z_Vv hM (hml.trans hl.1.symm) hW hS hlo zc8 hO.1 rfl zyX8_put lm_X8_146 li_yX8_put le_yX8_put (As := [.int (0), .int (y), .int (x), .int (gi S 9 (111) (ix (x))), .int (gi S 9 (112) (ix (x))), .int (gi S 9 (113) (ix (x))), .int (0), .int (0), .long (0), .int (gi S 9 (127) (ix (gi S 9 (111) (ix (x))))), .int (0), .int (0)]) (rest := []) (c_X8_put (cn := cn) hO hcn hcm isB_0) rfl rfl (Nat.le_of_ble_eq_true rfl) ⟨Nat.le_of_ble_eq_true rfl, Nat.le_of_ble_eq_true rfl⟩ ⟨Nat.le_of_ble_eq_true rfl, Nat.le_of_ble_eq_true rfl⟩ dX8_ask_209 (fun H locs hW hS => ?_)
          obtain ⟨B5, hB5⟩ : ∃ B, B = (s_X8_put S cn (0) (y) (x) (gi S 9 (111) (ix (x))) (gi S 9 (112) (ix (x))) (gi S 9 (113) (ix (x))) (0) (0) (0) (gi S 9 (127) (ix (gi S 9 (111) (ix (x))))) (0) (0)) := ⟨_, rfl⟩
          rw [← hB5] at hW
          have ke_B5 : B5.2.2 = S.2.2 := by rw [hB5]; simp only [pif_22, oel_22, k_si, k_sj, pif_same, oel_same, k_X6_set, k_X6_put, k_X0_showTag, k_X4_repeat, k_X7_sendRequest, k_X7_sendRequests, k_X7_beginPhase, k_X7_endPhase, k_X7_again, k_X3_obey, k_X7_serve, k_X7_twice, k_X2_learn, k_X8_votes, k_X8_silent, k_X8_side, k_X8_put]
          exact z_vret hM hlk hr hW hS (zF.of rfl (by subst hB5; unfold s_X8_ask; rw [pif_neg h_14, pif_neg h_24, pif_neg h_184, pif_pos h_194]; first | done | rfl)) dX8_ask_212
    ·
      refine lv_iconst (v := 1) hM.1 hM.2.1 dX8_ask_27 (by decide) ?_
      refine lv_goto hM.1 hM.2.1 dX8_ask_28 (tgt := 32) (by decide) ?_
      refine lv_istore hM.1 hM.2.1 dX8_ask_32 hl (by decide) (lv' := [(4, .int (1)), (3, .int (gi S 9 (111) (ix (x)))), (0, .ref (Z.1 8 (0))), (1, .int (x)), (2, .int (y))]) rfl (fun ls hl => ?_)
      refine lv_aload_n hM.1 hM.2.1 dX8_ask_34 rfl (lv_at hl 2 rfl) ?_
      refine z_getr hM hW zc8 hO.1 rfl 12 (by decide) lf_X8_42 (t := 9) (j := 112) rfl (hO.r 12 (by decide) (by decide)) dX8_ask_35 (fun hd27_35 => ?_)
      refine lv_iload_n hM.1 hM.2.1 dX8_ask_38 rfl (lv_at hl 3 rfl) ?_
      refine z_iald hM hW hd27_35 rfl (vin_L (hO.l 12 (by decide) (by decide)) hx) (v := gi S 9 (112) (ix (x))) rfl dX8_ask_39 ?_
      refine lv_iconst (v := 2) hM.1 hM.2.1 dX8_ask_40 (by decide) ?_
      refine lv_icmp_ne hM.1 hM.2.1 dX8_ask_41 (tgt := 58) (by decide) (fun _ => ?_) (fun h => absurd h h_14)
      refine lv_iconst (v := 0) hM.1 hM.2.1 dX8_ask_58 (by decide) ?_
      refine lv_istore hM.1 hM.2.1 dX8_ask_59 hl (by decide) (lv' := [(5, .int (0)), (4, .int (1)), (3, .int (gi S 9 (111) (ix (x)))), (0, .ref (Z.1 8 (0))), (1, .int (x)), (2, .int (y))]) rfl (fun ls hl => ?_)
      refine lv_iload hM.1 hM.2.1 dX8_ask_61 (lv_at hl 1 rfl) ?_
      refine lv_if_ne hM.1 hM.2.1 dX8_ask_63 (tgt := 70) (by decide) (fun _ => ?_) (fun h => absurd h (by decide))
      refine lv_iload hM.1 hM.2.1 dX8_ask_70 (lv_at hl 0 rfl) ?_
      refine lv_if_eq hM.1 hM.2.1 dX8_ask_72 (tgt := 84) (by decide) (fun _ => ?_) (fun h => absurd (by decide) h)
      refine lv_aload_n hM.1 hM.2.1 dX8_ask_84 rfl (lv_at hl 3 rfl) ?_
      refine z_getr hM hW zc8 hO.1 rfl 18 (by decide) lf_X8_60 (t := 9) (j := 118) rfl (hO.r 18 (by decide) (by decide)) dX8_ask_85 (fun hd28_85 => ?_)
      refine lv_iload_n hM.1 hM.2.1 dX8_ask_88 rfl (lv_at hl 4 rfl) ?_
      refine z_iald hM hW hd28_85 rfl (vin_L (hO.l 18 (by decide) (by decide)) hx) (v := gi S 9 (118) (ix (x))) rfl dX8_ask_89 ?_
      refine lv_istore hM.1 hM.2.1 dX8_ask_90 hl (by decide) (lv' := [(6, .int (gi S 9 (118) (ix (x)))), (5, .int (0)), (4, .int (1)), (3, .int (gi S 9 (111) (ix (x)))), (0, .ref (Z.1 8 (0))), (1, .int (x)), (2, .int (y))]) rfl (fun ls hl => ?_)
      refine lv_iload hM.1 hM.2.1 dX8_ask_92 (lv_at hl 2 rfl) ?_
      refine lv_if_ne hM.1 hM.2.1 dX8_ask_94 (tgt := 101) (by decide) (fun _ => ?_) (fun h => absurd h (by decide))
      refine lv_iload hM.1 hM.2.1 dX8_ask_101 (lv_at hl 1 rfl) ?_
      refine lv_if_eq hM.1 hM.2.1 dX8_ask_103 (tgt := 115) (by decide) (fun _ => ?_) (fun h => absurd (by decide) h)
      refine lv_aload_n hM.1 hM.2.1 dX8_ask_115 rfl (lv_at hl 4 rfl) ?_
      refine z_getr hM hW zc8 hO.1 rfl 19 (by decide) lf_X8_63 (t := 9) (j := 119) rfl (hO.r 19 (by decide) (by decide)) dX8_ask_116 (fun hd29_116 => ?_)
      refine lv_iload_n hM.1 hM.2.1 dX8_ask_119 rfl (lv_at hl 5 rfl) ?_
      refine z_iald hM hW hd29_116 rfl (vin_L (hO.l 19 (by decide) (by decide)) hx) (v := gi S 9 (119) (ix (x))) rfl dX8_ask_120 ?_
      refine lv_istore hM.1 hM.2.1 dX8_ask_121 hl (by decide) (lv' := [(7, .int (gi S 9 (119) (ix (x)))), (6, .int (gi S 9 (118) (ix (x)))), (5, .int (0)), (4, .int (1)), (3, .int (gi S 9 (111) (ix (x)))), (0, .ref (Z.1 8 (0))), (1, .int (x)), (2, .int (y))]) rfl (fun ls hl => ?_)
      refine lv_iload hM.1 hM.2.1 dX8_ask_123 (lv_at hl 3 rfl) ?_
      refine lv_if_ne hM.1 hM.2.1 dX8_ask_125 (tgt := 132) (by decide) (fun _ => ?_) (fun h => absurd h (by decide))
      refine lv_iload hM.1 hM.2.1 dX8_ask_132 (lv_at hl 2 rfl) ?_
      refine lv_if_eq hM.1 hM.2.1 dX8_ask_134 (tgt := 146) (by decide) (fun _ => ?_) (fun h => absurd (by decide) h)
      refine lv_aload_n hM.1 hM.2.1 dX8_ask_146 rfl (lv_at hl 5 rfl) ?_
      refine z_getr hM hW zc8 hO.1 rfl 20 (by decide) lf_X8_66 (t := 10) (j := 120) rfl (hO.r 20 (by decide) (by decide)) dX8_ask_147 (fun hd30_147 => ?_)
      refine lv_iload_n hM.1 hM.2.1 dX8_ask_150 rfl (lv_at hl 6 rfl) ?_
      refine z_lald hM hW hd30_147 rfl (vin_L (hO.l 20 (by decide) (by decide)) hx) (v := gj S 10 (120) (ix (x))) rfl dX8_ask_151 ?_
      refine lv_lstore hM.1 hM.2.1 dX8_ask_152 hl (by decide) (lv' := [(8, .long (gj S 10 (120) (ix (x)))), (7, .int (gi S 9 (119) (ix (x)))), (6, .int (gi S 9 (118) (ix (x)))), (5, .int (0)), (4, .int (1)), (3, .int (gi S 9 (111) (ix (x)))), (0, .ref (Z.1 8 (0))), (1, .int (x)), (2, .int (y))]) rfl (fun ls hl => ?_)
      refine lv_aload_n hM.1 hM.2.1 dX8_ask_154 rfl (lv_at hl 6 rfl) ?_
      refine lv_iconst (v := 0) hM.1 hM.2.1 dX8_ask_155 (by decide) ?_
      refine lv_iload_n hM.1 hM.2.1 dX8_ask_156 rfl (lv_at hl 8 rfl) ?_
      refine lv_iload_n hM.1 hM.2.1 dX8_ask_157 rfl (lv_at hl 7 rfl) ?_
      refine lv_iload_n hM.1 hM.2.1 dX8_ask_158 rfl (lv_at hl 5 rfl) ?_
      refine lv_aload_n hM.1 hM.2.1 dX8_ask_159 rfl (lv_at hl 6 rfl) ?_
      refine z_getr hM hW zc8 hO.1 rfl 12 (by decide) lf_X8_42 (t := 9) (j := 112) rfl (hO.r 12 (by decide) (by decide)) dX8_ask_160 (fun hd31_160 => ?_)
      refine lv_iload_n hM.1 hM.2.1 dX8_ask_163 rfl (lv_at hl 7 rfl) ?_
      refine z_iald hM hW hd31_160 rfl (vin_L (hO.l 12 (by decide) (by decide)) hx) (v := gi S 9 (112) (ix (x))) rfl dX8_ask_164 ?_
      refine lv_aload_n hM.1 hM.2.1 dX8_ask_165 rfl (lv_at hl 6 rfl) ?_
      refine z_getr hM hW zc8 hO.1 rfl 13 (by decide) lf_X8_45 (t := 9) (j := 113) rfl (hO.r 13 (by decide) (by decide)) dX8_ask_166 (fun hd32_166 => ?_)
      refine lv_iload_n hM.1 hM.2.1 dX8_ask_169 rfl (lv_at hl 7 rfl) ?_
      refine z_iald hM hW hd32_166 rfl (vin_L (hO.l 13 (by decide) (by decide)) hx) (v := gi S 9 (113) (ix (x))) rfl dX8_ask_170 ?_
      refine lv_iload hM.1 hM.2.1 dX8_ask_171 (lv_at hl 2 rfl) ?_
      refine lv_iload hM.1 hM.2.1 dX8_ask_173 (lv_at hl 1 rfl) ?_
      refine lv_lload hM.1 hM.2.1 dX8_ask_175 (lv_at hl 0 rfl) ?_
      refine lv_aload_n hM.1 hM.2.1 dX8_ask_177 rfl (lv_at hl 6 rfl) ?_
      refine z_getr hM hW zc8 hO.1 rfl 12 (by decide) lf_X8_42 (t := 9) (j := 112) rfl (hO.r 12 (by decide) (by decide)) dX8_ask_178 (fun hd33_178 => ?_)
      refine lv_iload_n hM.1 hM.2.1 dX8_ask_181 rfl (lv_at hl 7 rfl) ?_
      refine z_iald hM hW hd33_178 rfl (vin_L (hO.l 12 (by decide) (by decide)) hx) (v := gi S 9 (112) (ix (x))) rfl dX8_ask_182 ?_
      refine lv_iconst (v := 3) hM.1 hM.2.1 dX8_ask_183 (by decide) ?_
      refine lv_icmp_eq hM.1 hM.2.1 dX8_ask_184 (tgt := 197) (by decide) (fun h => absurd h (fun q => absurd (h_24.symm.trans q) (by decide))) (fun _ => ?_)
      refine lv_aload_n hM.1 hM.2.1 dX8_ask_187 rfl (lv_at hl 6 rfl) ?_
      refine z_getr hM hW zc8 hO.1 rfl 12 (by decide) lf_X8_42 (t := 9) (j := 112) rfl (hO.r 12 (by decide) (by decide)) dX8_ask_188 (fun hd34_188 => ?_)
      refine lv_iload_n hM.1 hM.2.1 dX8_ask_191 rfl (lv_at hl 7 rfl) ?_
      refine z_iald hM hW hd34_188 rfl (vin_L (hO.l 12 (by decide) (by decide)) hx) (v := gi S 9 (112) (ix (x))) rfl dX8_ask_192 ?_
      refine lv_iconst (v := 5) hM.1 hM.2.1 dX8_ask_193 (by decide) ?_
      refine lv_icmp_ne hM.1 hM.2.1 dX8_ask_194 (tgt := 206) (by decide) (fun _ => ?_) (fun h => absurd h (fun q => absurd (h_24.symm.trans q) (by decide)))
      refine lv_iconst (v := (-1)) hM.1 hM.2.1 dX8_ask_206 (by decide) ?_
      refine lv_iconst (v := 0) hM.1 hM.2.1 dX8_ask_207 (by decide) ?_
      refine lv_iconst (v := 0) hM.1 hM.2.1 dX8_ask_208 (by decide) ?_
      refine z_Vv hM (hml.trans hl.1.symm) hW hS hlo zc8 hO.1 rfl zyX8_put lm_X8_146 li_yX8_put le_yX8_put (As := [.int (0), .int (y), .int (x), .int (gi S 9 (111) (ix (x))), .int (gi S 9 (112) (ix (x))), .int (gi S 9 (113) (ix (x))), .int (gi S 9 (118) (ix (x))), .int (gi S 9 (119) (ix (x))), .long (gj S 10 (120) (ix (x))), .int ((-1)), .int (0), .int (0)]) (rest := []) (c_X8_put (cn := cn) hO hcn hcm isB_0) rfl rfl (Nat.le_of_ble_eq_true rfl) ⟨Nat.le_of_ble_eq_true rfl, Nat.le_of_ble_eq_true rfl⟩ ⟨Nat.le_of_ble_eq_true rfl, Nat.le_of_ble_eq_true rfl⟩ dX8_ask_209 (fun H locs hW hS => ?_)
      obtain ⟨B6, hB6⟩ : ∃ B, B = (s_X8_put S cn (0) (y) (x) (gi S 9 (111) (ix (x))) (gi S 9 (112) (ix (x))) (gi S 9 (113) (ix (x))) (gi S 9 (118) (ix (x))) (gi S 9 (119) (ix (x))) (gj S 10 (120) (ix (x))) ((-1)) (0) (0)) := ⟨_, rfl⟩
      rw [← hB6] at hW
      have ke_B6 : B6.2.2 = S.2.2 := by rw [hB6]; simp only [pif_22, oel_22, k_si, k_sj, pif_same, oel_same, k_X6_set, k_X6_put, k_X0_showTag, k_X4_repeat, k_X7_sendRequest, k_X7_sendRequests, k_X7_beginPhase, k_X7_endPhase, k_X7_again, k_X3_obey, k_X7_serve, k_X7_twice, k_X2_learn, k_X8_votes, k_X8_silent, k_X8_side, k_X8_put]
      exact z_vret hM hlk hr hW hS (zF.of rfl (by subst hB6; unfold s_X8_ask; rw [pif_neg h_14, pif_pos h_24]; first | done | rfl)) dX8_ask_212
