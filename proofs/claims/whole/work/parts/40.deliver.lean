theorem mI.clock {n : Nat} {Z : zZ} {M : zS} {v : Int32} (h : mI n Z M) : mI n Z (si M 8 0 30 v) := h
theorem nI_bad {cn : Nat} {x : Int32} (h : x < 0 ∨ nI cn ≤ x) : ¬ x < 0 → nI cn ≤ x := fun q => h.elim (fun r => absurd r q) (fun r => r)
theorem toInt_nn {x : Int32} (h : ¬ x < 0) : x.toInt = (ix x : Int) := by
  rw [Int32.lt_iff_toInt_lt, Int32.toInt_zero] at h
  show x.toInt = (x.toInt.toNat : Int)
  omega
theorem mTab {x y : Int32} {tc L : Nat} (h0 : ¬ x < 0) (h1 : ¬ nI tc ≤ x) (htc : tc ≤ 16) (h2 : ¬ y < 0) (h3 : y ≤ 8) (hL : L = 144) : vp_in (9 * x + y) L := by
  have a1 := ix_lt_nI h0 h1 (by omega)
  have e8 : (8 : Int32).toInt = 8 := rfl
  rw [Int32.le_iff_toInt_le, toInt_nn h2, e8] at h3
  have hx := nI_ix h0
  have hy := nI_ix h2
  rw [← hx, ← hy, nI_m9, ← nI_ad, hL]
  exact nI_in (by omega) (by decide)
noncomputable def r_X8_deliver (S : zS) (n k : Nat) : Int32 := 
  (pif ((r_X8_canBe S k) = (0)) (0) 
    (pif ((gi S 11 (132) (k)) = (0)) (1) (1)))
noncomputable def s_X8_deliver (S : zS) (n k : Nat) : zS := 
  (pif ((r_X8_canBe S k) = (0)) (S) 
    (pif ((gi S 11 (132) (k)) = (0)) ((s_X8_request (si S 8 (0) (30) ((gi S 8 (0) (30)) + (1))) n k)) ((s_X8_answer (si S 8 (0) (30) ((gi S 8 (0) (30)) + (1))) n k))))
set_option maxHeartbeats 400000 in
set_option maxRecDepth 100000 in
theorem c_X8_deliver {l : Launch} {D : va_G} {ar : Nat → ClassId} {A : Nat → Prop} {Z : zZ} {S : zS} {n k : Nat} (hI : mI n Z S) (hk : k < ix (gi S 8 0 44)) : zMet l yX8_deliver prog_10_method_25_code 2 (some .boolean) ({ frames := 5, cells := 0, slots := 0, locals := 138 } : Room) D ar A Z S [.ref (Z.1 8 (0)), .int (nI k)] rvI (zF (r_X8_deliver S n k) Z (s_X8_deliver S n k)) := by
  refine z_body (by decide +kernel) (Nat.le_of_ble_eq_true rfl) ?_
  intro pX eX sX mX bX methX cX ls hM hr hlk hml hin hl hW hlo
  have hM : zM pX cX mX _ sX prog_10_method_25_code RX8 D ar := hM
  have hS : va_S A sX.heap sX.heap [] := va_S.rf
  have hl : lv_has ls 2 [(0, .ref (Z.1 8 (0))), (1, .int (nI k))] := hl
  have hO := hI.O
  have hn := hI.n
  have h7 := hI.n7
  have hcm9 := hI.cm
  refine lv_iload_n hM.1 hM.2.1 dX8_deliver_0 rfl (lv_at hl 1 rfl) ?_
  refine lv_if_lt hM.1 hM.2.1 dX8_deliver_1 (tgt := 20) (by decide) (fun h => absurd h (nI_pos (by omega))) (fun _ => ?_)
  refine lv_iload_n hM.1 hM.2.1 dX8_deliver_4 rfl (lv_at hl 1 rfl) ?_
  refine lv_aload_n hM.1 hM.2.1 dX8_deliver_5 rfl (lv_at hl 0 rfl) ?_
  refine z_get hM hW zc8 hI.O.1 rfl 44 (by decide) lf_X8_140 (v := .int (nI (ix (gi S 8 0 44)))) (congrArg Value.int (show gi S 8 (0) (44) = nI (ix (gi S 8 0 44)) from hI.cn)) dX8_deliver_6 ?_
  refine lv_icmp_ge hM.1 hM.2.1 dX8_deliver_9 (tgt := 20) (by decide) (fun h => absurd h (nI_ge (by omega) (by omega))) (fun _ => ?_)
  refine lv_aload_n hM.1 hM.2.1 dX8_deliver_12 rfl (lv_at hl 0 rfl) ?_
  refine lv_iload_n hM.1 hM.2.1 dX8_deliver_13 rfl (lv_at hl 1 rfl) ?_
  refine z_Vi hM (hml.trans hl.1.symm) hW hS hlo zc8 hI.O.1 rfl zyX8_canBe lm_X8_197 li_yX8_canBe le_yX8_canBe (As := [.int (nI k)]) (rest := []) (c_X8_canBe hO (by omega) (hI.msg hk).1 (hI.msg hk).2.1) rfl rfl (Nat.le_of_ble_eq_true rfl) ⟨Nat.le_of_ble_eq_true rfl, Nat.le_of_ble_eq_true rfl⟩ ⟨Nat.le_of_ble_eq_true rfl, Nat.le_of_ble_eq_true rfl⟩ dX8_deliver_14 (fun H locs hW hS => ?_)
  refine lv_if_ne hM.1 hM.2.1 dX8_deliver_17 (tgt := 22) (by decide) (fun h_17 => ?_) (fun h_17 => ?_)
  ·
    refine lv_aload_n hM.1 hM.2.1 dX8_deliver_22 rfl (lv_at hl 0 rfl) ?_
    refine lv_dup hM.1 hM.2.1 dX8_deliver_23 rfl ?_
    refine z_get hM hW zc8 hI.O.1 rfl 30 (by decide) lf_X8_157 (v := .int (gi S 8 (0) (30))) rfl dX8_deliver_24 ?_
    refine lv_iconst (v := 1) hM.1 hM.2.1 dX8_deliver_27 (by decide) ?_
    refine lv_iadd hM.1 hM.2.1 dX8_deliver_28 ?_
    refine z_puti hM hW hS zc8 hI.O.1 rfl 30 (by decide) rfl lf_X8_157 (Or.inl rfl) (tyX8 30) (tyX8_ok 30 (by decide)) rfl rfl dX8_deliver_29 (fun H locs hW hS => ?_)
    refine lv_aload_n hM.1 hM.2.1 dX8_deliver_32 rfl (lv_at hl 0 rfl) ?_
    refine z_getr hM hW zc8 hI.O.1 rfl 32 (by decide) lf_X8_93 (t := 11) (j := 132) rfl (hO.r 32 (by decide) (by decide)) dX8_deliver_33 (fun hd1_33 => ?_)
    refine lv_iload_n hM.1 hM.2.1 dX8_deliver_36 rfl (lv_at hl 1 rfl) ?_
    refine z_zald hM hW hd1_33 rfl (vin_nI (hO.l 32 (by decide) (by decide)) (by have : mlen 32 = 300 := rfl; omega) (by decide)) (v := gi S 11 (132) (k)) ((congrArg (gi (si S 8 (0) (30) ((gi S 8 (0) (30)) + (1))) 11 (132)) (nI_clamp (by omega))).trans rfl) dX8_deliver_37 ?_
    refine lv_if_eq hM.1 hM.2.1 dX8_deliver_38 (tgt := 49) (by decide) (fun h_38 => ?_) (fun h_38 => ?_)
    ·
      refine lv_aload_n hM.1 hM.2.1 dX8_deliver_49 rfl (lv_at hl 0 rfl) ?_
      refine lv_iload_n hM.1 hM.2.1 dX8_deliver_50 rfl (lv_at hl 1 rfl) ?_
      refine z_Vv hM (hml.trans hl.1.symm) hW hS hlo zc8 hI.O.1 rfl zyX8_request lm_X8_203 li_yX8_request le_yX8_request (As := [.int (nI k)]) (rest := []) (c_X8_request (hI.clock) hk) rfl rfl (Nat.le_of_ble_eq_true rfl) ⟨Nat.le_of_ble_eq_true rfl, Nat.le_of_ble_eq_true rfl⟩ ⟨Nat.le_of_ble_eq_true rfl, Nat.le_of_ble_eq_true rfl⟩ dX8_deliver_51 (fun H locs hW hS => ?_)
      refine lv_iconst (v := 1) hM.1 hM.2.1 dX8_deliver_54 (by decide) ?_
      exact z_iret hM hlk hr rfl hW hS (zF.of (by unfold r_X8_deliver; rw [pif_neg h_17, pif_pos h_38]; first | done | rfl) (by unfold s_X8_deliver; rw [pif_neg h_17, pif_pos h_38]; first | done | rfl)) dX8_deliver_55
    ·
      refine lv_aload_n hM.1 hM.2.1 dX8_deliver_41 rfl (lv_at hl 0 rfl) ?_
      refine lv_iload_n hM.1 hM.2.1 dX8_deliver_42 rfl (lv_at hl 1 rfl) ?_
      refine z_Vv hM (hml.trans hl.1.symm) hW hS hlo zc8 hI.O.1 rfl zyX8_answer lm_X8_200 li_yX8_answer le_yX8_answer (As := [.int (nI k)]) (rest := []) (c_X8_answer (hI.clock) hk) rfl rfl (Nat.le_of_ble_eq_true rfl) ⟨Nat.le_of_ble_eq_true rfl, Nat.le_of_ble_eq_true rfl⟩ ⟨Nat.le_of_ble_eq_true rfl, Nat.le_of_ble_eq_true rfl⟩ dX8_deliver_43 (fun H locs hW hS => ?_)
      refine lv_goto hM.1 hM.2.1 dX8_deliver_46 (tgt := 54) (by decide) ?_
      refine lv_iconst (v := 1) hM.1 hM.2.1 dX8_deliver_54 (by decide) ?_
      exact z_iret hM hlk hr rfl hW hS (zF.of (by unfold r_X8_deliver; rw [pif_neg h_17, pif_neg h_38]; first | done | rfl) (by unfold s_X8_deliver; rw [pif_neg h_17, pif_neg h_38]; first | done | rfl)) dX8_deliver_55
  ·
    refine lv_iconst (v := 0) hM.1 hM.2.1 dX8_deliver_20 (by decide) ?_
    exact z_iret hM hlk hr rfl hW hS (zF.of (by unfold r_X8_deliver; rw [pif_pos h_17]; first | done | rfl) (by unfold s_X8_deliver; rw [pif_pos h_17]; first | done | rfl)) dX8_deliver_21

noncomputable def r_X8_lose (S : zS) (n k : Nat) : Int32 := (1)
noncomputable def s_X8_lose (S : zS) (n k : Nat) : zS := ((s_X8_take S (ix (gi S 8 0 44)) k))
set_option maxHeartbeats 400000 in
set_option maxRecDepth 100000 in
theorem c_X8_lose {l : Launch} {D : va_G} {ar : Nat → ClassId} {A : Nat → Prop} {Z : zZ} {S : zS} {n k : Nat} (hI : mI n Z S) (hk : k < ix (gi S 8 0 44)) : zMet l yX8_lose prog_10_method_27_code 2 (some .boolean) ({ frames := 1, cells := 0, slots := 0, locals := 22 } : Room) D ar A Z S [.ref (Z.1 8 (0)), .int (nI k)] rvI (zF (r_X8_lose S n k) Z (s_X8_lose S n k)) := by
  refine z_body (by decide +kernel) (Nat.le_of_ble_eq_true rfl) ?_
  intro pX eX sX mX bX methX cX ls hM hr hlk hml hin hl hW hlo
  have hM : zM pX cX mX _ sX prog_10_method_27_code RX8 D ar := hM
  have hS : va_S A sX.heap sX.heap [] := va_S.rf
  have hl : lv_has ls 2 [(0, .ref (Z.1 8 (0))), (1, .int (nI k))] := hl
  have hO := hI.O
  have hn := hI.n
  have h7 := hI.n7
  have hcm9 := hI.cm
  refine lv_iload_n hM.1 hM.2.1 dX8_lose_0 rfl (lv_at hl 1 rfl) ?_
  refine lv_if_lt hM.1 hM.2.1 dX8_lose_1 (tgt := 12) (by decide) (fun h => absurd h (nI_pos (by omega))) (fun _ => ?_)
  refine lv_iload_n hM.1 hM.2.1 dX8_lose_4 rfl (lv_at hl 1 rfl) ?_
  refine lv_aload_n hM.1 hM.2.1 dX8_lose_5 rfl (lv_at hl 0 rfl) ?_
  refine z_get hM hW zc8 hI.O.1 rfl 44 (by decide) lf_X8_140 (v := .int (nI (ix (gi S 8 0 44)))) (congrArg Value.int (show gi S 8 (0) (44) = nI (ix (gi S 8 0 44)) from hI.cn)) dX8_lose_6 ?_
  refine lv_icmp_lt hM.1 hM.2.1 dX8_lose_9 (tgt := 14) (by decide) (fun _ => ?_) (fun h => absurd (nI_lt (by omega) (by omega)) h)
  refine lv_aload_n hM.1 hM.2.1 dX8_lose_14 rfl (lv_at hl 0 rfl) ?_
  refine lv_iload_n hM.1 hM.2.1 dX8_lose_15 rfl (lv_at hl 1 rfl) ?_
  refine z_Vv hM (hml.trans hl.1.symm) hW hS hlo zc8 hI.O.1 rfl zyX8_take lm_X8_185 li_yX8_take le_yX8_take (As := [.int (nI k)]) (rest := []) (c_X8_take hO hI.cn hI.cm hk hI.b) rfl rfl (Nat.le_of_ble_eq_true rfl) ⟨Nat.le_of_ble_eq_true rfl, Nat.le_of_ble_eq_true rfl⟩ ⟨Nat.le_of_ble_eq_true rfl, Nat.le_of_ble_eq_true rfl⟩ dX8_lose_16 (fun H locs hW hS => ?_)
  refine lv_iconst (v := 1) hM.1 hM.2.1 dX8_lose_19 (by decide) ?_
  exact z_iret hM hlk hr rfl hW hS (zF.of (by unfold r_X8_lose; rfl) (by unfold s_X8_lose; rfl)) dX8_lose_20

noncomputable def r_X8_twice (S : zS) (n k : Nat) : Int32 := 
  (pif ((nI (ix (gi S 8 0 44))) = (300)) (0) (1))
noncomputable def s_X8_twice (S : zS) (n k : Nat) : zS := 
  (pif ((nI (ix (gi S 8 0 44))) = (300)) (S) ((s_X8_put S (ix (gi S 8 0 44)) (gi S 11 (132) (k)) (gi S 9 (133) (k)) (gi S 9 (134) (k)) (gi S 9 (135) (k)) (gi S 9 (136) (k)) (gi S 9 (137) (k)) (gi S 9 (138) (k)) (gi S 9 (139) (k)) (gj S 10 (143) (k)) (gi S 9 (140) (k)) (gi S 9 (141) (k)) (gi S 9 (142) (k)))))
set_option maxHeartbeats 400000 in
set_option maxRecDepth 100000 in
theorem c_X8_twice {l : Launch} {D : va_G} {ar : Nat → ClassId} {A : Nat → Prop} {Z : zZ} {S : zS} {n k : Nat} (hI : mI n Z S) (hk : k < ix (gi S 8 0 44)) : zMet l yX8_twice prog_10_method_28_code 2 (some .boolean) ({ frames := 1, cells := 0, slots := 0, locals := 33 } : Room) D ar A Z S [.ref (Z.1 8 (0)), .int (nI k)] rvI (zF (r_X8_twice S n k) Z (s_X8_twice S n k)) := by
  refine z_body (by decide +kernel) (Nat.le_of_ble_eq_true rfl) ?_
  intro pX eX sX mX bX methX cX ls hM hr hlk hml hin hl hW hlo
  have hM : zM pX cX mX _ sX prog_10_method_28_code RX8 D ar := hM
  have hS : va_S A sX.heap sX.heap [] := va_S.rf
  have hl : lv_has ls 2 [(0, .ref (Z.1 8 (0))), (1, .int (nI k))] := hl
  have hO := hI.O
  have hn := hI.n
  have h7 := hI.n7
  have hcm9 := hI.cm
  refine lv_iload_n hM.1 hM.2.1 dX8_twice_0 rfl (lv_at hl 1 rfl) ?_
  refine lv_if_lt hM.1 hM.2.1 dX8_twice_1 (tgt := 22) (by decide) (fun h => absurd h (nI_pos (by omega))) (fun _ => ?_)
  refine lv_iload_n hM.1 hM.2.1 dX8_twice_4 rfl (lv_at hl 1 rfl) ?_
  refine lv_aload_n hM.1 hM.2.1 dX8_twice_5 rfl (lv_at hl 0 rfl) ?_
  refine z_get hM hW zc8 hI.O.1 rfl 44 (by decide) lf_X8_140 (v := .int (nI (ix (gi S 8 0 44)))) (congrArg Value.int (show gi S 8 (0) (44) = nI (ix (gi S 8 0 44)) from hI.cn)) dX8_twice_6 ?_
  refine lv_icmp_ge hM.1 hM.2.1 dX8_twice_9 (tgt := 22) (by decide) (fun h => absurd h (nI_ge (by omega) (by omega))) (fun _ => ?_)
  refine lv_aload_n hM.1 hM.2.1 dX8_twice_12 rfl (lv_at hl 0 rfl) ?_
  refine z_get hM hW zc8 hI.O.1 rfl 44 (by decide) lf_X8_140 (v := .int (nI (ix (gi S 8 0 44)))) (congrArg Value.int (show gi S 8 (0) (44) = nI (ix (gi S 8 0 44)) from hI.cn)) dX8_twice_13 ?_
  refine lv_sipush (v := 300) hM.1 hM.2.1 dX8_twice_16 (by decide) ?_
  refine lv_icmp_ne hM.1 hM.2.1 dX8_twice_19 (tgt := 24) (by decide) (fun h_19 => ?_) (fun h_19 => ?_)
  ·
    refine lv_aload_n hM.1 hM.2.1 dX8_twice_24 rfl (lv_at hl 0 rfl) ?_
    refine lv_aload_n hM.1 hM.2.1 dX8_twice_25 rfl (lv_at hl 0 rfl) ?_
    refine z_getr hM hW zc8 hI.O.1 rfl 32 (by decide) lf_X8_93 (t := 11) (j := 132) rfl (hO.r 32 (by decide) (by decide)) dX8_twice_26 (fun hd1_26 => ?_)
    refine lv_iload_n hM.1 hM.2.1 dX8_twice_29 rfl (lv_at hl 1 rfl) ?_
    refine z_zald hM hW hd1_26 rfl (vin_nI (hO.l 32 (by decide) (by decide)) (by have : mlen 32 = 300 := rfl; omega) (by decide)) (v := gi S 11 (132) (k)) ((congrArg (gi S 11 (132)) (nI_clamp (by omega))).trans rfl) dX8_twice_30 ?_
    refine lv_aload_n hM.1 hM.2.1 dX8_twice_31 rfl (lv_at hl 0 rfl) ?_
    refine z_getr hM hW zc8 hI.O.1 rfl 33 (by decide) lf_X8_96 (t := 9) (j := 133) rfl (hO.r 33 (by decide) (by decide)) dX8_twice_32 (fun hd2_32 => ?_)
    refine lv_iload_n hM.1 hM.2.1 dX8_twice_35 rfl (lv_at hl 1 rfl) ?_
    refine z_iald hM hW hd2_32 rfl (vin_nI (hO.l 33 (by decide) (by decide)) (by have : mlen 33 = 300 := rfl; omega) (by decide)) (v := gi S 9 (133) (k)) ((congrArg (gi S 9 (133)) (nI_clamp (by omega))).trans rfl) dX8_twice_36 ?_
    refine lv_aload_n hM.1 hM.2.1 dX8_twice_37 rfl (lv_at hl 0 rfl) ?_
    refine z_getr hM hW zc8 hI.O.1 rfl 34 (by decide) lf_X8_99 (t := 9) (j := 134) rfl (hO.r 34 (by decide) (by decide)) dX8_twice_38 (fun hd3_38 => ?_)
    refine lv_iload_n hM.1 hM.2.1 dX8_twice_41 rfl (lv_at hl 1 rfl) ?_
    refine z_iald hM hW hd3_38 rfl (vin_nI (hO.l 34 (by decide) (by decide)) (by have : mlen 34 = 300 := rfl; omega) (by decide)) (v := gi S 9 (134) (k)) ((congrArg (gi S 9 (134)) (nI_clamp (by omega))).trans rfl) dX8_twice_42 ?_
    refine lv_aload_n hM.1 hM.2.1 dX8_twice_43 rfl (lv_at hl 0 rfl) ?_
    refine z_getr hM hW zc8 hI.O.1 rfl 35 (by decide) lf_X8_102 (t := 9) (j := 135) rfl (hO.r 35 (by decide) (by decide)) dX8_twice_44 (fun hd4_44 => ?_)
    refine lv_iload_n hM.1 hM.2.1 dX8_twice_47 rfl (lv_at hl 1 rfl) ?_
    refine z_iald hM hW hd4_44 rfl (vin_nI (hO.l 35 (by decide) (by decide)) (by have : mlen 35 = 300 := rfl; omega) (by decide)) (v := gi S 9 (135) (k)) ((congrArg (gi S 9 (135)) (nI_clamp (by omega))).trans rfl) dX8_twice_48 ?_
    refine lv_aload_n hM.1 hM.2.1 dX8_twice_49 rfl (lv_at hl 0 rfl) ?_
    refine z_getr hM hW zc8 hI.O.1 rfl 36 (by decide) lf_X8_105 (t := 9) (j := 136) rfl (hO.r 36 (by decide) (by decide)) dX8_twice_50 (fun hd5_50 => ?_)
    refine lv_iload_n hM.1 hM.2.1 dX8_twice_53 rfl (lv_at hl 1 rfl) ?_
    refine z_iald hM hW hd5_50 rfl (vin_nI (hO.l 36 (by decide) (by decide)) (by have : mlen 36 = 300 := rfl; omega) (by decide)) (v := gi S 9 (136) (k)) ((congrArg (gi S 9 (136)) (nI_clamp (by omega))).trans rfl) dX8_twice_54 ?_
    refine lv_aload_n hM.1 hM.2.1 dX8_twice_55 rfl (lv_at hl 0 rfl) ?_
    refine z_getr hM hW zc8 hI.O.1 rfl 37 (by decide) lf_X8_108 (t := 9) (j := 137) rfl (hO.r 37 (by decide) (by decide)) dX8_twice_56 (fun hd6_56 => ?_)
    refine lv_iload_n hM.1 hM.2.1 dX8_twice_59 rfl (lv_at hl 1 rfl) ?_
    refine z_iald hM hW hd6_56 rfl (vin_nI (hO.l 37 (by decide) (by decide)) (by have : mlen 37 = 300 := rfl; omega) (by decide)) (v := gi S 9 (137) (k)) ((congrArg (gi S 9 (137)) (nI_clamp (by omega))).trans rfl) dX8_twice_60 ?_
    refine lv_aload_n hM.1 hM.2.1 dX8_twice_61 rfl (lv_at hl 0 rfl) ?_
    refine z_getr hM hW zc8 hI.O.1 rfl 38 (by decide) lf_X8_111 (t := 9) (j := 138) rfl (hO.r 38 (by decide) (by decide)) dX8_twice_62 (fun hd7_62 => ?_)
    refine lv_iload_n hM.1 hM.2.1 dX8_twice_65 rfl (lv_at hl 1 rfl) ?_
    refine z_iald hM hW hd7_62 rfl (vin_nI (hO.l 38 (by decide) (by decide)) (by have : mlen 38 = 300 := rfl; omega) (by decide)) (v := gi S 9 (138) (k)) ((congrArg (gi S 9 (138)) (nI_clamp (by omega))).trans rfl) dX8_twice_66 ?_
    refine lv_aload_n hM.1 hM.2.1 dX8_twice_67 rfl (lv_at hl 0 rfl) ?_
    refine z_getr hM hW zc8 hI.O.1 rfl 39 (by decide) lf_X8_114 (t := 9) (j := 139) rfl (hO.r 39 (by decide) (by decide)) dX8_twice_68 (fun hd8_68 => ?_)
    refine lv_iload_n hM.1 hM.2.1 dX8_twice_71 rfl (lv_at hl 1 rfl) ?_
    refine z_iald hM hW hd8_68 rfl (vin_nI (hO.l 39 (by decide) (by decide)) (by have : mlen 39 = 300 := rfl; omega) (by decide)) (v := gi S 9 (139) (k)) ((congrArg (gi S 9 (139)) (nI_clamp (by omega))).trans rfl) dX8_twice_72 ?_
    refine lv_aload_n hM.1 hM.2.1 dX8_twice_73 rfl (lv_at hl 0 rfl) ?_
    refine z_getr hM hW zc8 hI.O.1 rfl 43 (by decide) lf_X8_126 (t := 10) (j := 143) rfl (hO.r 43 (by decide) (by decide)) dX8_twice_74 (fun hd9_74 => ?_)
    refine lv_iload_n hM.1 hM.2.1 dX8_twice_77 rfl (lv_at hl 1 rfl) ?_
    refine z_lald hM hW hd9_74 rfl (vin_nI (hO.l 43 (by decide) (by decide)) (by have : mlen 43 = 300 := rfl; omega) (by decide)) (v := gj S 10 (143) (k)) ((congrArg (gj S 10 (143)) (nI_clamp (by omega))).trans rfl) dX8_twice_78 ?_
    refine lv_aload_n hM.1 hM.2.1 dX8_twice_79 rfl (lv_at hl 0 rfl) ?_
    refine z_getr hM hW zc8 hI.O.1 rfl 40 (by decide) lf_X8_117 (t := 9) (j := 140) rfl (hO.r 40 (by decide) (by decide)) dX8_twice_80 (fun hd10_80 => ?_)
    refine lv_iload_n hM.1 hM.2.1 dX8_twice_83 rfl (lv_at hl 1 rfl) ?_
    refine z_iald hM hW hd10_80 rfl (vin_nI (hO.l 40 (by decide) (by decide)) (by have : mlen 40 = 300 := rfl; omega) (by decide)) (v := gi S 9 (140) (k)) ((congrArg (gi S 9 (140)) (nI_clamp (by omega))).trans rfl) dX8_twice_84 ?_
    refine lv_aload_n hM.1 hM.2.1 dX8_twice_85 rfl (lv_at hl 0 rfl) ?_
    refine z_getr hM hW zc8 hI.O.1 rfl 41 (by decide) lf_X8_120 (t := 9) (j := 141) rfl (hO.r 41 (by decide) (by decide)) dX8_twice_86 (fun hd11_86 => ?_)
    refine lv_iload_n hM.1 hM.2.1 dX8_twice_89 rfl (lv_at hl 1 rfl) ?_
    refine z_iald hM hW hd11_86 rfl (vin_nI (hO.l 41 (by decide) (by decide)) (by have : mlen 41 = 300 := rfl; omega) (by decide)) (v := gi S 9 (141) (k)) ((congrArg (gi S 9 (141)) (nI_clamp (by omega))).trans rfl) dX8_twice_90 ?_
    refine lv_aload_n hM.1 hM.2.1 dX8_twice_91 rfl (lv_at hl 0 rfl) ?_
    refine z_getr hM hW zc8 hI.O.1 rfl 42 (by decide) lf_X8_123 (t := 9) (j := 142) rfl (hO.r 42 (by decide) (by decide)) dX8_twice_92 (fun hd12_92 => ?_)
    refine lv_iload_n hM.1 hM.2.1 dX8_twice_95 rfl (lv_at hl 1 rfl) ?_
    refine z_iald hM hW hd12_92 rfl (vin_nI (hO.l 42 (by decide) (by decide)) (by have : mlen 42 = 300 := rfl; omega) (by decide)) (v := gi S 9 (142) (k)) ((congrArg (gi S 9 (142)) (nI_clamp (by omega))).trans rfl) dX8_twice_96 ?_
    refine z_Vv hM (hml.trans hl.1.symm) hW hS hlo zc8 hI.O.1 rfl zyX8_put lm_X8_146 li_yX8_put le_yX8_put (As := [.int (gi S 11 (132) (k)), .int (gi S 9 (133) (k)), .int (gi S 9 (134) (k)), .int (gi S 9 (135) (k)), .int (gi S 9 (136) (k)), .int (gi S 9 (137) (k)), .int (gi S 9 (138) (k)), .int (gi S 9 (139) (k)), .long (gj S 10 (143) (k)), .int (gi S 9 (140) (k)), .int (gi S 9 (141) (k)), .int (gi S 9 (142) (k))]) (rest := []) (c_X8_put hO hI.cn hI.cm (hI.b _ (by omega))) rfl rfl (Nat.le_of_ble_eq_true rfl) ⟨Nat.le_of_ble_eq_true rfl, Nat.le_of_ble_eq_true rfl⟩ ⟨Nat.le_of_ble_eq_true rfl, Nat.le_of_ble_eq_true rfl⟩ dX8_twice_97 (fun H locs hW hS => ?_)
    refine lv_iconst (v := 1) hM.1 hM.2.1 dX8_twice_100 (by decide) ?_
    exact z_iret hM hlk hr rfl hW hS (zF.of (by unfold r_X8_twice; rw [pif_neg h_19]; first | done | rfl) (by unfold s_X8_twice; rw [pif_neg h_19]; first | done | rfl)) dX8_twice_101
  ·
    refine lv_iconst (v := 0) hM.1 hM.2.1 dX8_twice_22 (by decide) ?_
    exact z_iret hM hlk hr rfl hW hS (zF.of (by unfold r_X8_twice; rw [pif_pos h_19]; first | done | rfl) (by unfold s_X8_twice; rw [pif_pos h_19]; first | done | rfl)) dX8_twice_23

set_option maxHeartbeats 400000 in
set_option maxRecDepth 100000 in
theorem c_X8_deliver_n {l : Launch} {D : va_G} {ar : Nat → ClassId} {A : Nat → Prop} {Z : zZ} {S : zS} {n : Nat} {x : Int32} (hI : mI n Z S) (hbad : x < 0 ∨ nI (ix (gi S 8 0 44)) ≤ x) : zMet l yX8_deliver prog_10_method_25_code 2 (some .boolean) ({ frames := 5, cells := 0, slots := 0, locals := 138 } : Room) D ar A Z S [.ref (Z.1 8 (0)), .int (x)] rvI (zF 0 Z S) := by
  refine z_body (by decide +kernel) (Nat.le_of_ble_eq_true rfl) ?_
  intro pX eX sX mX bX methX cX ls hM hr hlk hml hin hl hW hlo
  have hM : zM pX cX mX _ sX prog_10_method_25_code RX8 D ar := hM
  have hS : va_S A sX.heap sX.heap [] := va_S.rf
  have hl : lv_has ls 2 [(0, .ref (Z.1 8 (0))), (1, .int (x))] := hl
  have hO := hI.O
  refine lv_iload_n hM.1 hM.2.1 dX8_deliver_0 rfl (lv_at hl 1 rfl) ?_
  refine lv_if_lt hM.1 hM.2.1 dX8_deliver_1 (tgt := 20) (by decide) (fun h_1 => ?_) (fun h_1 => ?_)
  ·
    refine lv_iconst (v := 0) hM.1 hM.2.1 dX8_deliver_20 (by decide) ?_
    exact z_iret hM hlk hr rfl hW hS zF.rf dX8_deliver_21
  ·
    refine lv_iload_n hM.1 hM.2.1 dX8_deliver_4 rfl (lv_at hl 1 rfl) ?_
    refine lv_aload_n hM.1 hM.2.1 dX8_deliver_5 rfl (lv_at hl 0 rfl) ?_
    refine z_get hM hW zc8 hI.O.1 rfl 44 (by decide) lf_X8_140 (v := .int (nI (ix (gi S 8 0 44)))) (congrArg Value.int (show gi S 8 (0) (44) = nI (ix (gi S 8 0 44)) from hI.cn)) dX8_deliver_6 ?_
    refine lv_icmp_ge hM.1 hM.2.1 dX8_deliver_9 (tgt := 20) (by decide) (fun _ => ?_) (fun h => absurd (nI_bad hbad h_1) h)
    refine lv_iconst (v := 0) hM.1 hM.2.1 dX8_deliver_20 (by decide) ?_
    exact z_iret hM hlk hr rfl hW hS zF.rf dX8_deliver_21

set_option maxHeartbeats 400000 in
set_option maxRecDepth 100000 in
theorem c_X8_lose_n {l : Launch} {D : va_G} {ar : Nat → ClassId} {A : Nat → Prop} {Z : zZ} {S : zS} {n : Nat} {x : Int32} (hI : mI n Z S) (hbad : x < 0 ∨ nI (ix (gi S 8 0 44)) ≤ x) : zMet l yX8_lose prog_10_method_27_code 2 (some .boolean) ({ frames := 1, cells := 0, slots := 0, locals := 22 } : Room) D ar A Z S [.ref (Z.1 8 (0)), .int (x)] rvI (zF 0 Z S) := by
  refine z_body (by decide +kernel) (Nat.le_of_ble_eq_true rfl) ?_
  intro pX eX sX mX bX methX cX ls hM hr hlk hml hin hl hW hlo
  have hM : zM pX cX mX _ sX prog_10_method_27_code RX8 D ar := hM
  have hS : va_S A sX.heap sX.heap [] := va_S.rf
  have hl : lv_has ls 2 [(0, .ref (Z.1 8 (0))), (1, .int (x))] := hl
  have hO := hI.O
  refine lv_iload_n hM.1 hM.2.1 dX8_lose_0 rfl (lv_at hl 1 rfl) ?_
  refine lv_if_lt hM.1 hM.2.1 dX8_lose_1 (tgt := 12) (by decide) (fun h_1 => ?_) (fun h_1 => ?_)
  ·
    refine lv_iconst (v := 0) hM.1 hM.2.1 dX8_lose_12 (by decide) ?_
    exact z_iret hM hlk hr rfl hW hS zF.rf dX8_lose_13
  ·
    refine lv_iload_n hM.1 hM.2.1 dX8_lose_4 rfl (lv_at hl 1 rfl) ?_
    refine lv_aload_n hM.1 hM.2.1 dX8_lose_5 rfl (lv_at hl 0 rfl) ?_
    refine z_get hM hW zc8 hI.O.1 rfl 44 (by decide) lf_X8_140 (v := .int (nI (ix (gi S 8 0 44)))) (congrArg Value.int (show gi S 8 (0) (44) = nI (ix (gi S 8 0 44)) from hI.cn)) dX8_lose_6 ?_
    refine lv_icmp_lt hM.1 hM.2.1 dX8_lose_9 (tgt := 14) (by decide) (fun h => absurd h (Int32.not_lt.mpr (nI_bad hbad h_1))) (fun _ => ?_)
    refine lv_iconst (v := 0) hM.1 hM.2.1 dX8_lose_12 (by decide) ?_
    exact z_iret hM hlk hr rfl hW hS zF.rf dX8_lose_13

set_option maxHeartbeats 400000 in
set_option maxRecDepth 100000 in
theorem c_X8_twice_n {l : Launch} {D : va_G} {ar : Nat → ClassId} {A : Nat → Prop} {Z : zZ} {S : zS} {n : Nat} {x : Int32} (hI : mI n Z S) (hbad : x < 0 ∨ nI (ix (gi S 8 0 44)) ≤ x) : zMet l yX8_twice prog_10_method_28_code 2 (some .boolean) ({ frames := 1, cells := 0, slots := 0, locals := 33 } : Room) D ar A Z S [.ref (Z.1 8 (0)), .int (x)] rvI (zF 0 Z S) := by
  refine z_body (by decide +kernel) (Nat.le_of_ble_eq_true rfl) ?_
  intro pX eX sX mX bX methX cX ls hM hr hlk hml hin hl hW hlo
  have hM : zM pX cX mX _ sX prog_10_method_28_code RX8 D ar := hM
  have hS : va_S A sX.heap sX.heap [] := va_S.rf
  have hl : lv_has ls 2 [(0, .ref (Z.1 8 (0))), (1, .int (x))] := hl
  have hO := hI.O
  refine lv_iload_n hM.1 hM.2.1 dX8_twice_0 rfl (lv_at hl 1 rfl) ?_
  refine lv_if_lt hM.1 hM.2.1 dX8_twice_1 (tgt := 22) (by decide) (fun h_1 => ?_) (fun h_1 => ?_)
  ·
    refine lv_iconst (v := 0) hM.1 hM.2.1 dX8_twice_22 (by decide) ?_
    exact z_iret hM hlk hr rfl hW hS zF.rf dX8_twice_23
  ·
    refine lv_iload_n hM.1 hM.2.1 dX8_twice_4 rfl (lv_at hl 1 rfl) ?_
    refine lv_aload_n hM.1 hM.2.1 dX8_twice_5 rfl (lv_at hl 0 rfl) ?_
    refine z_get hM hW zc8 hI.O.1 rfl 44 (by decide) lf_X8_140 (v := .int (nI (ix (gi S 8 0 44)))) (congrArg Value.int (show gi S 8 (0) (44) = nI (ix (gi S 8 0 44)) from hI.cn)) dX8_twice_6 ?_
    refine lv_icmp_ge hM.1 hM.2.1 dX8_twice_9 (tgt := 22) (by decide) (fun _ => ?_) (fun h => absurd (nI_bad hbad h_1) h)
    refine lv_iconst (v := 0) hM.1 hM.2.1 dX8_twice_22 (by decide) ?_
    exact z_iret hM hlk hr rfl hW hS zF.rf dX8_twice_23

noncomputable def r_X8_table (S : zS) (n : Nat) (x y : Int32) : Int32 := 
  (pif ((x) < (0)) ((-1)) 
    (pif ((nI (ix (gi S 8 0 10))) ≤ (x)) ((-1)) 
      (pif ((y) < (0)) ((-1)) 
        (pif ((y) ≤ (8)) 
          (pif ((7) ≤ (y)) (gi S 9 (108) (ix (((9) * (x)) + (y)))) 
            (pif ((y) < (nI n)) (gi S 9 (108) (ix (((9) * (x)) + (y)))) ((-1)))) ((-1))))))
set_option maxHeartbeats 400000 in
set_option maxRecDepth 100000 in
theorem c_X8_table {l : Launch} {D : va_G} {ar : Nat → ClassId} {A : Nat → Prop} {Z : zZ} {S : zS} {n : Nat} {x y : Int32} (hI : mI n Z S)  : zMet l yX8_table prog_10_method_39_code 3 (some .int) ({ frames := 0, cells := 0, slots := 0, locals := 0 } : Room) D ar A Z S [.ref (Z.1 8 (0)), .int (x), .int (y)] rvI (zF (r_X8_table S n x y) Z S) := by
  refine z_body (by decide +kernel) (Nat.le_of_ble_eq_true rfl) ?_
  intro pX eX sX mX bX methX cX ls hM hr hlk hml hin hl hW hlo
  have hM : zM pX cX mX _ sX prog_10_method_39_code RX8 D ar := hM
  have hS : va_S A sX.heap sX.heap [] := va_S.rf
  have hl : lv_has ls 3 [(0, .ref (Z.1 8 (0))), (1, .int (x)), (2, .int (y))] := hl
  have hO := hI.O
  have hn := hI.n
  have h7 := hI.n7
  have hcm9 := hI.cm
  refine lv_iload_n hM.1 hM.2.1 dX8_table_0 rfl (lv_at hl 1 rfl) ?_
  refine lv_if_lt hM.1 hM.2.1 dX8_table_1 (tgt := 22) (by decide) (fun h_1 => ?_) (fun h_1 => ?_)
  ·
    refine lv_iconst (v := (-1)) hM.1 hM.2.1 dX8_table_22 (by decide) ?_
    exact z_iret hM hlk hr rfl hW hS (zF.of (by unfold r_X8_table; rw [pif_pos h_1]; first | done | rfl) rfl) dX8_table_23
  ·
    refine lv_iload_n hM.1 hM.2.1 dX8_table_4 rfl (lv_at hl 1 rfl) ?_
    refine lv_aload_n hM.1 hM.2.1 dX8_table_5 rfl (lv_at hl 0 rfl) ?_
    refine z_get hM hW zc8 hI.O.1 rfl 10 (by decide) lf_X8_133 (v := .int (nI (ix (gi S 8 0 10)))) (congrArg Value.int (show gi S 8 (0) (10) = nI (ix (gi S 8 0 10)) from hI.tc)) dX8_table_6 ?_
    refine lv_icmp_ge hM.1 hM.2.1 dX8_table_9 (tgt := 22) (by decide) (fun h_9 => ?_) (fun h_9 => ?_)
    ·
      refine lv_iconst (v := (-1)) hM.1 hM.2.1 dX8_table_22 (by decide) ?_
      exact z_iret hM hlk hr rfl hW hS (zF.of (by unfold r_X8_table; rw [pif_neg h_1, pif_pos h_9]; first | done | rfl) rfl) dX8_table_23
    ·
      refine lv_iload_n hM.1 hM.2.1 dX8_table_12 rfl (lv_at hl 2 rfl) ?_
      refine lv_if_lt hM.1 hM.2.1 dX8_table_13 (tgt := 22) (by decide) (fun h_13 => ?_) (fun h_13 => ?_)
      ·
        refine lv_iconst (v := (-1)) hM.1 hM.2.1 dX8_table_22 (by decide) ?_
        exact z_iret hM hlk hr rfl hW hS (zF.of (by unfold r_X8_table; rw [pif_neg h_1, pif_neg h_9, pif_pos h_13]; first | done | rfl) rfl) dX8_table_23
      ·
        refine lv_iload_n hM.1 hM.2.1 dX8_table_16 rfl (lv_at hl 2 rfl) ?_
        refine lv_bipush (v := 8) hM.1 hM.2.1 dX8_table_17 (by decide) ?_
        refine lv_icmp_le hM.1 hM.2.1 dX8_table_19 (tgt := 24) (by decide) (fun h_19 => ?_) (fun h_19 => ?_)
        ·
          refine lv_iload_n hM.1 hM.2.1 dX8_table_24 rfl (lv_at hl 2 rfl) ?_
          refine lv_bipush (v := 7) hM.1 hM.2.1 dX8_table_25 (by decide) ?_
          refine lv_icmp_ge hM.1 hM.2.1 dX8_table_27 (tgt := 42) (by decide) (fun h_27 => ?_) (fun h_27 => ?_)
          ·
            refine lv_aload_n hM.1 hM.2.1 dX8_table_42 rfl (lv_at hl 0 rfl) ?_
            refine z_getr hM hW zc8 hI.O.1 rfl 8 (by decide) lf_X8_33 (t := 9) (j := 108) rfl (hO.r 8 (by decide) (by decide)) dX8_table_43 (fun hd1_43 => ?_)
            refine lv_bipush (v := 9) hM.1 hM.2.1 dX8_table_46 (by decide) ?_
            refine lv_iload_n hM.1 hM.2.1 dX8_table_48 rfl (lv_at hl 1 rfl) ?_
            refine lv_imul hM.1 hM.2.1 dX8_table_49 ?_
            refine lv_iload_n hM.1 hM.2.1 dX8_table_50 rfl (lv_at hl 2 rfl) ?_
            refine lv_iadd hM.1 hM.2.1 dX8_table_51 ?_
            refine z_iald hM hW hd1_43 rfl (mTab h_1 h_9 hI.tm h_13 h_19 (hO.l 8 (by decide) (by decide))) (v := gi S 9 (108) (ix (((9) * (x)) + (y)))) rfl dX8_table_52 ?_
            exact z_iret hM hlk hr rfl hW hS (zF.of (by unfold r_X8_table; rw [pif_neg h_1, pif_neg h_9, pif_neg h_13, pif_pos h_19, pif_pos h_27]; first | done | rfl) rfl) dX8_table_53
          ·
            refine lv_iload_n hM.1 hM.2.1 dX8_table_30 rfl (lv_at hl 2 rfl) ?_
            refine lv_aload_n hM.1 hM.2.1 dX8_table_31 rfl (lv_at hl 0 rfl) ?_
            refine z_get hM hW zc8 hI.O.1 rfl 0 (by decide) lf_X8_129 (v := .int (nI n)) (congrArg Value.int (show gi S 8 (0) (0) = nI n from hn)) dX8_table_32 ?_
            refine lv_icmp_lt hM.1 hM.2.1 dX8_table_35 (tgt := 42) (by decide) (fun h_35 => ?_) (fun h_35 => ?_)
            ·
              refine lv_aload_n hM.1 hM.2.1 dX8_table_42 rfl (lv_at hl 0 rfl) ?_
              refine z_getr hM hW zc8 hI.O.1 rfl 8 (by decide) lf_X8_33 (t := 9) (j := 108) rfl (hO.r 8 (by decide) (by decide)) dX8_table_43 (fun hd2_43 => ?_)
              refine lv_bipush (v := 9) hM.1 hM.2.1 dX8_table_46 (by decide) ?_
              refine lv_iload_n hM.1 hM.2.1 dX8_table_48 rfl (lv_at hl 1 rfl) ?_
              refine lv_imul hM.1 hM.2.1 dX8_table_49 ?_
              refine lv_iload_n hM.1 hM.2.1 dX8_table_50 rfl (lv_at hl 2 rfl) ?_
              refine lv_iadd hM.1 hM.2.1 dX8_table_51 ?_
              refine z_iald hM hW hd2_43 rfl (mTab h_1 h_9 hI.tm h_13 h_19 (hO.l 8 (by decide) (by decide))) (v := gi S 9 (108) (ix (((9) * (x)) + (y)))) rfl dX8_table_52 ?_
              exact z_iret hM hlk hr rfl hW hS (zF.of (by unfold r_X8_table; rw [pif_neg h_1, pif_neg h_9, pif_neg h_13, pif_pos h_19, pif_neg h_27, pif_pos h_35]; first | done | rfl) rfl) dX8_table_53
            ·
              refine lv_iconst (v := (-1)) hM.1 hM.2.1 dX8_table_38 (by decide) ?_
              refine lv_goto hM.1 hM.2.1 dX8_table_39 (tgt := 53) (by decide) ?_
              exact z_iret hM hlk hr rfl hW hS (zF.of (by unfold r_X8_table; rw [pif_neg h_1, pif_neg h_9, pif_neg h_13, pif_pos h_19, pif_neg h_27, pif_neg h_35]; first | done | rfl) rfl) dX8_table_53
        ·
          refine lv_iconst (v := (-1)) hM.1 hM.2.1 dX8_table_22 (by decide) ?_
          exact z_iret hM hlk hr rfl hW hS (zF.of (by unfold r_X8_table; rw [pif_neg h_1, pif_neg h_9, pif_neg h_13, pif_neg h_19]; first | done | rfl) rfl) dX8_table_23
