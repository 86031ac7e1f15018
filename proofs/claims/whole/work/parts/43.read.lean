noncomputable def r_X8_read (S : zS) (n : Nat) (x : Int32) : Int32 := 
  (pif ((r_X8_isClient S (x)) = (0)) ((-1)) 
    (pif ((0) ≤ (gi S 9 (111) (ix (x)))) ((-1)) 
      (pif ((gi S 8 (0) (29)) = (200)) ((-1)) (r_X8_beginAct S n (ix (gi S 8 0 29)) (x) (0) (0) ((-1))))))
noncomputable def s_X8_read (S : zS) (n : Nat) (x : Int32) : zS := 
  (pif ((r_X8_isClient S (x)) = (0)) (S) 
    (pif ((0) ≤ (gi S 9 (111) (ix (x)))) (S) 
      (pif ((gi S 8 (0) (29)) = (200)) (S) ((s_X8_beginAct S n (ix (gi S 8 0 29)) (x) (0) (0) ((-1)))))))
set_option maxHeartbeats 400000 in
set_option maxRecDepth 100000 in
theorem c_X8_read {l : Launch} {D : va_G} {ar : Nat → ClassId} {A : Nat → Prop} {Z : zZ} {S : zS} {n : Nat} {x : Int32} (hI : mI n Z S)  : zMet l yX8_read prog_10_method_12_code 2 (some .int) ({ frames := 4, cells := 0, slots := 0, locals := 110 } : Room) D ar A Z S [.ref (Z.1 8 (0)), .int (x)] rvI (zF (r_X8_read S n x) Z (s_X8_read S n x)) := by
  refine z_body (by decide +kernel) (Nat.le_of_ble_eq_true rfl) ?_
  intro pX eX sX mX bX methX cX ls hM hr hlk hml hin hl hW hlo
  have hM : zM pX cX mX _ sX prog_10_method_12_code RX8 D ar := hM
  have hS : va_S A sX.heap sX.heap [] := va_S.rf
  have hl : lv_has ls 2 [(0, .ref (Z.1 8 (0))), (1, .int (x))] := hl
  have hO := hI.O
  have hn := hI.n
  have h7 := hI.n7
  have hcm9 := hI.cm
  refine lv_iload_n hM.1 hM.2.1 dX8_read_0 rfl (lv_at hl 1 rfl) ?_
  refine z_Si hM (hml.trans hl.1.symm) hW hS hlo zyX8_isClient lm_X8_167 ls_yX8_isClient (As := [.int (x)]) (rest := []) (c_X8_isClient (S := S)) rfl rfl (Nat.le_of_ble_eq_true rfl) ⟨Nat.le_of_ble_eq_true rfl, Nat.le_of_ble_eq_true rfl⟩ ⟨Nat.le_of_ble_eq_true rfl, Nat.le_of_ble_eq_true rfl⟩ dX8_read_1 (fun H locs hW hS => ?_)
  refine lv_if_eq hM.1 hM.2.1 dX8_read_4 (tgt := 26) (by decide) (fun h_4 => ?_) (fun h_4 => ?_)
  ·
    refine lv_iconst (v := (-1)) hM.1 hM.2.1 dX8_read_26 (by decide) ?_
    refine lv_goto hM.1 hM.2.1 dX8_read_27 (tgt := 38) (by decide) ?_
    exact z_iret hM hlk hr rfl hW hS (zF.of (by unfold r_X8_read; rw [pif_pos h_4]; first | done | rfl) (by unfold s_X8_read; rw [pif_pos h_4]; first | done | rfl)) dX8_read_38
  ·
    refine lv_aload_n hM.1 hM.2.1 dX8_read_7 rfl (lv_at hl 0 rfl) ?_
    refine z_getr hM hW zc8 hI.O.1 rfl 11 (by decide) lf_X8_39 (t := 9) (j := 111) rfl (hO.r 11 (by decide) (by decide)) dX8_read_8 (fun hd1_8 => ?_)
    refine lv_iload_n hM.1 hM.2.1 dX8_read_11 rfl (lv_at hl 1 rfl) ?_
    refine z_iald hM hW hd1_8 rfl (mClient h_4 (hO.l 11 (by decide) (by decide))) (v := gi S 9 (111) (ix (x))) rfl dX8_read_12 ?_
    refine lv_if_ge hM.1 hM.2.1 dX8_read_13 (tgt := 26) (by decide) (fun h_13 => ?_) (fun h_13 => ?_)
    ·
      refine lv_iconst (v := (-1)) hM.1 hM.2.1 dX8_read_26 (by decide) ?_
      refine lv_goto hM.1 hM.2.1 dX8_read_27 (tgt := 38) (by decide) ?_
      exact z_iret hM hlk hr rfl hW hS (zF.of (by unfold r_X8_read; rw [pif_neg h_4, pif_pos h_13]; first | done | rfl) (by unfold s_X8_read; rw [pif_neg h_4, pif_pos h_13]; first | done | rfl)) dX8_read_38
    ·
      refine lv_aload_n hM.1 hM.2.1 dX8_read_16 rfl (lv_at hl 0 rfl) ?_
      refine z_get hM hW zc8 hI.O.1 rfl 29 (by decide) lf_X8_154 (v := .int (gi S 8 (0) (29))) rfl dX8_read_17 ?_
      refine lv_sipush (v := 200) hM.1 hM.2.1 dX8_read_20 (by decide) ?_
      refine lv_icmp_ne hM.1 hM.2.1 dX8_read_23 (tgt := 30) (by decide) (fun h_23 => ?_) (fun h_23 => ?_)
      ·
        refine lv_aload_n hM.1 hM.2.1 dX8_read_30 rfl (lv_at hl 0 rfl) ?_
        refine lv_iload_n hM.1 hM.2.1 dX8_read_31 rfl (lv_at hl 1 rfl) ?_
        refine lv_iconst (v := 0) hM.1 hM.2.1 dX8_read_32 (by decide) ?_
        refine lv_lconst (v := 0) hM.1 hM.2.1 dX8_read_33 (by decide) ?_
        refine lv_iconst (v := (-1)) hM.1 hM.2.1 dX8_read_34 (by decide) ?_
        refine z_Vi hM (hml.trans hl.1.symm) hW hS hlo zc8 hI.O.1 rfl zyX8_beginAct lm_X8_163 li_yX8_beginAct le_yX8_beginAct (As := [.int (x), .int (0), .long (0), .int ((-1))]) (rest := []) (c_X8_beginAct (n := n) (ac := ix (gi S 8 0 29)) hO hn h7 (mClient h_4 rfl) hI.ac (mAc200 h_23 hI.ac hI.am) hI.cn hI.cm) rfl rfl (Nat.le_of_ble_eq_true rfl) ⟨Nat.le_of_ble_eq_true rfl, Nat.le_of_ble_eq_true rfl⟩ ⟨Nat.le_of_ble_eq_true rfl, Nat.le_of_ble_eq_true rfl⟩ dX8_read_35 (fun H locs hW hS => ?_)
        exact z_iret hM hlk hr rfl hW hS (zF.of (by unfold r_X8_read; rw [pif_neg h_4, pif_neg h_13, pif_neg h_23]; first | done | rfl) (by unfold s_X8_read; rw [pif_neg h_4, pif_neg h_13, pif_neg h_23]; first | done | rfl)) dX8_read_38
      ·
        refine lv_iconst (v := (-1)) hM.1 hM.2.1 dX8_read_26 (by decide) ?_
        refine lv_goto hM.1 hM.2.1 dX8_read_27 (tgt := 38) (by decide) ?_
        exact z_iret hM hlk hr rfl hW hS (zF.of (by unfold r_X8_read; rw [pif_neg h_4, pif_neg h_13, pif_pos h_23]; first | done | rfl) (by unfold s_X8_read; rw [pif_neg h_4, pif_neg h_13, pif_pos h_23]; first | done | rfl)) dX8_read_38

noncomputable def r_X8_write (S : zS) (n : Nat) (x : Int32) (v : Int64) : Int32 := 
  (pif ((r_X8_isClient S (x)) = (0)) ((-1)) 
    (pif ((0) ≤ (gi S 9 (111) (ix (x)))) ((-1)) 
      (pif ((gi S 8 (0) (29)) = (200)) ((-1)) (r_X8_beginAct S n (ix (gi S 8 0 29)) (x) (1) (v) ((-1))))))
noncomputable def s_X8_write (S : zS) (n : Nat) (x : Int32) (v : Int64) : zS := 
  (pif ((r_X8_isClient S (x)) = (0)) (S) 
    (pif ((0) ≤ (gi S 9 (111) (ix (x)))) (S) 
      (pif ((gi S 8 (0) (29)) = (200)) (S) ((s_X8_beginAct S n (ix (gi S 8 0 29)) (x) (1) (v) ((-1)))))))
set_option maxHeartbeats 400000 in
set_option maxRecDepth 100000 in
theorem c_X8_write {l : Launch} {D : va_G} {ar : Nat → ClassId} {A : Nat → Prop} {Z : zZ} {S : zS} {n : Nat} {x : Int32} {v : Int64} (hI : mI n Z S)  : zMet l yX8_write prog_10_method_13_code 4 (some .int) ({ frames := 4, cells := 0, slots := 0, locals := 110 } : Room) D ar A Z S [.ref (Z.1 8 (0)), .int (x), .long (v)] rvI (zF (r_X8_write S n x v) Z (s_X8_write S n x v)) := by
  refine z_body (by decide +kernel) (Nat.le_of_ble_eq_true rfl) ?_
  intro pX eX sX mX bX methX cX ls hM hr hlk hml hin hl hW hlo
  have hM : zM pX cX mX _ sX prog_10_method_13_code RX8 D ar := hM
  have hS : va_S A sX.heap sX.heap [] := va_S.rf
  have hl : lv_has ls 4 [(0, .ref (Z.1 8 (0))), (1, .int (x)), (2, .long (v))] := hl
  have hO := hI.O
  have hn := hI.n
  have h7 := hI.n7
  have hcm9 := hI.cm
  refine lv_iload_n hM.1 hM.2.1 dX8_write_0 rfl (lv_at hl 1 rfl) ?_
  refine z_Si hM (hml.trans hl.1.symm) hW hS hlo zyX8_isClient lm_X8_167 ls_yX8_isClient (As := [.int (x)]) (rest := []) (c_X8_isClient (S := S)) rfl rfl (Nat.le_of_ble_eq_true rfl) ⟨Nat.le_of_ble_eq_true rfl, Nat.le_of_ble_eq_true rfl⟩ ⟨Nat.le_of_ble_eq_true rfl, Nat.le_of_ble_eq_true rfl⟩ dX8_write_1 (fun H locs hW hS => ?_)
  refine lv_if_eq hM.1 hM.2.1 dX8_write_4 (tgt := 26) (by decide) (fun h_4 => ?_) (fun h_4 => ?_)
  ·
    refine lv_iconst (v := (-1)) hM.1 hM.2.1 dX8_write_26 (by decide) ?_
    refine lv_goto hM.1 hM.2.1 dX8_write_27 (tgt := 38) (by decide) ?_
    exact z_iret hM hlk hr rfl hW hS (zF.of (by unfold r_X8_write; rw [pif_pos h_4]; first | done | rfl) (by unfold s_X8_write; rw [pif_pos h_4]; first | done | rfl)) dX8_write_38
  ·
    refine lv_aload_n hM.1 hM.2.1 dX8_write_7 rfl (lv_at hl 0 rfl) ?_
    refine z_getr hM hW zc8 hI.O.1 rfl 11 (by decide) lf_X8_39 (t := 9) (j := 111) rfl (hO.r 11 (by decide) (by decide)) dX8_write_8 (fun hd1_8 => ?_)
    refine lv_iload_n hM.1 hM.2.1 dX8_write_11 rfl (lv_at hl 1 rfl) ?_
    refine z_iald hM hW hd1_8 rfl (mClient h_4 (hO.l 11 (by decide) (by decide))) (v := gi S 9 (111) (ix (x))) rfl dX8_write_12 ?_
    refine lv_if_ge hM.1 hM.2.1 dX8_write_13 (tgt := 26) (by decide) (fun h_13 => ?_) (fun h_13 => ?_)
    ·
      refine lv_iconst (v := (-1)) hM.1 hM.2.1 dX8_write_26 (by decide) ?_
      refine lv_goto hM.1 hM.2.1 dX8_write_27 (tgt := 38) (by decide) ?_
      exact z_iret hM hlk hr rfl hW hS (zF.of (by unfold r_X8_write; rw [pif_neg h_4, pif_pos h_13]; first | done | rfl) (by unfold s_X8_write; rw [pif_neg h_4, pif_pos h_13]; first | done | rfl)) dX8_write_38
    ·
      refine lv_aload_n hM.1 hM.2.1 dX8_write_16 rfl (lv_at hl 0 rfl) ?_
      refine z_get hM hW zc8 hI.O.1 rfl 29 (by decide) lf_X8_154 (v := .int (gi S 8 (0) (29))) rfl dX8_write_17 ?_
      refine lv_sipush (v := 200) hM.1 hM.2.1 dX8_write_20 (by decide) ?_
      refine lv_icmp_ne hM.1 hM.2.1 dX8_write_23 (tgt := 30) (by decide) (fun h_23 => ?_) (fun h_23 => ?_)
      ·
        refine lv_aload_n hM.1 hM.2.1 dX8_write_30 rfl (lv_at hl 0 rfl) ?_
        refine lv_iload_n hM.1 hM.2.1 dX8_write_31 rfl (lv_at hl 1 rfl) ?_
        refine lv_iconst (v := 1) hM.1 hM.2.1 dX8_write_32 (by decide) ?_
        refine lv_lload_n hM.1 hM.2.1 dX8_write_33 rfl (lv_at hl 2 rfl) ?_
        refine lv_iconst (v := (-1)) hM.1 hM.2.1 dX8_write_34 (by decide) ?_
        refine z_Vi hM (hml.trans hl.1.symm) hW hS hlo zc8 hI.O.1 rfl zyX8_beginAct lm_X8_163 li_yX8_beginAct le_yX8_beginAct (As := [.int (x), .int (1), .long (v), .int ((-1))]) (rest := []) (c_X8_beginAct (n := n) (ac := ix (gi S 8 0 29)) hO hn h7 (mClient h_4 rfl) hI.ac (mAc200 h_23 hI.ac hI.am) hI.cn hI.cm) rfl rfl (Nat.le_of_ble_eq_true rfl) ⟨Nat.le_of_ble_eq_true rfl, Nat.le_of_ble_eq_true rfl⟩ ⟨Nat.le_of_ble_eq_true rfl, Nat.le_of_ble_eq_true rfl⟩ dX8_write_35 (fun H locs hW hS => ?_)
        exact z_iret hM hlk hr rfl hW hS (zF.of (by unfold r_X8_write; rw [pif_neg h_4, pif_neg h_13, pif_neg h_23]; first | done | rfl) (by unfold s_X8_write; rw [pif_neg h_4, pif_neg h_13, pif_neg h_23]; first | done | rfl)) dX8_write_38
      ·
        refine lv_iconst (v := (-1)) hM.1 hM.2.1 dX8_write_26 (by decide) ?_
        refine lv_goto hM.1 hM.2.1 dX8_write_27 (tgt := 38) (by decide) ?_
        exact z_iret hM hlk hr rfl hW hS (zF.of (by unfold r_X8_write; rw [pif_neg h_4, pif_neg h_13, pif_pos h_23]; first | done | rfl) (by unfold s_X8_write; rw [pif_neg h_4, pif_neg h_13, pif_pos h_23]; first | done | rfl)) dX8_write_38

noncomputable def r_X8_resume (S : zS) (n : Nat) : Int32 := 
  (pif ((0) ≤ (gi S 9 (111) (0))) ((-1)) 
    (pif ((gi S 9 (115) (0)) ≤ (gi S 9 (114) (0))) ((-1)) 
      (pif ((gi S 8 (0) (29)) = (200)) ((-1)) (r_X8_beginAct S n (ix (gi S 8 0 29)) (0) (2) (0) (gi S 9 (115) (0))))))
noncomputable def s_X8_resume (S : zS) (n : Nat) : zS := 
  (pif ((0) ≤ (gi S 9 (111) (0))) (S) 
    (pif ((gi S 9 (115) (0)) ≤ (gi S 9 (114) (0))) (S) 
      (pif ((gi S 8 (0) (29)) = (200)) (S) ((s_X8_beginAct S n (ix (gi S 8 0 29)) (0) (2) (0) (gi S 9 (115) (0)))))))
set_option maxHeartbeats 400000 in
set_option maxRecDepth 100000 in
theorem c_X8_resume {l : Launch} {D : va_G} {ar : Nat → ClassId} {A : Nat → Prop} {Z : zZ} {S : zS} {n : Nat} (hI : mI n Z S)  : zMet l yX8_resume prog_10_method_11_code 1 (some .int) ({ frames := 4, cells := 0, slots := 0, locals := 110 } : Room) D ar A Z S [.ref (Z.1 8 (0))] rvI (zF (r_X8_resume S n) Z (s_X8_resume S n)) := by
  refine z_body (by decide +kernel) (Nat.le_of_ble_eq_true rfl) ?_
  intro pX eX sX mX bX methX cX ls hM hr hlk hml hin hl hW hlo
  have hM : zM pX cX mX _ sX prog_10_method_11_code RX8 D ar := hM
  have hS : va_S A sX.heap sX.heap [] := va_S.rf
  have hl : lv_has ls 1 [(0, .ref (Z.1 8 (0)))] := hl
  have hO := hI.O
  have hn := hI.n
  have h7 := hI.n7
  have hcm9 := hI.cm
  refine lv_aload_n hM.1 hM.2.1 dX8_resume_0 rfl (lv_at hl 0 rfl) ?_
  refine z_getr hM hW zc8 hI.O.1 rfl 11 (by decide) lf_X8_39 (t := 9) (j := 111) rfl (hO.r 11 (by decide) (by decide)) dX8_resume_1 (fun hd1_1 => ?_)
  refine lv_iconst (v := 0) hM.1 hM.2.1 dX8_resume_4 (by decide) ?_
  refine z_iald hM hW hd1_1 rfl (vin_nI (X := 0) (hO.l 11 (by decide) (by decide)) (by decide) (by decide)) (v := gi S 9 (111) (0)) rfl dX8_resume_5 ?_
  refine lv_if_ge hM.1 hM.2.1 dX8_resume_6 (tgt := 34) (by decide) (fun h_6 => ?_) (fun h_6 => ?_)
  ·
    refine lv_iconst (v := (-1)) hM.1 hM.2.1 dX8_resume_34 (by decide) ?_
    exact z_iret hM hlk hr rfl hW hS (zF.of (by unfold r_X8_resume; rw [pif_pos h_6]; first | done | rfl) (by unfold s_X8_resume; rw [pif_pos h_6]; first | done | rfl)) dX8_resume_35
  ·
    refine lv_aload_n hM.1 hM.2.1 dX8_resume_9 rfl (lv_at hl 0 rfl) ?_
    refine z_getr hM hW zc8 hI.O.1 rfl 14 (by decide) lf_X8_48 (t := 9) (j := 114) rfl (hO.r 14 (by decide) (by decide)) dX8_resume_10 (fun hd2_10 => ?_)
    refine lv_iconst (v := 0) hM.1 hM.2.1 dX8_resume_13 (by decide) ?_
    refine z_iald hM hW hd2_10 rfl (vin_nI (X := 0) (hO.l 14 (by decide) (by decide)) (by decide) (by decide)) (v := gi S 9 (114) (0)) rfl dX8_resume_14 ?_
    refine lv_aload_n hM.1 hM.2.1 dX8_resume_15 rfl (lv_at hl 0 rfl) ?_
    refine z_getr hM hW zc8 hI.O.1 rfl 15 (by decide) lf_X8_51 (t := 9) (j := 115) rfl (hO.r 15 (by decide) (by decide)) dX8_resume_16 (fun hd3_16 => ?_)
    refine lv_iconst (v := 0) hM.1 hM.2.1 dX8_resume_19 (by decide) ?_
    refine z_iald hM hW hd3_16 rfl (vin_nI (X := 0) (hO.l 15 (by decide) (by decide)) (by decide) (by decide)) (v := gi S 9 (115) (0)) rfl dX8_resume_20 ?_
    refine lv_icmp_ge hM.1 hM.2.1 dX8_resume_21 (tgt := 34) (by decide) (fun h_21 => ?_) (fun h_21 => ?_)
    ·
      refine lv_iconst (v := (-1)) hM.1 hM.2.1 dX8_resume_34 (by decide) ?_
      exact z_iret hM hlk hr rfl hW hS (zF.of (by unfold r_X8_resume; rw [pif_neg h_6, pif_pos h_21]; first | done | rfl) (by unfold s_X8_resume; rw [pif_neg h_6, pif_pos h_21]; first | done | rfl)) dX8_resume_35
    ·
      refine lv_aload_n hM.1 hM.2.1 dX8_resume_24 rfl (lv_at hl 0 rfl) ?_
      refine z_get hM hW zc8 hI.O.1 rfl 29 (by decide) lf_X8_154 (v := .int (gi S 8 (0) (29))) rfl dX8_resume_25 ?_
      refine lv_sipush (v := 200) hM.1 hM.2.1 dX8_resume_28 (by decide) ?_
      refine lv_icmp_ne hM.1 hM.2.1 dX8_resume_31 (tgt := 36) (by decide) (fun h_31 => ?_) (fun h_31 => ?_)
      ·
        refine lv_aload_n hM.1 hM.2.1 dX8_resume_36 rfl (lv_at hl 0 rfl) ?_
        refine lv_iconst (v := 0) hM.1 hM.2.1 dX8_resume_37 (by decide) ?_
        refine lv_iconst (v := 2) hM.1 hM.2.1 dX8_resume_38 (by decide) ?_
        refine lv_lconst (v := 0) hM.1 hM.2.1 dX8_resume_39 (by decide) ?_
        refine lv_aload_n hM.1 hM.2.1 dX8_resume_40 rfl (lv_at hl 0 rfl) ?_
        refine z_getr hM hW zc8 hI.O.1 rfl 15 (by decide) lf_X8_51 (t := 9) (j := 115) rfl (hO.r 15 (by decide) (by decide)) dX8_resume_41 (fun hd4_41 => ?_)
        refine lv_iconst (v := 0) hM.1 hM.2.1 dX8_resume_44 (by decide) ?_
        refine z_iald hM hW hd4_41 rfl (vin_nI (X := 0) (hO.l 15 (by decide) (by decide)) (by decide) (by decide)) (v := gi S 9 (115) (0)) rfl dX8_resume_45 ?_
        refine z_Vi hM (hml.trans hl.1.symm) hW hS hlo zc8 hI.O.1 rfl zyX8_beginAct lm_X8_163 li_yX8_beginAct le_yX8_beginAct (As := [.int (0), .int (2), .long (0), .int (gi S 9 (115) (0))]) (rest := []) (c_X8_beginAct (n := n) (ac := ix (gi S 8 0 29)) hO hn h7 vin0 hI.ac (mAc200 h_31 hI.ac hI.am) hI.cn hI.cm) rfl rfl (Nat.le_of_ble_eq_true rfl) ⟨Nat.le_of_ble_eq_true rfl, Nat.le_of_ble_eq_true rfl⟩ ⟨Nat.le_of_ble_eq_true rfl, Nat.le_of_ble_eq_true rfl⟩ dX8_resume_46 (fun H locs hW hS => ?_)
        exact z_iret hM hlk hr rfl hW hS (zF.of (by unfold r_X8_resume; rw [pif_neg h_6, pif_neg h_21, pif_neg h_31]; first | done | rfl) (by unfold s_X8_resume; rw [pif_neg h_6, pif_neg h_21, pif_neg h_31]; first | done | rfl)) dX8_resume_49
      ·
        refine lv_iconst (v := (-1)) hM.1 hM.2.1 dX8_resume_34 (by decide) ?_
        exact z_iret hM hlk hr rfl hW hS (zF.of (by unfold r_X8_resume; rw [pif_neg h_6, pif_neg h_21, pif_pos h_31]; first | done | rfl) (by unfold s_X8_resume; rw [pif_neg h_6, pif_neg h_21, pif_pos h_31]; first | done | rfl)) dX8_resume_35
