noncomputable def s_X6_set (S : zS) (i j : Nat) : zS := ((sj (si (si S 6 (i) (0) (gi S 6 (j) (0))) 6 (i) (1) (gi S 6 (j) (1))) 6 (i) (2) (gj S 6 (j) (2))))
set_option maxHeartbeats 4000000 in
set_option maxRecDepth 100000 in
theorem c_X6_set {l : Launch} {D : va_G} {ar : Nat → ClassId} {A : Nat → Prop} {Z : zZ} {S : zS} {i j : Nat} (hi : Z.2.1 6 i) (hj : Z.2.1 6 j) : zMet l yX6_set prog_8_method_4_code 2 none ({ frames := 0, cells := 0, slots := 0, locals := 0 } : Room) D ar A Z S [.ref (Z.1 6 (i)), .ref (Z.1 6 (j))] rvV (zF () Z (s_X6_set S i j)) := by
  refine z_body (by decide +kernel) (Nat.le_of_ble_eq_true rfl) ?_
  intro pX eX sX mX bX methX cX ls hM hr hlk hml hin hl hW hlo
  have hM : zM pX cX mX _ sX prog_8_method_4_code RX6 D ar := hM
  have hS : va_S A sX.heap sX.heap [] := va_S.rf
  have hl : lv_has ls 2 [(0, .ref (Z.1 6 (i))), (1, .ref (Z.1 6 (j)))] := hl
  refine lv_aload_n hM.1 hM.2.1 dX6_set_0 rfl (lv_at hl 0 rfl) ?_
  refine lv_aload_n hM.1 hM.2.1 dX6_set_1 rfl (lv_at hl 1 rfl) ?_
  refine z_get hM hW zc6 hj rfl 0 (by decide) lf_X6_7 (v := .int (gi S 6 (j) (0))) rfl dX6_set_2 ?_
  refine z_puti hM hW hS zc6 hi rfl 0 (by decide) rfl lf_X6_7 (Or.inl rfl) (tyX6 0) (tyX6_ok 0 (by decide)) rfl rfl dX6_set_5 (fun H locs hW hS => ?_)
  refine lv_aload_n hM.1 hM.2.1 dX6_set_8 rfl (lv_at hl 0 rfl) ?_
  refine lv_aload_n hM.1 hM.2.1 dX6_set_9 rfl (lv_at hl 1 rfl) ?_
  refine z_get hM hW zc6 hj rfl 1 (by decide) lf_X6_13 (v := .int (gi S 6 (j) (1))) rfl dX6_set_10 ?_
  refine z_puti hM hW hS zc6 hi rfl 1 (by decide) rfl lf_X6_13 (Or.inl rfl) (tyX6 1) (tyX6_ok 1 (by decide)) rfl rfl dX6_set_13 (fun H locs hW hS => ?_)
  refine lv_aload_n hM.1 hM.2.1 dX6_set_16 rfl (lv_at hl 0 rfl) ?_
  refine lv_aload_n hM.1 hM.2.1 dX6_set_17 rfl (lv_at hl 1 rfl) ?_
  refine z_get hM hW zc6 hj rfl 2 (by decide) lf_X6_16 (v := .long (gj S 6 (j) (2))) rfl dX6_set_18 ?_
  refine z_putl hM hW hS zc6 hi rfl 2 (by decide) rfl lf_X6_16 (Or.inl rfl) (tyX6_ok 2 (by decide)) dX6_set_21 (fun H locs hW hS => ?_)
  exact z_vret hM hlk hr hW hS (zF.of rfl (by unfold s_X6_set; rfl)) dX6_set_24

noncomputable def s_X6_put (S : zS) (i : Nat) (x y : Int32) (v : Int64) : zS := ((sj (si (si S 6 (i) (0) (x)) 6 (i) (1) (y)) 6 (i) (2) (v)))
set_option maxHeartbeats 4000000 in
set_option maxRecDepth 100000 in
theorem c_X6_put {l : Launch} {D : va_G} {ar : Nat → ClassId} {A : Nat → Prop} {Z : zZ} {S : zS} {i : Nat} {x y : Int32} {v : Int64} (hi : Z.2.1 6 i) : zMet l yX6_put prog_8_method_3_code 5 none ({ frames := 0, cells := 0, slots := 0, locals := 0 } : Room) D ar A Z S [.ref (Z.1 6 (i)), .int (x), .int (y), .long (v)] rvV (zF () Z (s_X6_put S i x y v)) := by
  refine z_body (by decide +kernel) (Nat.le_of_ble_eq_true rfl) ?_
  intro pX eX sX mX bX methX cX ls hM hr hlk hml hin hl hW hlo
  have hM : zM pX cX mX _ sX prog_8_method_3_code RX6 D ar := hM
  have hS : va_S A sX.heap sX.heap [] := va_S.rf
  have hl : lv_has ls 5 [(0, .ref (Z.1 6 (i))), (1, .int (x)), (2, .int (y)), (3, .long (v))] := hl
  refine lv_aload_n hM.1 hM.2.1 dX6_put_0 rfl (lv_at hl 0 rfl) ?_
  refine lv_iload_n hM.1 hM.2.1 dX6_put_1 rfl (lv_at hl 1 rfl) ?_
  refine z_puti hM hW hS zc6 hi rfl 0 (by decide) rfl lf_X6_7 (Or.inl rfl) (tyX6 0) (tyX6_ok 0 (by decide)) rfl rfl dX6_put_2 (fun H locs hW hS => ?_)
  refine lv_aload_n hM.1 hM.2.1 dX6_put_5 rfl (lv_at hl 0 rfl) ?_
  refine lv_iload_n hM.1 hM.2.1 dX6_put_6 rfl (lv_at hl 2 rfl) ?_
  refine z_puti hM hW hS zc6 hi rfl 1 (by decide) rfl lf_X6_13 (Or.inl rfl) (tyX6 1) (tyX6_ok 1 (by decide)) rfl rfl dX6_put_7 (fun H locs hW hS => ?_)
  refine lv_aload_n hM.1 hM.2.1 dX6_put_10 rfl (lv_at hl 0 rfl) ?_
  refine lv_lload_n hM.1 hM.2.1 dX6_put_11 rfl (lv_at hl 3 rfl) ?_
  refine z_putl hM hW hS zc6 hi rfl 2 (by decide) rfl lf_X6_16 (Or.inl rfl) (tyX6_ok 2 (by decide)) dX6_put_12 (fun H locs hW hS => ?_)
  exact z_vret hM hlk hr hW hS (zF.of rfl (by unfold s_X6_put; rfl)) dX6_put_15

noncomputable def r_X6_isAbove (S : zS) (i j : Nat) : Int32 := 
  (pif ((gi S 6 (j) (0)) < (gi S 6 (i) (0))) (1) 
    (pif ((gi S 6 (i) (0)) = (gi S 6 (j) (0))) 
      (pif ((gi S 6 (i) (1)) ≤ (gi S 6 (j) (1))) (0) (1)) (0)))
set_option maxHeartbeats 4000000 in
set_option maxRecDepth 100000 in
theorem c_X6_isAbove {l : Launch} {D : va_G} {ar : Nat → ClassId} {A : Nat → Prop} {Z : zZ} {S : zS} {i j : Nat} (hi : Z.2.1 6 i) (hj : Z.2.1 6 j) : zMet l yX6_isAbove prog_8_method_2_code 2 (some .boolean) ({ frames := 0, cells := 0, slots := 0, locals := 0 } : Room) D ar A Z S [.ref (Z.1 6 (i)), .ref (Z.1 6 (j))] rvI (zF (r_X6_isAbove S i j) Z S) := by
  refine z_body (by decide +kernel) (Nat.le_of_ble_eq_true rfl) ?_
  intro pX eX sX mX bX methX cX ls hM hr hlk hml hin hl hW hlo
  have hM : zM pX cX mX _ sX prog_8_method_2_code RX6 D ar := hM
  have hS : va_S A sX.heap sX.heap [] := va_S.rf
  have hl : lv_has ls 2 [(0, .ref (Z.1 6 (i))), (1, .ref (Z.1 6 (j)))] := hl
  refine lv_aload_n hM.1 hM.2.1 dX6_isAbove_0 rfl (lv_at hl 0 rfl) ?_
  refine z_get hM hW zc6 hi rfl 0 (by decide) lf_X6_7 (v := .int (gi S 6 (i) (0))) rfl dX6_isAbove_1 ?_
  refine lv_aload_n hM.1 hM.2.1 dX6_isAbove_4 rfl (lv_at hl 1 rfl) ?_
  refine z_get hM hW zc6 hj rfl 0 (by decide) lf_X6_7 (v := .int (gi S 6 (j) (0))) rfl dX6_isAbove_5 ?_
  refine lv_icmp_gt hM.1 hM.2.1 dX6_isAbove_8 (tgt := 33) (by decide) (fun h_8 => ?_) (fun h_8 => ?_)
  ·
    refine lv_iconst (v := 1) hM.1 hM.2.1 dX6_isAbove_33 (by decide) ?_
    refine lv_goto hM.1 hM.2.1 dX6_isAbove_34 (tgt := 38) (by decide) ?_
    exact z_iret hM hlk hr rfl hW hS (zF.of (by unfold r_X6_isAbove; rw [pif_pos h_8]; first | done | rfl) rfl) dX6_isAbove_38
  ·
    refine lv_aload_n hM.1 hM.2.1 dX6_isAbove_11 rfl (lv_at hl 0 rfl) ?_
    refine z_get hM hW zc6 hi rfl 0 (by decide) lf_X6_7 (v := .int (gi S 6 (i) (0))) rfl dX6_isAbove_12 ?_
    refine lv_aload_n hM.1 hM.2.1 dX6_isAbove_15 rfl (lv_at hl 1 rfl) ?_
    refine z_get hM hW zc6 hj rfl 0 (by decide) lf_X6_7 (v := .int (gi S 6 (j) (0))) rfl dX6_isAbove_16 ?_
    refine lv_icmp_ne hM.1 hM.2.1 dX6_isAbove_19 (tgt := 37) (by decide) (fun h_19 => ?_) (fun h_19 => ?_)
    ·
      refine lv_iconst (v := 0) hM.1 hM.2.1 dX6_isAbove_37 (by decide) ?_
      exact z_iret hM hlk hr rfl hW hS (zF.of (by unfold r_X6_isAbove; rw [pif_neg h_8, pif_neg h_19]; first | done | rfl) rfl) dX6_isAbove_38
    ·
      refine lv_aload_n hM.1 hM.2.1 dX6_isAbove_22 rfl (lv_at hl 0 rfl) ?_
      refine z_get hM hW zc6 hi rfl 1 (by decide) lf_X6_13 (v := .int (gi S 6 (i) (1))) rfl dX6_isAbove_23 ?_
      refine lv_aload_n hM.1 hM.2.1 dX6_isAbove_26 rfl (lv_at hl 1 rfl) ?_
      refine z_get hM hW zc6 hj rfl 1 (by decide) lf_X6_13 (v := .int (gi S 6 (j) (1))) rfl dX6_isAbove_27 ?_
      refine lv_icmp_le hM.1 hM.2.1 dX6_isAbove_30 (tgt := 37) (by decide) (fun h_30 => ?_) (fun h_30 => ?_)
      ·
        refine lv_iconst (v := 0) hM.1 hM.2.1 dX6_isAbove_37 (by decide) ?_
        exact z_iret hM hlk hr rfl hW hS (zF.of (by unfold r_X6_isAbove; rw [pif_neg h_8, pif_pos h_19, pif_pos h_30]; first | done | rfl) rfl) dX6_isAbove_38
      ·
        refine lv_iconst (v := 1) hM.1 hM.2.1 dX6_isAbove_33 (by decide) ?_
        refine lv_goto hM.1 hM.2.1 dX6_isAbove_34 (tgt := 38) (by decide) ?_
        exact z_iret hM hlk hr rfl hW hS (zF.of (by unfold r_X6_isAbove; rw [pif_neg h_8, pif_pos h_19, pif_neg h_30]; first | done | rfl) rfl) dX6_isAbove_38

noncomputable def s_X0_showTag (S : zS) (a i : Nat) : zS := ((si (si S 0 (a) (5) (gi S 6 (i) (0))) 0 (a) (6) (gi S 6 (i) (1))))
set_option maxHeartbeats 4000000 in
set_option maxRecDepth 100000 in
theorem c_X0_showTag {l : Launch} {D : va_G} {ar : Nat → ClassId} {A : Nat → Prop} {Z : zZ} {S : zS} {a i : Nat} (ha : Z.2.1 0 a) (hi : Z.2.1 6 i) : zMet l yX0_showTag prog_2_method_2_code 2 none ({ frames := 0, cells := 0, slots := 0, locals := 0 } : Room) D ar A Z S [.ref (Z.1 0 (a)), .ref (Z.1 6 (i))] rvV (zF () Z (s_X0_showTag S a i)) := by
  refine z_body (by decide +kernel) (Nat.le_of_ble_eq_true rfl) ?_
  intro pX eX sX mX bX methX cX ls hM hr hlk hml hin hl hW hlo
  have hM : zM pX cX mX _ sX prog_2_method_2_code RX0 D ar := hM
  have hS : va_S A sX.heap sX.heap [] := va_S.rf
  have hl : lv_has ls 2 [(0, .ref (Z.1 0 (a))), (1, .ref (Z.1 6 (i)))] := hl
  refine lv_aload_n hM.1 hM.2.1 dX0_showTag_0 rfl (lv_at hl 0 rfl) ?_
  refine lv_aload_n hM.1 hM.2.1 dX0_showTag_1 rfl (lv_at hl 1 rfl) ?_
  refine z_get hM hW zc6 hi rfl 0 (by decide) lf_X0_33 (v := .int (gi S 6 (i) (0))) rfl dX0_showTag_2 ?_
  refine z_puti hM hW hS zc0 ha rfl 5 (by decide) rfl lf_X0_15 (Or.inl rfl) (tyX0 5) (tyX0_ok 5 (by decide)) rfl rfl dX0_showTag_5 (fun H locs hW hS => ?_)
  refine lv_aload_n hM.1 hM.2.1 dX0_showTag_8 rfl (lv_at hl 0 rfl) ?_
  refine lv_aload_n hM.1 hM.2.1 dX0_showTag_9 rfl (lv_at hl 1 rfl) ?_
  refine z_get hM hW zc6 hi rfl 1 (by decide) lf_X0_36 (v := .int (gi S 6 (i) (1))) rfl dX0_showTag_10 ?_
  refine z_puti hM hW hS zc0 ha rfl 6 (by decide) rfl lf_X0_18 (Or.inl rfl) (tyX0 6) (tyX0_ok 6 (by decide)) rfl rfl dX0_showTag_13 (fun H locs hW hS => ?_)
  exact z_vret hM hlk hr hW hS (zF.of rfl (by unfold s_X0_showTag; rfl)) dX0_showTag_16

noncomputable def s_X0_init (S : zS) (a : Nat) (x y z : Int32) : zS := ((si (si (si (si (si (si (si S 0 (a) (4) ((-1))) 0 (a) (5) ((-1))) 0 (a) (6) ((-1))) 0 (a) (7) ((-1))) 0 (a) (0) (x)) 0 (a) (1) (y)) 0 (a) (2) (z)))
set_option maxHeartbeats 4000000 in
set_option maxRecDepth 100000 in
theorem c_X0_init {l : Launch} {D : va_G} {ar : Nat → ClassId} {A : Nat → Prop} {Z : zZ} {S : zS} {a : Nat} {x y z : Int32} (ha : Z.2.1 0 a) : zMet l yX0_init prog_2_method_1_code 4 none ({ frames := 1, cells := 0, slots := 0, locals := 12 } : Room) D ar A Z S [.ref (Z.1 0 (a)), .int (x), .int (y), .int (z)] rvV (zF () Z (s_X0_init S a x y z)) := by
  refine z_body (by decide +kernel) (Nat.le_of_ble_eq_true rfl) ?_
  intro pX eX sX mX bX methX cX ls hM hr hlk hml hin hl hW hlo
  have hM : zM pX cX mX _ sX prog_2_method_1_code RX0 D ar := hM
  have hS : va_S A sX.heap sX.heap [] := va_S.rf
  have hl : lv_has ls 4 [(0, .ref (Z.1 0 (a))), (1, .int (x)), (2, .int (y)), (3, .int (z))] := hl
  refine lv_aload_n hM.1 hM.2.1 dX0_init_0 rfl (lv_at hl 0 rfl) ?_
  refine W.objInit hM.1 hM.2.1 hM.2.2.1 (hM.2.2.2.1 _ lm_X0_3) (hM.2.2.2.1 _ li_objectInit) (hM.2.2.2.1 _ lc_objectInit) rfl (hl.1.trans hml.symm) rfl dX0_init_1 (Nat.le_of_ble_eq_true rfl) (Nat.le_of_ble_eq_true rfl) ?_
  refine lv_aload_n hM.1 hM.2.1 dX0_init_4 rfl (lv_at hl 0 rfl) ?_
  refine lv_iconst (v := (-1)) hM.1 hM.2.1 dX0_init_5 (by decide) ?_
  refine z_puti hM hW hS zc0 ha rfl 4 (by decide) rfl lf_X0_9 (Or.inl rfl) (tyX0 4) (tyX0_ok 4 (by decide)) rfl rfl dX0_init_6 (fun H locs hW hS => ?_)
  refine lv_aload_n hM.1 hM.2.1 dX0_init_9 rfl (lv_at hl 0 rfl) ?_
  refine lv_iconst (v := (-1)) hM.1 hM.2.1 dX0_init_10 (by decide) ?_
  refine z_puti hM hW hS zc0 ha rfl 5 (by decide) rfl lf_X0_15 (Or.inl rfl) (tyX0 5) (tyX0_ok 5 (by decide)) rfl rfl dX0_init_11 (fun H locs hW hS => ?_)
  refine lv_aload_n hM.1 hM.2.1 dX0_init_14 rfl (lv_at hl 0 rfl) ?_
  refine lv_iconst (v := (-1)) hM.1 hM.2.1 dX0_init_15 (by decide) ?_
  refine z_puti hM hW hS zc0 ha rfl 6 (by decide) rfl lf_X0_18 (Or.inl rfl) (tyX0 6) (tyX0_ok 6 (by decide)) rfl rfl dX0_init_16 (fun H locs hW hS => ?_)
  refine lv_aload_n hM.1 hM.2.1 dX0_init_19 rfl (lv_at hl 0 rfl) ?_
  refine lv_iconst (v := (-1)) hM.1 hM.2.1 dX0_init_20 (by decide) ?_
  refine z_puti hM hW hS zc0 ha rfl 7 (by decide) rfl lf_X0_21 (Or.inl rfl) (tyX0 7) (tyX0_ok 7 (by decide)) rfl rfl dX0_init_21 (fun H locs hW hS => ?_)
  refine lv_aload_n hM.1 hM.2.1 dX0_init_24 rfl (lv_at hl 0 rfl) ?_
  refine lv_iload_n hM.1 hM.2.1 dX0_init_25 rfl (lv_at hl 1 rfl) ?_
  refine z_puti hM hW hS zc0 ha rfl 0 (by decide) rfl lf_X0_24 (Or.inr ⟨hin, rfl⟩) (tyX0 0) (tyX0_ok 0 (by decide)) rfl rfl dX0_init_26 (fun H locs hW hS => ?_)
  refine lv_aload_n hM.1 hM.2.1 dX0_init_29 rfl (lv_at hl 0 rfl) ?_
  refine lv_iload_n hM.1 hM.2.1 dX0_init_30 rfl (lv_at hl 2 rfl) ?_
  refine z_puti hM hW hS zc0 ha rfl 1 (by decide) rfl lf_X0_27 (Or.inr ⟨hin, rfl⟩) (tyX0 1) (tyX0_ok 1 (by decide)) rfl rfl dX0_init_31 (fun H locs hW hS => ?_)
  refine lv_aload_n hM.1 hM.2.1 dX0_init_34 rfl (lv_at hl 0 rfl) ?_
  refine lv_iload_n hM.1 hM.2.1 dX0_init_35 rfl (lv_at hl 3 rfl) ?_
  refine z_puti hM hW hS zc0 ha rfl 2 (by decide) rfl lf_X0_30 (Or.inr ⟨hin, rfl⟩) (tyX0 2) (tyX0_ok 2 (by decide)) rfl rfl dX0_init_36 (fun H locs hW hS => ?_)
  exact z_vret hM hlk hr hW hS (zF.of rfl (by unfold s_X0_init; rfl)) dX0_init_39

noncomputable def s_X5_init (S : zS) (t q : Nat) (x y : Int32) : zS := ((si (si (sr S 5 (t) (0) (some (q))) 5 (t) (1) (x)) 5 (t) (2) (y)))
set_option maxHeartbeats 4000000 in
set_option maxRecDepth 100000 in
theorem c_X5_init {l : Launch} {D : va_G} {ar : Nat → ClassId} {A : Nat → Prop} {Z : zZ} {S : zS} {t q : Nat} {x y : Int32} (ht : Z.2.1 5 t) (hq : Z.2.1 9 q) : zMet l yX5_init prog_7_method_1_code 4 none ({ frames := 1, cells := 0, slots := 0, locals := 12 } : Room) D ar A Z S [.ref (Z.1 5 (t)), .ref (Z.1 9 (q)), .int (x), .int (y)] rvV (zF () Z (s_X5_init S t q x y)) := by
  refine z_body (by decide +kernel) (Nat.le_of_ble_eq_true rfl) ?_
  intro pX eX sX mX bX methX cX ls hM hr hlk hml hin hl hW hlo
  have hM : zM pX cX mX _ sX prog_7_method_1_code RX5 D ar := hM
  have hS : va_S A sX.heap sX.heap [] := va_S.rf
  have hl : lv_has ls 4 [(0, .ref (Z.1 5 (t))), (1, .ref (Z.1 9 (q))), (2, .int (x)), (3, .int (y))] := hl
  refine lv_aload_n hM.1 hM.2.1 dX5_init_0 rfl (lv_at hl 0 rfl) ?_
  refine W.objInit hM.1 hM.2.1 hM.2.2.1 (hM.2.2.2.1 _ lm_X5_1) (hM.2.2.2.1 _ li_objectInit) (hM.2.2.2.1 _ lc_objectInit) rfl (hl.1.trans hml.symm) rfl dX5_init_1 (Nat.le_of_ble_eq_true rfl) (Nat.le_of_ble_eq_true rfl) ?_
  refine lv_aload_n hM.1 hM.2.1 dX5_init_4 rfl (lv_at hl 0 rfl) ?_
  refine lv_aload_n hM.1 hM.2.1 dX5_init_5 rfl (lv_at hl 1 rfl) ?_
  refine z_putr hM hW hS zc5 ht rfl 0 (by decide) (t := 9) (j := q) rfl hq lf_X5_7 (Or.inr ⟨hin, rfl⟩) (tyX5 0) (tyX5_ok 0 (by decide)) (fun _ => rfl) (fun _ => rfl) dX5_init_6 (fun H locs hW hS => ?_)
  refine lv_aload_n hM.1 hM.2.1 dX5_init_9 rfl (lv_at hl 0 rfl) ?_
  refine lv_iload_n hM.1 hM.2.1 dX5_init_10 rfl (lv_at hl 2 rfl) ?_
  refine z_puti hM hW hS zc5 ht rfl 1 (by decide) rfl lf_X5_13 (Or.inr ⟨hin, rfl⟩) (tyX5 1) (tyX5_ok 1 (by decide)) rfl rfl dX5_init_11 (fun H locs hW hS => ?_)
  refine lv_aload_n hM.1 hM.2.1 dX5_init_14 rfl (lv_at hl 0 rfl) ?_
  refine lv_iload_n hM.1 hM.2.1 dX5_init_15 rfl (lv_at hl 3 rfl) ?_
  refine z_puti hM hW hS zc5 ht rfl 2 (by decide) rfl lf_X5_17 (Or.inr ⟨hin, rfl⟩) (tyX5 2) (tyX5_ok 2 (by decide)) rfl rfl dX5_init_16 (fun H locs hW hS => ?_)
  exact z_vret hM hlk hr hW hS (zF.of rfl (by unfold s_X5_init; rfl)) dX5_init_19

set_option maxHeartbeats 4000000 in
set_option maxRecDepth 100000 in
theorem c_X6_init {l : Launch} {D : va_G} {ar : Nat → ClassId} {A : Nat → Prop} {Z : zZ} {S : zS} {i : Nat} (hi : Z.2.1 6 i) : zMet l yX6_init prog_8_method_1_code 1 none ({ frames := 1, cells := 0, slots := 0, locals := 12 } : Room) D ar A Z S [.ref (Z.1 6 (i))] rvV (zF () Z S) := by
  refine z_body (by decide +kernel) (Nat.le_of_ble_eq_true rfl) ?_
  intro pX eX sX mX bX methX cX ls hM hr hlk hml hin hl hW hlo
  have hM : zM pX cX mX _ sX prog_8_method_1_code RX6 D ar := hM
  have hS : va_S A sX.heap sX.heap [] := va_S.rf
  have hl : lv_has ls 1 [(0, .ref (Z.1 6 (i)))] := hl
  refine lv_aload_n hM.1 hM.2.1 dX6_init_0 rfl (lv_at hl 0 rfl) ?_
  refine W.objInit hM.1 hM.2.1 hM.2.2.1 (hM.2.2.2.1 _ lm_X6_1) (hM.2.2.2.1 _ li_objectInit) (hM.2.2.2.1 _ lc_objectInit) rfl (hl.1.trans hml.symm) rfl dX6_init_1 (Nat.le_of_ble_eq_true rfl) (Nat.le_of_ble_eq_true rfl) ?_
  exact z_vret hM hlk hr hW hS (zF.of rfl rfl) dX6_init_4

noncomputable def r_X2_hasAnswerOf (S : zS) (c : Nat) (x : Int32) : Int32 := 
  (pif ((((gi S 2 (c) (5)) >>> ((x) &&& 31)) &&& (1)) = (1)) (1) (0))
set_option maxHeartbeats 4000000 in
set_option maxRecDepth 100000 in
theorem c_X2_hasAnswerOf {l : Launch} {D : va_G} {ar : Nat → ClassId} {A : Nat → Prop} {Z : zZ} {S : zS} {c : Nat} {x : Int32} (hc : Z.2.1 2 c) : zMet l yX2_hasAnswerOf prog_4_method_2_code 2 (some .boolean) ({ frames := 0, cells := 0, slots := 0, locals := 0 } : Room) D ar A Z S [.ref (Z.1 2 (c)), .int (x)] rvI (zF (r_X2_hasAnswerOf S c x) Z S) := by
  refine z_body (by decide +kernel) (Nat.le_of_ble_eq_true rfl) ?_
  intro pX eX sX mX bX methX cX ls hM hr hlk hml hin hl hW hlo
  have hM : zM pX cX mX _ sX prog_4_method_2_code RX2 D ar := hM
  have hS : va_S A sX.heap sX.heap [] := va_S.rf
  have hl : lv_has ls 2 [(0, .ref (Z.1 2 (c))), (1, .int (x))] := hl
  refine lv_aload_n hM.1 hM.2.1 dX2_hasAnswerOf_0 rfl (lv_at hl 0 rfl) ?_
  refine z_get hM hW zc2 hc rfl 5 (by decide) lf_X2_22 (v := .int (gi S 2 (c) (5))) rfl dX2_hasAnswerOf_1 ?_
  refine lv_iload_n hM.1 hM.2.1 dX2_hasAnswerOf_4 rfl (lv_at hl 1 rfl) ?_
  refine lv_ishr hM.1 hM.2.1 dX2_hasAnswerOf_5 ?_
  refine lv_iconst (v := 1) hM.1 hM.2.1 dX2_hasAnswerOf_6 (by decide) ?_
  refine lv_iand hM.1 hM.2.1 dX2_hasAnswerOf_7 ?_
  refine lv_iconst (v := 1) hM.1 hM.2.1 dX2_hasAnswerOf_8 (by decide) ?_
  refine lv_icmp_ne hM.1 hM.2.1 dX2_hasAnswerOf_9 (tgt := 16) (by decide) (fun h_9 => ?_) (fun h_9 => ?_)
  ·
    refine lv_iconst (v := 0) hM.1 hM.2.1 dX2_hasAnswerOf_16 (by decide) ?_
    exact z_iret hM hlk hr rfl hW hS (zF.of (by unfold r_X2_hasAnswerOf; rw [pif_neg h_9]; first | done | rfl) rfl) dX2_hasAnswerOf_17
  ·
    refine lv_iconst (v := 1) hM.1 hM.2.1 dX2_hasAnswerOf_12 (by decide) ?_
    refine lv_goto hM.1 hM.2.1 dX2_hasAnswerOf_13 (tgt := 17) (by decide) ?_
    exact z_iret hM hlk hr rfl hW hS (zF.of (by unfold r_X2_hasAnswerOf; rw [pif_pos h_9]; first | done | rfl) rfl) dX2_hasAnswerOf_17

noncomputable def r_X2_counts (S : zS) (c j a : Nat) : Int32 := 
  (pif ((gi S 4 (j) (4)) = (gi S 0 (a) (0))) 
    (pif ((gi S 4 (j) (6)) = (gi S 2 (c) (4))) 
      (pif ((r_X2_hasAnswerOf S (c) (gi S 4 (j) (2))) = (0)) (1) (0)) (0)) (0))
set_option maxHeartbeats 4000000 in
set_option maxRecDepth 100000 in
theorem c_X2_counts {l : Launch} {D : va_G} {ar : Nat → ClassId} {A : Nat → Prop} {Z : zZ} {S : zS} {c j a : Nat} (hc : Z.2.1 2 c) (hj : Z.2.1 4 j) (ha : Z.2.1 0 a) : zMet l yX2_counts prog_4_method_3_code 3 (some .boolean) ({ frames := 1, cells := 0, slots := 0, locals := 21 } : Room) D ar A Z S [.ref (Z.1 2 (c)), .ref (Z.1 4 (j)), .ref (Z.1 0 (a))] rvI (zF (r_X2_counts S c j a) Z S) := by
  refine z_body (by decide +kernel) (Nat.le_of_ble_eq_true rfl) ?_
  intro pX eX sX mX bX methX cX ls hM hr hlk hml hin hl hW hlo
  have hM : zM pX cX mX _ sX prog_4_method_3_code RX2 D ar := hM
  have hS : va_S A sX.heap sX.heap [] := va_S.rf
  have hl : lv_has ls 3 [(0, .ref (Z.1 2 (c))), (1, .ref (Z.1 4 (j))), (2, .ref (Z.1 0 (a)))] := hl
  refine lv_aload_n hM.1 hM.2.1 dX2_counts_0 rfl (lv_at hl 1 rfl) ?_
  refine z_get hM hW zc4 hj rfl 4 (by decide) lf_X2_25 (v := .int (gi S 4 (j) (4))) rfl dX2_counts_1 ?_
  refine lv_aload_n hM.1 hM.2.1 dX2_counts_4 rfl (lv_at hl 2 rfl) ?_
  refine z_get hM hW zc0 ha rfl 0 (by decide) lf_X2_30 (v := .int (gi S 0 (a) (0))) rfl dX2_counts_5 ?_
  refine lv_icmp_ne hM.1 hM.2.1 dX2_counts_8 (tgt := 37) (by decide) (fun h_8 => ?_) (fun h_8 => ?_)
  ·
    refine lv_iconst (v := 0) hM.1 hM.2.1 dX2_counts_37 (by decide) ?_
    exact z_iret hM hlk hr rfl hW hS (zF.of (by unfold r_X2_counts; rw [pif_neg h_8]; first | done | rfl) rfl) dX2_counts_38
  ·
    refine lv_aload_n hM.1 hM.2.1 dX2_counts_11 rfl (lv_at hl 1 rfl) ?_
    refine z_get hM hW zc4 hj rfl 6 (by decide) lf_X2_33 (v := .int (gi S 4 (j) (6))) rfl dX2_counts_12 ?_
    refine lv_aload_n hM.1 hM.2.1 dX2_counts_15 rfl (lv_at hl 0 rfl) ?_
    refine z_get hM hW zc2 hc rfl 4 (by decide) lf_X2_36 (v := .int (gi S 2 (c) (4))) rfl dX2_counts_16 ?_
    refine lv_icmp_ne hM.1 hM.2.1 dX2_counts_19 (tgt := 37) (by decide) (fun h_19 => ?_) (fun h_19 => ?_)
    ·
      refine lv_iconst (v := 0) hM.1 hM.2.1 dX2_counts_37 (by decide) ?_
      exact z_iret hM hlk hr rfl hW hS (zF.of (by unfold r_X2_counts; rw [pif_pos h_8, pif_neg h_19]; first | done | rfl) rfl) dX2_counts_38
    ·
      refine lv_aload_n hM.1 hM.2.1 dX2_counts_22 rfl (lv_at hl 0 rfl) ?_
      refine lv_aload_n hM.1 hM.2.1 dX2_counts_23 rfl (lv_at hl 1 rfl) ?_
      refine z_get hM hW zc4 hj rfl 2 (by decide) lf_X2_37 (v := .int (gi S 4 (j) (2))) rfl dX2_counts_24 ?_
      refine z_Vi hM (hml.trans hl.1.symm) hW hS hlo zc2 hc rfl zyX2_hasAnswerOf lm_X2_40 li_yX2_hasAnswerOf le_yX2_hasAnswerOf (As := [.int (gi S 4 (j) (2))]) (rest := []) (c_X2_hasAnswerOf hc) rfl rfl (Nat.le_of_ble_eq_true rfl) ⟨Nat.le_of_ble_eq_true rfl, Nat.le_of_ble_eq_true rfl⟩ ⟨Nat.le_of_ble_eq_true rfl, Nat.le_of_ble_eq_true rfl⟩ dX2_counts_27 (fun H locs hW hS => ?_)
      refine lv_if_ne hM.1 hM.2.1 dX2_counts_30 (tgt := 37) (by decide) (fun h_30 => ?_) (fun h_30 => ?_)
      ·
        refine lv_iconst (v := 0) hM.1 hM.2.1 dX2_counts_37 (by decide) ?_
        exact z_iret hM hlk hr rfl hW hS (zF.of (by unfold r_X2_counts; rw [pif_pos h_8, pif_pos h_19, pif_neg h_30]; first | done | rfl) rfl) dX2_counts_38
      ·
        refine lv_iconst (v := 1) hM.1 hM.2.1 dX2_counts_33 (by decide) ?_
        refine lv_goto hM.1 hM.2.1 dX2_counts_34 (tgt := 38) (by decide) ?_
        exact z_iret hM hlk hr rfl hW hS (zF.of (by unfold r_X2_counts; rw [pif_pos h_8, pif_pos h_19, pif_pos h_30]; first | done | rfl) rfl) dX2_counts_38

noncomputable def s_X2_rest (S : zS) (c : Nat) : zS := ((si (si (sr S 2 (c) (2) (none)) 2 (c) (3) (0)) 2 (c) (5) (0)))
set_option maxHeartbeats 4000000 in
set_option maxRecDepth 100000 in
theorem c_X2_rest {l : Launch} {D : va_G} {ar : Nat → ClassId} {A : Nat → Prop} {Z : zZ} {S : zS} {c : Nat} (hc : Z.2.1 2 c) : zMet l yX2_rest prog_4_method_5_code 1 none ({ frames := 0, cells := 0, slots := 0, locals := 0 } : Room) D ar A Z S [.ref (Z.1 2 (c))] rvV (zF () Z (s_X2_rest S c)) := by
  refine z_body (by decide +kernel) (Nat.le_of_ble_eq_true rfl) ?_
  intro pX eX sX mX bX methX cX ls hM hr hlk hml hin hl hW hlo
  have hM : zM pX cX mX _ sX prog_4_method_5_code RX2 D ar := hM
  have hS : va_S A sX.heap sX.heap [] := va_S.rf
  have hl : lv_has ls 1 [(0, .ref (Z.1 2 (c)))] := hl
  refine lv_aload_n hM.1 hM.2.1 dX2_rest_0 rfl (lv_at hl 0 rfl) ?_
  refine lv_null hM.1 hM.2.1 dX2_rest_1 ?_
  refine z_putn hM hW hS zc2 hc rfl 2 (by decide) (t := 0) rfl lf_X2_70 (Or.inl rfl) (tyX2 2) (tyX2_ok 2 (by decide)) rfl rfl dX2_rest_2 (fun H locs hW hS => ?_)
  refine lv_aload_n hM.1 hM.2.1 dX2_rest_5 rfl (lv_at hl 0 rfl) ?_
  refine lv_iconst (v := 0) hM.1 hM.2.1 dX2_rest_6 (by decide) ?_
  refine z_puti hM hW hS zc2 hc rfl 3 (by decide) rfl lf_X2_58 (Or.inl rfl) (tyX2 3) (tyX2_ok 3 (by decide)) rfl rfl dX2_rest_7 (fun H locs hW hS => ?_)
  refine lv_aload_n hM.1 hM.2.1 dX2_rest_10 rfl (lv_at hl 0 rfl) ?_
  refine lv_iconst (v := 0) hM.1 hM.2.1 dX2_rest_11 (by decide) ?_
  refine z_puti hM hW hS zc2 hc rfl 5 (by decide) rfl lf_X2_22 (Or.inl rfl) (tyX2 5) (tyX2_ok 5 (by decide)) rfl rfl dX2_rest_12 (fun H locs hW hS => ?_)
  exact z_vret hM hlk hr hW hS (zF.of rfl (by unfold s_X2_rest; rfl)) dX2_rest_15

noncomputable def s_X2_learn (S : zS) (c j : Nat) : zS := 
  (pif ((gi S 2 (c) (3)) = (1)) 
    (pif ((r_X6_isAbove (si (si (si S 2 (c) (5) ((gi S 2 (c) (5)) ||| ((1) <<< ((gi S 4 (j) (2)) &&& 31)))) 2 (c) (6) (if (gi S 2 (c) (6)) < (gi S 4 (j) (7)) then (gi S 4 (j) (7)) else (gi S 2 (c) (6)))) 2 (c) (7) (if (gi S 2 (c) (7)) < (gi S 4 (j) (8)) then (gi S 4 (j) (8)) else (gi S 2 (c) (7)))) (20 + j) (10 + c)) = (0)) ((si (si (si S 2 (c) (5) ((gi S 2 (c) (5)) ||| ((1) <<< ((gi S 4 (j) (2)) &&& 31)))) 2 (c) (6) (if (gi S 2 (c) (6)) < (gi S 4 (j) (7)) then (gi S 4 (j) (7)) else (gi S 2 (c) (6)))) 2 (c) (7) (if (gi S 2 (c) (7)) < (gi S 4 (j) (8)) then (gi S 4 (j) (8)) else (gi S 2 (c) (7))))) ((s_X6_set (si (si (si S 2 (c) (5) ((gi S 2 (c) (5)) ||| ((1) <<< ((gi S 4 (j) (2)) &&& 31)))) 2 (c) (6) (if (gi S 2 (c) (6)) < (gi S 4 (j) (7)) then (gi S 4 (j) (7)) else (gi S 2 (c) (6)))) 2 (c) (7) (if (gi S 2 (c) (7)) < (gi S 4 (j) (8)) then (gi S 4 (j) (8)) else (gi S 2 (c) (7)))) (10 + c) (20 + j)))) 
    (pif ((gi S 2 (c) (3)) = (3)) 
      (pif ((r_X6_isAbove (si (si (si S 2 (c) (5) ((gi S 2 (c) (5)) ||| ((1) <<< ((gi S 4 (j) (2)) &&& 31)))) 2 (c) (6) (if (gi S 2 (c) (6)) < (gi S 4 (j) (7)) then (gi S 4 (j) (7)) else (gi S 2 (c) (6)))) 2 (c) (7) (if (gi S 2 (c) (7)) < (gi S 4 (j) (8)) then (gi S 4 (j) (8)) else (gi S 2 (c) (7)))) (20 + j) (10 + c)) = (0)) ((si (si (si S 2 (c) (5) ((gi S 2 (c) (5)) ||| ((1) <<< ((gi S 4 (j) (2)) &&& 31)))) 2 (c) (6) (if (gi S 2 (c) (6)) < (gi S 4 (j) (7)) then (gi S 4 (j) (7)) else (gi S 2 (c) (6)))) 2 (c) (7) (if (gi S 2 (c) (7)) < (gi S 4 (j) (8)) then (gi S 4 (j) (8)) else (gi S 2 (c) (7))))) ((s_X6_set (si (si (si S 2 (c) (5) ((gi S 2 (c) (5)) ||| ((1) <<< ((gi S 4 (j) (2)) &&& 31)))) 2 (c) (6) (if (gi S 2 (c) (6)) < (gi S 4 (j) (7)) then (gi S 4 (j) (7)) else (gi S 2 (c) (6)))) 2 (c) (7) (if (gi S 2 (c) (7)) < (gi S 4 (j) (8)) then (gi S 4 (j) (8)) else (gi S 2 (c) (7)))) (10 + c) (20 + j)))) ((si (si (si S 2 (c) (5) ((gi S 2 (c) (5)) ||| ((1) <<< ((gi S 4 (j) (2)) &&& 31)))) 2 (c) (6) (if (gi S 2 (c) (6)) < (gi S 4 (j) (7)) then (gi S 4 (j) (7)) else (gi S 2 (c) (6)))) 2 (c) (7) (if (gi S 2 (c) (7)) < (gi S 4 (j) (8)) then (gi S 4 (j) (8)) else (gi S 2 (c) (7)))))))
set_option maxHeartbeats 4000000 in
set_option maxRecDepth 100000 in
theorem c_X2_learn {l : Launch} {D : va_G} {ar : Nat → ClassId} {A : Nat → Prop} {Z : zZ} {S : zS} {c j : Nat} (hc : Z.2.1 2 c) (hj : Z.2.1 4 j) (hvc : gr S 2 c 1 = some (10 + c)) (hvj : gr S 4 j 0 = some (20 + j)) : zMet l yX2_learn prog_4_method_4_code 3 none ({ frames := 1, cells := 0, slots := 0, locals := 21 } : Room) D ar A Z S [.ref (Z.1 2 (c)), .ref (Z.1 4 (j))] rvV (zF () Z (s_X2_learn S c j)) := by
  refine z_body (by decide +kernel) (Nat.le_of_ble_eq_true rfl) ?_
  intro pX eX sX mX bX methX cX ls hM hr hlk hml hin hl hW hlo
  have hM : zM pX cX mX _ sX prog_4_method_4_code RX2 D ar := hM
  have hS : va_S A sX.heap sX.heap [] := va_S.rf
  have hl : lv_has ls 3 [(0, .ref (Z.1 2 (c))), (1, .ref (Z.1 4 (j)))] := hl
  refine lv_aload_n hM.1 hM.2.1 dX2_learn_0 rfl (lv_at hl 0 rfl) ?_
  refine lv_dup hM.1 hM.2.1 dX2_learn_1 rfl ?_
  refine z_get hM hW zc2 hc rfl 5 (by decide) lf_X2_22 (v := .int (gi S 2 (c) (5))) rfl dX2_learn_2 ?_
  refine lv_iconst (v := 1) hM.1 hM.2.1 dX2_learn_5 (by decide) ?_
  refine lv_aload_n hM.1 hM.2.1 dX2_learn_6 rfl (lv_at hl 1 rfl) ?_
  refine z_get hM hW zc4 hj rfl 2 (by decide) lf_X2_37 (v := .int (gi S 4 (j) (2))) rfl dX2_learn_7 ?_
  refine lv_ishl hM.1 hM.2.1 dX2_learn_10 ?_
  refine lv_ior hM.1 hM.2.1 dX2_learn_11 ?_
  refine z_puti hM hW hS zc2 hc rfl 5 (by decide) rfl lf_X2_22 (Or.inl rfl) (tyX2 5) (tyX2_ok 5 (by decide)) rfl rfl dX2_learn_12 (fun H locs hW hS => ?_)
  refine lv_aload_n hM.1 hM.2.1 dX2_learn_15 rfl (lv_at hl 0 rfl) ?_
  refine lv_aload_n hM.1 hM.2.1 dX2_learn_16 rfl (lv_at hl 0 rfl) ?_
  refine z_get hM hW zc2 hc rfl 6 (by decide) lf_X2_44 (v := .int (gi S 2 (c) (6))) rfl dX2_learn_17 ?_
  refine lv_aload_n hM.1 hM.2.1 dX2_learn_20 rfl (lv_at hl 1 rfl) ?_
  refine z_get hM hW zc4 hj rfl 7 (by decide) lf_X2_47 (v := .int (gi S 4 (j) (7))) rfl dX2_learn_21 ?_
  refine va_mmax hM.1 hM.2.1 (hml.trans hl.1.symm) hM.2.2.1 (hM.2.2.2.1 _ lm_X2_48) (hM.2.2.2.1 _ ls_J_max) (hM.2.2.2.1 _ lz_J) (hM.2.2.2.1 _ lc_J_max) (Nat.le_of_ble_eq_true rfl) (Nat.le_of_ble_eq_true rfl) (Nat.le_of_ble_eq_true rfl) (Nat.le_of_ble_eq_true rfl) dX2_learn_24 ?_
  refine z_puti hM hW hS zc2 hc rfl 6 (by decide) rfl lf_X2_44 (Or.inl rfl) (tyX2 6) (tyX2_ok 6 (by decide)) rfl rfl dX2_learn_27 (fun H locs hW hS => ?_)
  refine lv_aload_n hM.1 hM.2.1 dX2_learn_30 rfl (lv_at hl 0 rfl) ?_
  refine lv_aload_n hM.1 hM.2.1 dX2_learn_31 rfl (lv_at hl 0 rfl) ?_
  refine z_get hM hW zc2 hc rfl 7 (by decide) lf_X2_54 (v := .int (gi S 2 (c) (7))) rfl dX2_learn_32 ?_
  refine lv_aload_n hM.1 hM.2.1 dX2_learn_35 rfl (lv_at hl 1 rfl) ?_
  refine z_get hM hW zc4 hj rfl 8 (by decide) lf_X2_57 (v := .int (gi S 4 (j) (8))) rfl dX2_learn_36 ?_
  refine va_mmax hM.1 hM.2.1 (hml.trans hl.1.symm) hM.2.2.1 (hM.2.2.2.1 _ lm_X2_48) (hM.2.2.2.1 _ ls_J_max) (hM.2.2.2.1 _ lz_J) (hM.2.2.2.1 _ lc_J_max) (Nat.le_of_ble_eq_true rfl) (Nat.le_of_ble_eq_true rfl) (Nat.le_of_ble_eq_true rfl) (Nat.le_of_ble_eq_true rfl) dX2_learn_39 ?_
  refine z_puti hM hW hS zc2 hc rfl 7 (by decide) rfl lf_X2_54 (Or.inl rfl) (tyX2 7) (tyX2_ok 7 (by decide)) rfl rfl dX2_learn_42 (fun H locs hW hS => ?_)
  refine lv_aload_n hM.1 hM.2.1 dX2_learn_45 rfl (lv_at hl 0 rfl) ?_
  refine z_get hM hW zc2 hc rfl 3 (by decide) lf_X2_58 (v := .int (gi S 2 (c) (3))) rfl dX2_learn_46 ?_
  refine lv_iconst (v := 1) hM.1 hM.2.1 dX2_learn_49 (by decide) ?_
  refine lv_icmp_eq hM.1 hM.2.1 dX2_learn_50 (tgt := 61) (by decide) (fun h_50 => ?_) (fun h_50 => ?_)
  ·
    refine lv_iconst (v := 1) hM.1 hM.2.1 dX2_learn_61 (by decide) ?_
    refine lv_goto hM.1 hM.2.1 dX2_learn_62 (tgt := 66) (by decide) ?_
    refine lv_istore_n hM.1 hM.2.1 dX2_learn_66 rfl hl (by decide) (lv' := [(2, .int (1)), (0, .ref (Z.1 2 (c))), (1, .ref (Z.1 4 (j)))]) rfl (fun ls hl => ?_)
    refine lv_iload_n hM.1 hM.2.1 dX2_learn_67 rfl (lv_at hl 0 rfl) ?_
    refine lv_if_eq hM.1 hM.2.1 dX2_learn_68 (tgt := 96) (by decide) (fun h => absurd h (by decide)) (fun _ => ?_)
    refine lv_aload_n hM.1 hM.2.1 dX2_learn_71 rfl (lv_at hl 2 rfl) ?_
    refine z_getr hM hW zc4 hj rfl 0 (by decide) lf_X2_61 (t := 6) (j := 20 + j) rfl hvj dX2_learn_72 (fun hd1_72 => ?_)
    refine lv_aload_n hM.1 hM.2.1 dX2_learn_75 rfl (lv_at hl 1 rfl) ?_
    refine z_getr hM hW zc2 hc rfl 1 (by decide) lf_X2_12 (t := 6) (j := 10 + c) rfl hvc dX2_learn_76 (fun hd2_76 => ?_)
    refine z_Vi hM (hml.trans hl.1.symm) hW hS hlo zc6 hd1_72 rfl zyX6_isAbove lm_X2_62 li_yX6_isAbove le_yX6_isAbove (As := [.ref (Z.1 6 (10 + c))]) (rest := []) (c_X6_isAbove hd1_72 hd2_76) rfl rfl (Nat.le_of_ble_eq_true rfl) ⟨Nat.le_of_ble_eq_true rfl, Nat.le_of_ble_eq_true rfl⟩ ⟨Nat.le_of_ble_eq_true rfl, Nat.le_of_ble_eq_true rfl⟩ dX2_learn_79 (fun H locs hW hS => ?_)
    refine lv_if_eq hM.1 hM.2.1 dX2_learn_82 (tgt := 96) (by decide) (fun h_82 => ?_) (fun h_82 => ?_)
    ·
      exact z_vret hM hlk hr hW hS (zF.of rfl (by unfold s_X2_learn; rw [pif_pos h_50, pif_pos h_82]; first | done | rfl)) dX2_learn_96
    ·
      refine lv_aload_n hM.1 hM.2.1 dX2_learn_85 rfl (lv_at hl 1 rfl) ?_
      refine z_getr hM hW zc2 hc rfl 1 (by decide) lf_X2_12 (t := 6) (j := 10 + c) rfl hvc dX2_learn_86 (fun hd3_86 => ?_)
      refine lv_aload_n hM.1 hM.2.1 dX2_learn_89 rfl (lv_at hl 2 rfl) ?_
      refine z_getr hM hW zc4 hj rfl 0 (by decide) lf_X2_61 (t := 6) (j := 20 + j) rfl hvj dX2_learn_90 (fun hd4_90 => ?_)
      refine z_Vv hM (hml.trans hl.1.symm) hW hS hlo zc6 hd3_86 rfl zyX6_set lm_X2_66 li_yX6_set le_yX6_set (As := [.ref (Z.1 6 (20 + j))]) (rest := []) (c_X6_set hd3_86 hd4_90) rfl rfl (Nat.le_of_ble_eq_true rfl) ⟨Nat.le_of_ble_eq_true rfl, Nat.le_of_ble_eq_true rfl⟩ ⟨Nat.le_of_ble_eq_true rfl, Nat.le_of_ble_eq_true rfl⟩ dX2_learn_93 (fun H locs hW hS => ?_)
      exact z_vret hM hlk hr hW hS (zF.of rfl (by unfold s_X2_learn; rw [pif_pos h_50, pif_neg h_82]; first | done | rfl)) dX2_learn_96
  ·
    refine lv_aload_n hM.1 hM.2.1 dX2_learn_53 rfl (lv_at hl 0 rfl) ?_
    refine z_get hM hW zc2 hc rfl 3 (by decide) lf_X2_58 (v := .int (gi S 2 (c) (3))) rfl dX2_learn_54 ?_
    refine lv_iconst (v := 3) hM.1 hM.2.1 dX2_learn_57 (by decide) ?_
    refine lv_icmp_ne hM.1 hM.2.1 dX2_learn_58 (tgt := 65) (by decide) (fun h_58 => ?_) (fun h_58 => ?_)
    ·
      refine lv_iconst (v := 0) hM.1 hM.2.1 dX2_learn_65 (by decide) ?_
      refine lv_istore_n hM.1 hM.2.1 dX2_learn_66 rfl hl (by decide) (lv' := [(2, .int (0)), (0, .ref (Z.1 2 (c))), (1, .ref (Z.1 4 (j)))]) rfl (fun ls hl => ?_)
      refine lv_iload_n hM.1 hM.2.1 dX2_learn_67 rfl (lv_at hl 0 rfl) ?_
      refine lv_if_eq hM.1 hM.2.1 dX2_learn_68 (tgt := 96) (by decide) (fun _ => ?_) (fun h => absurd (by decide) h)
      exact z_vret hM hlk hr hW hS (zF.of rfl (by unfold s_X2_learn; rw [pif_neg h_50, pif_neg h_58]; first | done | rfl)) dX2_learn_96
    ·
      refine lv_iconst (v := 1) hM.1 hM.2.1 dX2_learn_61 (by decide) ?_
      refine lv_goto hM.1 hM.2.1 dX2_learn_62 (tgt := 66) (by decide) ?_
      refine lv_istore_n hM.1 hM.2.1 dX2_learn_66 rfl hl (by decide) (lv' := [(2, .int (1)), (0, .ref (Z.1 2 (c))), (1, .ref (Z.1 4 (j)))]) rfl (fun ls hl => ?_)
      refine lv_iload_n hM.1 hM.2.1 dX2_learn_67 rfl (lv_at hl 0 rfl) ?_
      refine lv_if_eq hM.1 hM.2.1 dX2_learn_68 (tgt := 96) (by decide) (fun h => absurd h (by decide)) (fun _ => ?_)
      refine lv_aload_n hM.1 hM.2.1 dX2_learn_71 rfl (lv_at hl 2 rfl) ?_
      refine z_getr hM hW zc4 hj rfl 0 (by decide) lf_X2_61 (t := 6) (j := 20 + j) rfl hvj dX2_learn_72 (fun hd5_72 => ?_)
      refine lv_aload_n hM.1 hM.2.1 dX2_learn_75 rfl (lv_at hl 1 rfl) ?_
      refine z_getr hM hW zc2 hc rfl 1 (by decide) lf_X2_12 (t := 6) (j := 10 + c) rfl hvc dX2_learn_76 (fun hd6_76 => ?_)
      refine z_Vi hM (hml.trans hl.1.symm) hW hS hlo zc6 hd5_72 rfl zyX6_isAbove lm_X2_62 li_yX6_isAbove le_yX6_isAbove (As := [.ref (Z.1 6 (10 + c))]) (rest := []) (c_X6_isAbove hd5_72 hd6_76) rfl rfl (Nat.le_of_ble_eq_true rfl) ⟨Nat.le_of_ble_eq_true rfl, Nat.le_of_ble_eq_true rfl⟩ ⟨Nat.le_of_ble_eq_true rfl, Nat.le_of_ble_eq_true rfl⟩ dX2_learn_79 (fun H locs hW hS => ?_)
      refine lv_if_eq hM.1 hM.2.1 dX2_learn_82 (tgt := 96) (by decide) (fun h_82 => ?_) (fun h_82 => ?_)
      ·
        exact z_vret hM hlk hr hW hS (zF.of rfl (by unfold s_X2_learn; rw [pif_neg h_50, pif_pos h_58, pif_pos h_82]; first | done | rfl)) dX2_learn_96
      ·
        refine lv_aload_n hM.1 hM.2.1 dX2_learn_85 rfl (lv_at hl 1 rfl) ?_
        refine z_getr hM hW zc2 hc rfl 1 (by decide) lf_X2_12 (t := 6) (j := 10 + c) rfl hvc dX2_learn_86 (fun hd7_86 => ?_)
        refine lv_aload_n hM.1 hM.2.1 dX2_learn_89 rfl (lv_at hl 2 rfl) ?_
        refine z_getr hM hW zc4 hj rfl 0 (by decide) lf_X2_61 (t := 6) (j := 20 + j) rfl hvj dX2_learn_90 (fun hd8_90 => ?_)
        refine z_Vv hM (hml.trans hl.1.symm) hW hS hlo zc6 hd7_86 rfl zyX6_set lm_X2_66 li_yX6_set le_yX6_set (As := [.ref (Z.1 6 (20 + j))]) (rest := []) (c_X6_set hd7_86 hd8_90) rfl rfl (Nat.le_of_ble_eq_true rfl) ⟨Nat.le_of_ble_eq_true rfl, Nat.le_of_ble_eq_true rfl⟩ ⟨Nat.le_of_ble_eq_true rfl, Nat.le_of_ble_eq_true rfl⟩ dX2_learn_93 (fun H locs hW hS => ?_)
        exact z_vret hM hlk hr hW hS (zF.of rfl (by unfold s_X2_learn; rw [pif_neg h_50, pif_pos h_58, pif_neg h_82]; first | done | rfl)) dX2_learn_96

noncomputable def s_X3_obey (S : zS) (c j : Nat) : zS := 
  (pif ((gi S 4 (j) (5)) = (2)) 
    (pif ((r_X6_isAbove S (20 + j) (c)) = (0)) (S) ((s_X6_set S (c) (20 + j)))) 
    (pif ((gi S 4 (j) (5)) = (3)) ((si S 3 (c) (2) (if (gi S 3 (c) (2)) < (gi S 4 (j) (8)) then (gi S 4 (j) (8)) else (gi S 3 (c) (2))))) 
      (pif ((gi S 4 (j) (5)) = (4)) 
        (pif ((r_X6_isAbove S (20 + j) (c)) = (0)) (S) ((s_X6_set S (c) (20 + j)))) 
        (pif ((gi S 4 (j) (5)) = (5)) ((si (si S 3 (c) (1) (if (gi S 3 (c) (1)) < (gi S 4 (j) (8)) then (gi S 4 (j) (8)) else (gi S 3 (c) (1)))) 3 (c) (2) (if (gi S 3 (c) (2)) < (gi S 4 (j) (8)) then (gi S 4 (j) (8)) else (gi S 3 (c) (2))))) (S)))))
set_option maxHeartbeats 4000000 in
set_option maxRecDepth 100000 in
theorem c_X3_obey {l : Launch} {D : va_G} {ar : Nat → ClassId} {A : Nat → Prop} {Z : zZ} {S : zS} {c j : Nat} (hc : Z.2.1 3 c) (hj : Z.2.1 4 j) (hvc : gr S 3 c 0 = some c) (hvj : gr S 4 j 0 = some (20 + j)) : zMet l yX3_obey prog_5_method_2_code 2 none ({ frames := 1, cells := 0, slots := 0, locals := 21 } : Room) D ar A Z S [.ref (Z.1 3 (c)), .ref (Z.1 4 (j))] rvV (zF () Z (s_X3_obey S c j)) := by
  refine z_body (by decide +kernel) (Nat.le_of_ble_eq_true rfl) ?_
  intro pX eX sX mX bX methX cX ls hM hr hlk hml hin hl hW hlo
  have hM : zM pX cX mX _ sX prog_5_method_2_code RX3 D ar := hM
  have hS : va_S A sX.heap sX.heap [] := va_S.rf
  have hl : lv_has ls 2 [(0, .ref (Z.1 3 (c))), (1, .ref (Z.1 4 (j)))] := hl
  refine lv_aload_n hM.1 hM.2.1 dX3_obey_0 rfl (lv_at hl 1 rfl) ?_
  refine z_get hM hW zc4 hj rfl 5 (by decide) lf_X3_18 (v := .int (gi S 4 (j) (5))) rfl dX3_obey_1 ?_
  by_cases h_4_2 : (gi S 4 (j) (5)) = (2)
  ·
    refine lv_tableIn hM.1 hM.2.1 dX3_obey_4 (by rw [h_4_2]; decide) (by rw [h_4_2]; decide) (off := 32) (by rw [h_4_2]; rfl) (tgt := 36) (by decide) ?_
    refine lv_aload_n hM.1 hM.2.1 dX3_obey_36 rfl (lv_at hl 1 rfl) ?_
    refine z_getr hM hW zc4 hj rfl 0 (by decide) lf_X3_24 (t := 6) (j := 20 + j) rfl hvj dX3_obey_37 (fun hd1_37 => ?_)
    refine lv_aload_n hM.1 hM.2.1 dX3_obey_40 rfl (lv_at hl 0 rfl) ?_
    refine z_getr hM hW zc3 hc rfl 0 (by decide) lf_X3_12 (t := 6) (j := c) rfl hvc dX3_obey_41 (fun hd2_41 => ?_)
    refine z_Vi hM (hml.trans hl.1.symm) hW hS hlo zc6 hd1_37 rfl zyX6_isAbove lm_X3_25 li_yX6_isAbove le_yX6_isAbove (As := [.ref (Z.1 6 (c))]) (rest := []) (c_X6_isAbove hd1_37 hd2_41) rfl rfl (Nat.le_of_ble_eq_true rfl) ⟨Nat.le_of_ble_eq_true rfl, Nat.le_of_ble_eq_true rfl⟩ ⟨Nat.le_of_ble_eq_true rfl, Nat.le_of_ble_eq_true rfl⟩ dX3_obey_44 (fun H locs hW hS => ?_)
    refine lv_if_eq hM.1 hM.2.1 dX3_obey_47 (tgt := 115) (by decide) (fun h_47 => ?_) (fun h_47 => ?_)
    ·
      exact z_vret hM hlk hr hW hS (zF.of rfl (by unfold s_X3_obey; rw [pif_pos h_4_2, pif_pos h_47]; first | done | rfl)) dX3_obey_115
    ·
      refine lv_aload_n hM.1 hM.2.1 dX3_obey_50 rfl (lv_at hl 0 rfl) ?_
      refine z_getr hM hW zc3 hc rfl 0 (by decide) lf_X3_12 (t := 6) (j := c) rfl hvc dX3_obey_51 (fun hd3_51 => ?_)
      refine lv_aload_n hM.1 hM.2.1 dX3_obey_54 rfl (lv_at hl 1 rfl) ?_
      refine z_getr hM hW zc4 hj rfl 0 (by decide) lf_X3_24 (t := 6) (j := 20 + j) rfl hvj dX3_obey_55 (fun hd4_55 => ?_)
      refine z_Vv hM (hml.trans hl.1.symm) hW hS hlo zc6 hd3_51 rfl zyX6_set lm_X3_29 li_yX6_set le_yX6_set (As := [.ref (Z.1 6 (20 + j))]) (rest := []) (c_X6_set hd3_51 hd4_55) rfl rfl (Nat.le_of_ble_eq_true rfl) ⟨Nat.le_of_ble_eq_true rfl, Nat.le_of_ble_eq_true rfl⟩ ⟨Nat.le_of_ble_eq_true rfl, Nat.le_of_ble_eq_true rfl⟩ dX3_obey_58 (fun H locs hW hS => ?_)
      refine lv_goto hM.1 hM.2.1 dX3_obey_61 (tgt := 115) (by decide) ?_
      exact z_vret hM hlk hr hW hS (zF.of rfl (by unfold s_X3_obey; rw [pif_pos h_4_2, pif_neg h_47]; first | done | rfl)) dX3_obey_115
  by_cases h_4_3 : (gi S 4 (j) (5)) = (3)
  ·
    refine lv_tableIn hM.1 hM.2.1 dX3_obey_4 (by rw [h_4_3]; decide) (by rw [h_4_3]; decide) (off := 60) (by rw [h_4_3]; rfl) (tgt := 64) (by decide) ?_
    refine lv_aload_n hM.1 hM.2.1 dX3_obey_64 rfl (lv_at hl 0 rfl) ?_
    refine lv_aload_n hM.1 hM.2.1 dX3_obey_65 rfl (lv_at hl 0 rfl) ?_
    refine z_get hM hW zc3 hc rfl 2 (by decide) lf_X3_33 (v := .int (gi S 3 (c) (2))) rfl dX3_obey_66 ?_
    refine lv_aload_n hM.1 hM.2.1 dX3_obey_69 rfl (lv_at hl 1 rfl) ?_
    refine z_get hM hW zc4 hj rfl 8 (by decide) lf_X3_36 (v := .int (gi S 4 (j) (8))) rfl dX3_obey_70 ?_
    refine va_mmax hM.1 hM.2.1 (hml.trans hl.1.symm) hM.2.2.1 (hM.2.2.2.1 _ lm_X3_37) (hM.2.2.2.1 _ ls_J_max) (hM.2.2.2.1 _ lz_J) (hM.2.2.2.1 _ lc_J_max) (Nat.le_of_ble_eq_true rfl) (Nat.le_of_ble_eq_true rfl) (Nat.le_of_ble_eq_true rfl) (Nat.le_of_ble_eq_true rfl) dX3_obey_73 ?_
    refine z_puti hM hW hS zc3 hc rfl 2 (by decide) rfl lf_X3_33 (Or.inl rfl) (tyX3 2) (tyX3_ok 2 (by decide)) rfl rfl dX3_obey_76 (fun H locs hW hS => ?_)
    refine lv_goto hM.1 hM.2.1 dX3_obey_79 (tgt := 115) (by decide) ?_
    exact z_vret hM hlk hr hW hS (zF.of rfl (by unfold s_X3_obey; rw [pif_neg h_4_2, pif_pos h_4_3]; first | done | rfl)) dX3_obey_115
  by_cases h_4_4 : (gi S 4 (j) (5)) = (4)
  ·
    refine lv_tableIn hM.1 hM.2.1 dX3_obey_4 (by rw [h_4_4]; decide) (by rw [h_4_4]; decide) (off := 32) (by rw [h_4_4]; rfl) (tgt := 36) (by decide) ?_
    refine lv_aload_n hM.1 hM.2.1 dX3_obey_36 rfl (lv_at hl 1 rfl) ?_
    refine z_getr hM hW zc4 hj rfl 0 (by decide) lf_X3_24 (t := 6) (j := 20 + j) rfl hvj dX3_obey_37 (fun hd5_37 => ?_)
    refine lv_aload_n hM.1 hM.2.1 dX3_obey_40 rfl (lv_at hl 0 rfl) ?_
    refine z_getr hM hW zc3 hc rfl 0 (by decide) lf_X3_12 (t := 6) (j := c) rfl hvc dX3_obey_41 (fun hd6_41 => ?_)
    refine z_Vi hM (hml.trans hl.1.symm) hW hS hlo zc6 hd5_37 rfl zyX6_isAbove lm_X3_25 li_yX6_isAbove le_yX6_isAbove (As := [.ref (Z.1 6 (c))]) (rest := []) (c_X6_isAbove hd5_37 hd6_41) rfl rfl (Nat.le_of_ble_eq_true rfl) ⟨Nat.le_of_ble_eq_true rfl, Nat.le_of_ble_eq_true rfl⟩ ⟨Nat.le_of_ble_eq_true rfl, Nat.le_of_ble_eq_true rfl⟩ dX3_obey_44 (fun H locs hW hS => ?_)
    refine lv_if_eq hM.1 hM.2.1 dX3_obey_47 (tgt := 115) (by decide) (fun h_47 => ?_) (fun h_47 => ?_)
    ·
      exact z_vret hM hlk hr hW hS (zF.of rfl (by unfold s_X3_obey; rw [pif_neg h_4_2, pif_neg h_4_3, pif_pos h_4_4, pif_pos h_47]; first | done | rfl)) dX3_obey_115
    ·
      refine lv_aload_n hM.1 hM.2.1 dX3_obey_50 rfl (lv_at hl 0 rfl) ?_
      refine z_getr hM hW zc3 hc rfl 0 (by decide) lf_X3_12 (t := 6) (j := c) rfl hvc dX3_obey_51 (fun hd7_51 => ?_)
      refine lv_aload_n hM.1 hM.2.1 dX3_obey_54 rfl (lv_at hl 1 rfl) ?_
      refine z_getr hM hW zc4 hj rfl 0 (by decide) lf_X3_24 (t := 6) (j := 20 + j) rfl hvj dX3_obey_55 (fun hd8_55 => ?_)
      refine z_Vv hM (hml.trans hl.1.symm) hW hS hlo zc6 hd7_51 rfl zyX6_set lm_X3_29 li_yX6_set le_yX6_set (As := [.ref (Z.1 6 (20 + j))]) (rest := []) (c_X6_set hd7_51 hd8_55) rfl rfl (Nat.le_of_ble_eq_true rfl) ⟨Nat.le_of_ble_eq_true rfl, Nat.le_of_ble_eq_true rfl⟩ ⟨Nat.le_of_ble_eq_true rfl, Nat.le_of_ble_eq_true rfl⟩ dX3_obey_58 (fun H locs hW hS => ?_)
      refine lv_goto hM.1 hM.2.1 dX3_obey_61 (tgt := 115) (by decide) ?_
      exact z_vret hM hlk hr hW hS (zF.of rfl (by unfold s_X3_obey; rw [pif_neg h_4_2, pif_neg h_4_3, pif_pos h_4_4, pif_neg h_47]; first | done | rfl)) dX3_obey_115
  by_cases h_4_5 : (gi S 4 (j) (5)) = (5)
  ·
    refine lv_tableIn hM.1 hM.2.1 dX3_obey_4 (by rw [h_4_5]; decide) (by rw [h_4_5]; decide) (off := 78) (by rw [h_4_5]; rfl) (tgt := 82) (by decide) ?_
    refine lv_aload_n hM.1 hM.2.1 dX3_obey_82 rfl (lv_at hl 0 rfl) ?_
    refine lv_aload_n hM.1 hM.2.1 dX3_obey_83 rfl (lv_at hl 0 rfl) ?_
    refine z_get hM hW zc3 hc rfl 1 (by decide) lf_X3_43 (v := .int (gi S 3 (c) (1))) rfl dX3_obey_84 ?_
    refine lv_aload_n hM.1 hM.2.1 dX3_obey_87 rfl (lv_at hl 1 rfl) ?_
    refine z_get hM hW zc4 hj rfl 8 (by decide) lf_X3_36 (v := .int (gi S 4 (j) (8))) rfl dX3_obey_88 ?_
    refine va_mmax hM.1 hM.2.1 (hml.trans hl.1.symm) hM.2.2.1 (hM.2.2.2.1 _ lm_X3_37) (hM.2.2.2.1 _ ls_J_max) (hM.2.2.2.1 _ lz_J) (hM.2.2.2.1 _ lc_J_max) (Nat.le_of_ble_eq_true rfl) (Nat.le_of_ble_eq_true rfl) (Nat.le_of_ble_eq_true rfl) (Nat.le_of_ble_eq_true rfl) dX3_obey_91 ?_
    refine z_puti hM hW hS zc3 hc rfl 1 (by decide) rfl lf_X3_43 (Or.inl rfl) (tyX3 1) (tyX3_ok 1 (by decide)) rfl rfl dX3_obey_94 (fun H locs hW hS => ?_)
    refine lv_aload_n hM.1 hM.2.1 dX3_obey_97 rfl (lv_at hl 0 rfl) ?_
    refine lv_aload_n hM.1 hM.2.1 dX3_obey_98 rfl (lv_at hl 0 rfl) ?_
    refine z_get hM hW zc3 hc rfl 2 (by decide) lf_X3_33 (v := .int (gi S 3 (c) (2))) rfl dX3_obey_99 ?_
    refine lv_aload_n hM.1 hM.2.1 dX3_obey_102 rfl (lv_at hl 1 rfl) ?_
    refine z_get hM hW zc4 hj rfl 8 (by decide) lf_X3_36 (v := .int (gi S 4 (j) (8))) rfl dX3_obey_103 ?_
    refine va_mmax hM.1 hM.2.1 (hml.trans hl.1.symm) hM.2.2.1 (hM.2.2.2.1 _ lm_X3_37) (hM.2.2.2.1 _ ls_J_max) (hM.2.2.2.1 _ lz_J) (hM.2.2.2.1 _ lc_J_max) (Nat.le_of_ble_eq_true rfl) (Nat.le_of_ble_eq_true rfl) (Nat.le_of_ble_eq_true rfl) (Nat.le_of_ble_eq_true rfl) dX3_obey_106 ?_
    refine z_puti hM hW hS zc3 hc rfl 2 (by decide) rfl lf_X3_33 (Or.inl rfl) (tyX3 2) (tyX3_ok 2 (by decide)) rfl rfl dX3_obey_109 (fun H locs hW hS => ?_)
    refine lv_goto hM.1 hM.2.1 dX3_obey_112 (tgt := 115) (by decide) ?_
    exact z_vret hM hlk hr hW hS (zF.of rfl (by unfold s_X3_obey; rw [pif_neg h_4_2, pif_neg h_4_3, pif_neg h_4_4, pif_pos h_4_5]; first | done | rfl)) dX3_obey_115
  refine lv_tableOut hM.1 hM.2.1 dX3_obey_4 (by have n2 : Int32.toInt (gi S 4 (j) (5)) ≠ 2 := fun q => h_4_2 (Int32.toInt_inj.mp (by rw [q]; rfl)); have n3 : Int32.toInt (gi S 4 (j) (5)) ≠ 3 := fun q => h_4_3 (Int32.toInt_inj.mp (by rw [q]; rfl)); have n4 : Int32.toInt (gi S 4 (j) (5)) ≠ 4 := fun q => h_4_4 (Int32.toInt_inj.mp (by rw [q]; rfl)); have n5 : Int32.toInt (gi S 4 (j) (5)) ≠ 5 := fun q => h_4_5 (Int32.toInt_inj.mp (by rw [q]; rfl)); omega) (tgt := 115) (by decide) ?_
  exact z_vret hM hlk hr hW hS (zF.of rfl (by unfold s_X3_obey; rw [pif_neg h_4_2, pif_neg h_4_3, pif_neg h_4_4, pif_neg h_4_5]; first | done | rfl)) dX3_obey_115

noncomputable def s_X4_repeat (S : zS) (j q : Nat) : zS := ((s_X6_set (si (si (si (si (si (si (si (si S 4 (j) (1) (gi S 4 (q) (1))) 4 (j) (2) (gi S 4 (q) (2))) 4 (j) (3) (gi S 4 (q) (3))) 4 (j) (4) (gi S 4 (q) (4))) 4 (j) (5) (gi S 4 (q) (5))) 4 (j) (6) (gi S 4 (q) (6))) 4 (j) (7) (gi S 4 (q) (7))) 4 (j) (8) (gi S 4 (q) (8))) (20 + j) (20 + q)))
set_option maxHeartbeats 4000000 in
set_option maxRecDepth 100000 in
theorem c_X4_repeat {l : Launch} {D : va_G} {ar : Nat → ClassId} {A : Nat → Prop} {Z : zZ} {S : zS} {j q : Nat} (hj : Z.2.1 4 j) (hq : Z.2.1 4 q) (hvj : gr S 4 j 0 = some (20 + j)) (hvq : gr S 4 q 0 = some (20 + q)) (hbq : isB (gi S 4 q 1)) : zMet l yX4_repeat prog_6_method_2_code 2 none ({ frames := 1, cells := 0, slots := 0, locals := 21 } : Room) D ar A Z S [.ref (Z.1 4 (j)), .ref (Z.1 4 (q))] rvV (zF () Z (s_X4_repeat S j q)) := by
  refine z_body (by decide +kernel) (Nat.le_of_ble_eq_true rfl) ?_
  intro pX eX sX mX bX methX cX ls hM hr hlk hml hin hl hW hlo
  have hM : zM pX cX mX _ sX prog_6_method_2_code RX4 D ar := hM
  have hS : va_S A sX.heap sX.heap [] := va_S.rf
  have hl : lv_has ls 2 [(0, .ref (Z.1 4 (j))), (1, .ref (Z.1 4 (q)))] := hl
  refine lv_aload_n hM.1 hM.2.1 dX4_repeat_0 rfl (lv_at hl 0 rfl) ?_
  refine lv_aload_n hM.1 hM.2.1 dX4_repeat_1 rfl (lv_at hl 1 rfl) ?_
  refine z_get hM hW zc4 hq rfl 1 (by decide) lf_X4_16 (v := .int (gi S 4 (q) (1))) rfl dX4_repeat_2 ?_
  refine z_puti hM hW hS zc4 hj rfl 1 (by decide) rfl lf_X4_16 (Or.inl rfl) (tyX4 1) (tyX4_ok 1 (by decide)) (narrow_isB hbq) (fits_isB hbq) dX4_repeat_5 (fun H locs hW hS => ?_)
  refine lv_aload_n hM.1 hM.2.1 dX4_repeat_8 rfl (lv_at hl 0 rfl) ?_
  refine lv_aload_n hM.1 hM.2.1 dX4_repeat_9 rfl (lv_at hl 1 rfl) ?_
  refine z_get hM hW zc4 hq rfl 2 (by decide) lf_X4_20 (v := .int (gi S 4 (q) (2))) rfl dX4_repeat_10 ?_
  refine z_puti hM hW hS zc4 hj rfl 2 (by decide) rfl lf_X4_20 (Or.inl rfl) (tyX4 2) (tyX4_ok 2 (by decide)) rfl rfl dX4_repeat_13 (fun H locs hW hS => ?_)
  refine lv_aload_n hM.1 hM.2.1 dX4_repeat_16 rfl (lv_at hl 0 rfl) ?_
  refine lv_aload_n hM.1 hM.2.1 dX4_repeat_17 rfl (lv_at hl 1 rfl) ?_
  refine z_get hM hW zc4 hq rfl 3 (by decide) lf_X4_24 (v := .int (gi S 4 (q) (3))) rfl dX4_repeat_18 ?_
  refine z_puti hM hW hS zc4 hj rfl 3 (by decide) rfl lf_X4_24 (Or.inl rfl) (tyX4 3) (tyX4_ok 3 (by decide)) rfl rfl dX4_repeat_21 (fun H locs hW hS => ?_)
  refine lv_aload_n hM.1 hM.2.1 dX4_repeat_24 rfl (lv_at hl 0 rfl) ?_
  refine lv_aload_n hM.1 hM.2.1 dX4_repeat_25 rfl (lv_at hl 1 rfl) ?_
  refine z_get hM hW zc4 hq rfl 4 (by decide) lf_X4_27 (v := .int (gi S 4 (q) (4))) rfl dX4_repeat_26 ?_
  refine z_puti hM hW hS zc4 hj rfl 4 (by decide) rfl lf_X4_27 (Or.inl rfl) (tyX4 4) (tyX4_ok 4 (by decide)) rfl rfl dX4_repeat_29 (fun H locs hW hS => ?_)
  refine lv_aload_n hM.1 hM.2.1 dX4_repeat_32 rfl (lv_at hl 0 rfl) ?_
  refine lv_aload_n hM.1 hM.2.1 dX4_repeat_33 rfl (lv_at hl 1 rfl) ?_
  refine z_get hM hW zc4 hq rfl 5 (by decide) lf_X4_30 (v := .int (gi S 4 (q) (5))) rfl dX4_repeat_34 ?_
  refine z_puti hM hW hS zc4 hj rfl 5 (by decide) rfl lf_X4_30 (Or.inl rfl) (tyX4 5) (tyX4_ok 5 (by decide)) rfl rfl dX4_repeat_37 (fun H locs hW hS => ?_)
  refine lv_aload_n hM.1 hM.2.1 dX4_repeat_40 rfl (lv_at hl 0 rfl) ?_
  refine lv_aload_n hM.1 hM.2.1 dX4_repeat_41 rfl (lv_at hl 1 rfl) ?_
  refine z_get hM hW zc4 hq rfl 6 (by decide) lf_X4_33 (v := .int (gi S 4 (q) (6))) rfl dX4_repeat_42 ?_
  refine z_puti hM hW hS zc4 hj rfl 6 (by decide) rfl lf_X4_33 (Or.inl rfl) (tyX4 6) (tyX4_ok 6 (by decide)) rfl rfl dX4_repeat_45 (fun H locs hW hS => ?_)
  refine lv_aload_n hM.1 hM.2.1 dX4_repeat_48 rfl (lv_at hl 0 rfl) ?_
  refine lv_aload_n hM.1 hM.2.1 dX4_repeat_49 rfl (lv_at hl 1 rfl) ?_
  refine z_get hM hW zc4 hq rfl 7 (by decide) lf_X4_36 (v := .int (gi S 4 (q) (7))) rfl dX4_repeat_50 ?_
  refine z_puti hM hW hS zc4 hj rfl 7 (by decide) rfl lf_X4_36 (Or.inl rfl) (tyX4 7) (tyX4_ok 7 (by decide)) rfl rfl dX4_repeat_53 (fun H locs hW hS => ?_)
  refine lv_aload_n hM.1 hM.2.1 dX4_repeat_56 rfl (lv_at hl 0 rfl) ?_
  refine lv_aload_n hM.1 hM.2.1 dX4_repeat_57 rfl (lv_at hl 1 rfl) ?_
  refine z_get hM hW zc4 hq rfl 8 (by decide) lf_X4_39 (v := .int (gi S 4 (q) (8))) rfl dX4_repeat_58 ?_
  refine z_puti hM hW hS zc4 hj rfl 8 (by decide) rfl lf_X4_39 (Or.inl rfl) (tyX4 8) (tyX4_ok 8 (by decide)) rfl rfl dX4_repeat_61 (fun H locs hW hS => ?_)
  refine lv_aload_n hM.1 hM.2.1 dX4_repeat_64 rfl (lv_at hl 0 rfl) ?_
  refine z_getr hM hW zc4 hj rfl 0 (by decide) lf_X4_10 (t := 6) (j := 20 + j) rfl hvj dX4_repeat_65 (fun hd1_65 => ?_)
  refine lv_aload_n hM.1 hM.2.1 dX4_repeat_68 rfl (lv_at hl 1 rfl) ?_
  refine z_getr hM hW zc4 hq rfl 0 (by decide) lf_X4_10 (t := 6) (j := 20 + q) rfl hvq dX4_repeat_69 (fun hd2_69 => ?_)
  refine z_Vv hM (hml.trans hl.1.symm) hW hS hlo zc6 hd1_65 rfl zyX6_set lm_X4_42 li_yX6_set le_yX6_set (As := [.ref (Z.1 6 (20 + q))]) (rest := []) (c_X6_set hd1_65 hd2_69) rfl rfl (Nat.le_of_ble_eq_true rfl) ⟨Nat.le_of_ble_eq_true rfl, Nat.le_of_ble_eq_true rfl⟩ ⟨Nat.le_of_ble_eq_true rfl, Nat.le_of_ble_eq_true rfl⟩ dX4_repeat_72 (fun H locs hW hS => ?_)
  exact z_vret hM hlk hr hW hS (zF.of rfl (by unfold s_X4_repeat; rfl)) dX4_repeat_75

noncomputable def r_X1_at (S : zS) (pm : Nat → Nat) (k : Int32) : Option Nat := 
  (pif ((k) < (0)) (none) 
    (pif ((gi S 1 (0) (2)) ≤ (k)) (none) 
      (pif ((300) ≤ (k)) (none) (some (pm (ix (k)))))))
set_option maxHeartbeats 4000000 in
set_option maxRecDepth 100000 in
theorem c_X1_at {l : Launch} {D : va_G} {ar : Nat → ClassId} {A : Nat → Prop} {Z : zZ} {S : zS} {pm : Nat → Nat} {k : Int32} (hi : Z.2.1 1 0) (hrw : gr S 1 0 0 = some 0) (hz : Z.2.2 15 0 = 300) (hpm : ∀ j, j < 300 → gr S 15 0 j = some (pm j)) : zMet l yX1_at prog_3_method_2_code 2 (some (.object "VotedFile$Message")) ({ frames := 0, cells := 0, slots := 0, locals := 0 } : Room) D ar A Z S [.ref (Z.1 1 (0)), .int (k)] (rvR 4) (zF (r_X1_at S pm k) Z S) := by
  refine z_body (by decide +kernel) (Nat.le_of_ble_eq_true rfl) ?_
  intro pX eX sX mX bX methX cX ls hM hr hlk hml hin hl hW hlo
  have hM : zM pX cX mX _ sX prog_3_method_2_code RX1 D ar := hM
  have hS : va_S A sX.heap sX.heap [] := va_S.rf
  have hl : lv_has ls 2 [(0, .ref (Z.1 1 (0))), (1, .int (k))] := hl
  refine lv_iload_n hM.1 hM.2.1 dX1_at_0 rfl (lv_at hl 1 rfl) ?_
  refine lv_if_lt hM.1 hM.2.1 dX1_at_1 (tgt := 30) (by decide) (fun h_1 => ?_) (fun h_1 => ?_)
  ·
    refine lv_null hM.1 hM.2.1 dX1_at_30 ?_
    exact z_aret hM hlk hr (none) rfl hW hS (zF.of (by unfold r_X1_at; rw [pif_pos h_1]; first | done | rfl) rfl) dX1_at_31
  ·
    refine lv_iload_n hM.1 hM.2.1 dX1_at_4 rfl (lv_at hl 1 rfl) ?_
    refine lv_aload_n hM.1 hM.2.1 dX1_at_5 rfl (lv_at hl 0 rfl) ?_
    refine z_get hM hW zc1 hi rfl 2 (by decide) lf_X1_22 (v := .int (gi S 1 (0) (2))) rfl dX1_at_6 ?_
    refine lv_icmp_ge hM.1 hM.2.1 dX1_at_9 (tgt := 30) (by decide) (fun h_9 => ?_) (fun h_9 => ?_)
    ·
      refine lv_null hM.1 hM.2.1 dX1_at_30 ?_
      exact z_aret hM hlk hr (none) rfl hW hS (zF.of (by unfold r_X1_at; rw [pif_neg h_1, pif_pos h_9]; first | done | rfl) rfl) dX1_at_31
    ·
      refine lv_iload_n hM.1 hM.2.1 dX1_at_12 rfl (lv_at hl 1 rfl) ?_
      refine lv_aload_n hM.1 hM.2.1 dX1_at_13 rfl (lv_at hl 0 rfl) ?_
      refine z_getr hM hW zc1 hi rfl 0 (by decide) lf_X1_11 (t := 15) (j := 0) rfl hrw dX1_at_14 (fun hd1_14 => ?_)
      refine z_alen hM hW hd1_14 (by decide) rfl 6 rfl (v := 300) (by rw [hz]; rfl) dX1_at_17 ?_
      refine lv_icmp_ge hM.1 hM.2.1 dX1_at_18 (tgt := 30) (by decide) (fun h_18 => ?_) (fun h_18 => ?_)
      ·
        refine lv_null hM.1 hM.2.1 dX1_at_30 ?_
        exact z_aret hM hlk hr (none) rfl hW hS (zF.of (by unfold r_X1_at; rw [pif_neg h_1, pif_neg h_9, pif_pos h_18]; first | done | rfl) rfl) dX1_at_31
      ·
        refine lv_aload_n hM.1 hM.2.1 dX1_at_21 rfl (lv_at hl 0 rfl) ?_
        refine z_getr hM hW zc1 hi rfl 0 (by decide) lf_X1_11 (t := 15) (j := 0) rfl hrw dX1_at_22 (fun hd2_22 => ?_)
        refine lv_iload_n hM.1 hM.2.1 dX1_at_25 rfl (lv_at hl 1 rfl) ?_
        refine z_aaldr hM hW hd2_22 (by decide) rfl 6 rfl (vin_of h_1 (N := 300) h_18 (by decide) hz) (t := 4) (q := pm (ix (k))) rfl (hpm _ (vin_lt (vin_of h_1 (N := 300) h_18 (by decide) hz) hz)) dX1_at_26 (fun hd3_26 => ?_)
        refine lv_goto hM.1 hM.2.1 dX1_at_27 (tgt := 31) (by decide) ?_
        exact z_aret hM hlk hr (some (pm (ix (k)))) rfl hW hS (zF.of (by unfold r_X1_at; rw [pif_neg h_1, pif_neg h_9, pif_neg h_18]; first | done | rfl) rfl) dX1_at_31

noncomputable def r_X1_next (S : zS) (pm : Nat → Nat) : Option Nat := 
  (pif ((gi S 1 (0) (2)) < (300)) (some (pm (ix (gi S 1 (0) (2))))) (none))
noncomputable def s_X1_next (S : zS) (pm : Nat → Nat) : zS := 
  (pif ((gi S 1 (0) (2)) < (300)) ((si S 1 (0) (2) ((gi S 1 (0) (2)) + (1)))) ((si S 1 (0) (3) ((gi S 1 (0) (3)) + (1)))))
set_option maxHeartbeats 4000000 in
set_option maxRecDepth 100000 in
theorem c_X1_next {l : Launch} {D : va_G} {ar : Nat → ClassId} {A : Nat → Prop} {Z : zZ} {S : zS} {pm : Nat → Nat} (hi : Z.2.1 1 0) (hrw : gr S 1 0 0 = some 0) (hz : Z.2.2 15 0 = 300) (hpm : ∀ j, j < 300 → gr S 15 0 j = some (pm j)) (hc0 : ¬ gi S 1 0 2 < 0) : zMet l yX1_next prog_3_method_3_code 2 (some (.object "VotedFile$Message")) ({ frames := 0, cells := 0, slots := 0, locals := 0 } : Room) D ar A Z S [.ref (Z.1 1 (0))] (rvR 4) (zF (r_X1_next S pm) Z (s_X1_next S pm)) := by
  refine z_body (by decide +kernel) (Nat.le_of_ble_eq_true rfl) ?_
  intro pX eX sX mX bX methX cX ls hM hr hlk hml hin hl hW hlo
  have hM : zM pX cX mX _ sX prog_3_method_3_code RX1 D ar := hM
  have hS : va_S A sX.heap sX.heap [] := va_S.rf
  have hl : lv_has ls 2 [(0, .ref (Z.1 1 (0)))] := hl
  refine lv_aload_n hM.1 hM.2.1 dX1_next_0 rfl (lv_at hl 0 rfl) ?_
  refine z_get hM hW zc1 hi rfl 2 (by decide) lf_X1_22 (v := .int (gi S 1 (0) (2))) rfl dX1_next_1 ?_
  refine lv_aload_n hM.1 hM.2.1 dX1_next_4 rfl (lv_at hl 0 rfl) ?_
  refine z_getr hM hW zc1 hi rfl 0 (by decide) lf_X1_11 (t := 15) (j := 0) rfl hrw dX1_next_5 (fun hd1_5 => ?_)
  refine z_alen hM hW hd1_5 (by decide) rfl 6 rfl (v := 300) (by rw [hz]; rfl) dX1_next_8 ?_
  refine lv_icmp_lt hM.1 hM.2.1 dX1_next_9 (tgt := 24) (by decide) (fun h_9 => ?_) (fun h_9 => ?_)
  ·
    refine lv_aload_n hM.1 hM.2.1 dX1_next_24 rfl (lv_at hl 0 rfl) ?_
    refine z_getr hM hW zc1 hi rfl 0 (by decide) lf_X1_11 (t := 15) (j := 0) rfl hrw dX1_next_25 (fun hd2_25 => ?_)
    refine lv_aload_n hM.1 hM.2.1 dX1_next_28 rfl (lv_at hl 0 rfl) ?_
    refine z_get hM hW zc1 hi rfl 2 (by decide) lf_X1_22 (v := .int (gi S 1 (0) (2))) rfl dX1_next_29 ?_
    refine z_aaldr hM hW hd2_25 (by decide) rfl 6 rfl (vin_of2 hc0 (N := 300) h_9 (by decide) hz) (t := 4) (q := pm (ix (gi S 1 (0) (2)))) rfl (hpm _ (vin_lt (vin_of2 hc0 (N := 300) h_9 (by decide) hz) hz)) dX1_next_32 (fun hd3_32 => ?_)
    refine lv_astore_n hM.1 hM.2.1 dX1_next_33 rfl hl (by decide) (lv' := [(1, .ref (Z.1 4 (pm (ix (gi S 1 (0) (2)))))), (0, .ref (Z.1 1 (0)))]) rfl (fun ls hl => ?_)
    refine lv_aload_n hM.1 hM.2.1 dX1_next_34 rfl (lv_at hl 1 rfl) ?_
    refine lv_dup hM.1 hM.2.1 dX1_next_35 rfl ?_
    refine z_get hM hW zc1 hi rfl 2 (by decide) lf_X1_22 (v := .int (gi S 1 (0) (2))) rfl dX1_next_36 ?_
    refine lv_iconst (v := 1) hM.1 hM.2.1 dX1_next_39 (by decide) ?_
    refine lv_iadd hM.1 hM.2.1 dX1_next_40 ?_
    refine z_puti hM hW hS zc1 hi rfl 2 (by decide) rfl lf_X1_22 (Or.inl rfl) (tyX1 2) (tyX1_ok 2 (by decide)) rfl rfl dX1_next_41 (fun H locs hW hS => ?_)
    refine lv_aload_n hM.1 hM.2.1 dX1_next_44 rfl (lv_at hl 0 rfl) ?_
    exact z_aret hM hlk hr (some (pm (ix (gi S 1 (0) (2))))) rfl hW hS (zF.of (by unfold r_X1_next; rw [pif_pos h_9]; first | done | rfl) (by unfold s_X1_next; rw [pif_pos h_9]; first | done | rfl)) dX1_next_45
  ·
    refine lv_aload_n hM.1 hM.2.1 dX1_next_12 rfl (lv_at hl 0 rfl) ?_
    refine lv_dup hM.1 hM.2.1 dX1_next_13 rfl ?_
    refine z_get hM hW zc1 hi rfl 3 (by decide) lf_X1_26 (v := .int (gi S 1 (0) (3))) rfl dX1_next_14 ?_
    refine lv_iconst (v := 1) hM.1 hM.2.1 dX1_next_17 (by decide) ?_
    refine lv_iadd hM.1 hM.2.1 dX1_next_18 ?_
    refine z_puti hM hW hS zc1 hi rfl 3 (by decide) rfl lf_X1_26 (Or.inl rfl) (tyX1 3) (tyX1_ok 3 (by decide)) rfl rfl dX1_next_19 (fun H locs hW hS => ?_)
    refine lv_null hM.1 hM.2.1 dX1_next_22 ?_
    exact z_aret hM hlk hr (none) rfl hW hS (zF.of (by unfold r_X1_next; rw [pif_neg h_9]; first | done | rfl) (by unfold s_X1_next; rw [pif_neg h_9]; first | done | rfl)) dX1_next_23
