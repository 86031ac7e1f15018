/-- the tag and value of one version into another; the tags' order -/
def vSet (S : zS) (i j : Nat) : zS := sj (si (si S 6 i 0 (gi S 6 j 0)) 6 i 1 (gi S 6 j 1)) 6 i 2 (gj S 6 j 2)
def vPut (S : zS) (i : Nat) (x y : Int32) (v : Int64) : zS := sj (si (si S 6 i 0 x) 6 i 1 y) 6 i 2 v
abbrev vAbove (S : zS) (i j : Nat) : Prop := gi S 6 j 0 < gi S 6 i 0 ∨ (gi S 6 i 0 = gi S 6 j 0 ∧ gi S 6 j 1 < gi S 6 i 1)
set_option maxHeartbeats 4000000 in
set_option maxRecDepth 100000 in
theorem c_X6_set {l : Launch} {D : va_G} {ar : Nat → ClassId} {A : Nat → Prop} {Z : zZ} {S : zS} {i j : Nat} (hi : Z.2.1 6 i) (hj : Z.2.1 6 j) : zMet l yX6_set prog_8_method_4_code 2 none ({ frames := 0, cells := 0, slots := 0, locals := 0 } : Room) D ar A Z S [.ref (Z.1 6 (i)), .ref (Z.1 6 (j))] rvV (zF () Z (vSet S i j)) := by
  refine z_body (by decide +kernel) (Nat.le_of_ble_eq_true rfl) ?_
  intro p e s m below meth c ls hM hr hlk hml hin hl hW hlo
  have hM : zM p c m _ s prog_8_method_4_code RX6 D ar := hM
  have hS : va_S A s.heap s.heap [] := va_S.rf
  have hl : lv_has ls 2 [(0, .ref (Z.1 6 (i))), (1, .ref (Z.1 6 (j)))] := hl
  refine lv_aload_n hM.1 hM.2.1 dX6_set_0 rfl (lv_at hl 0 rfl) ?_
  refine lv_aload_n hM.1 hM.2.1 dX6_set_1 rfl (lv_at hl 1 rfl) ?_
  refine z_get hM hW zc6 hj rfl 0 (by decide) lf_X6_7 (v := .int (gi S 6 (j) (0))) rfl dX6_set_2 ?_
  refine z_puti hM hW hS zc6 hi rfl 0 (by decide) rfl lf_X6_7 (Or.inl rfl) (tyX6 0) (tyX6_ok 0 (by decide)) rfl rfl dX6_set_5 (fun H locs hW hS => ?_)
  refine lv_aload_n hM.1 hM.2.1 dX6_set_8 rfl (lv_at hl 0 rfl) ?_
  refine lv_aload_n hM.1 hM.2.1 dX6_set_9 rfl (lv_at hl 1 rfl) ?_
  refine z_get hM hW zc6 hj rfl 1 (by decide) lf_X6_13 (v := .int (gi S 6 (j) (1))) rfl dX6_set_10 ?_
  refine z_puti hM hW hS zc6 hi rfl 1 (by decide) rfl lf_X6_13 (Or.inl rfl) (tyX6 1) (tyX6_ok 1 (by decide)) rfl rfl dX6_set_13 (fun H locs hW hS => ?_)
  refine lv_aload_n hM.1 hM.2.1 dX6_set_16 rfl (lv_at hl 0 rfl) ?_
  refine lv_aload_n hM.1 hM.2.1 dX6_set_17 rfl (lv_at hl 1 rfl) ?_
  refine z_get hM hW zc6 hj rfl 2 (by decide) lf_X6_16 (v := .long (gj S 6 (j) (2))) rfl dX6_set_18 ?_
  refine z_putl hM hW hS zc6 hi rfl 2 (by decide) rfl lf_X6_16 (Or.inl rfl) (tyX6_ok 2 (by decide)) dX6_set_21 (fun H locs hW hS => ?_)
  exact z_vret hM hlk hr hW hS (zF.of rfl (by unfold vSet; rfl)) dX6_set_24

set_option maxHeartbeats 4000000 in
set_option maxRecDepth 100000 in
theorem c_X6_put {l : Launch} {D : va_G} {ar : Nat → ClassId} {A : Nat → Prop} {Z : zZ} {S : zS} {i : Nat} {x y : Int32} {v : Int64} (hi : Z.2.1 6 i) : zMet l yX6_put prog_8_method_3_code 5 none ({ frames := 0, cells := 0, slots := 0, locals := 0 } : Room) D ar A Z S [.ref (Z.1 6 (i)), .int (x), .int (y), .long (v)] rvV (zF () Z (vPut S i x y v)) := by
  refine z_body (by decide +kernel) (Nat.le_of_ble_eq_true rfl) ?_
  intro p e s m below meth c ls hM hr hlk hml hin hl hW hlo
  have hM : zM p c m _ s prog_8_method_3_code RX6 D ar := hM
  have hS : va_S A s.heap s.heap [] := va_S.rf
  have hl : lv_has ls 5 [(0, .ref (Z.1 6 (i))), (1, .int (x)), (2, .int (y)), (3, .long (v))] := hl
  refine lv_aload_n hM.1 hM.2.1 dX6_put_0 rfl (lv_at hl 0 rfl) ?_
  refine lv_iload_n hM.1 hM.2.1 dX6_put_1 rfl (lv_at hl 1 rfl) ?_
  refine z_puti hM hW hS zc6 hi rfl 0 (by decide) rfl lf_X6_7 (Or.inl rfl) (tyX6 0) (tyX6_ok 0 (by decide)) rfl rfl dX6_put_2 (fun H locs hW hS => ?_)
  refine lv_aload_n hM.1 hM.2.1 dX6_put_5 rfl (lv_at hl 0 rfl) ?_
  refine lv_iload_n hM.1 hM.2.1 dX6_put_6 rfl (lv_at hl 2 rfl) ?_
  refine z_puti hM hW hS zc6 hi rfl 1 (by decide) rfl lf_X6_13 (Or.inl rfl) (tyX6 1) (tyX6_ok 1 (by decide)) rfl rfl dX6_put_7 (fun H locs hW hS => ?_)
  refine lv_aload_n hM.1 hM.2.1 dX6_put_10 rfl (lv_at hl 0 rfl) ?_
  refine lv_lload_n hM.1 hM.2.1 dX6_put_11 rfl (lv_at hl 3 rfl) ?_
  refine z_putl hM hW hS zc6 hi rfl 2 (by decide) rfl lf_X6_16 (Or.inl rfl) (tyX6_ok 2 (by decide)) dX6_put_12 (fun H locs hW hS => ?_)
  exact z_vret hM hlk hr hW hS zF.rf dX6_put_15

set_option maxHeartbeats 4000000 in
set_option maxRecDepth 100000 in
theorem c_X6_isAbove {l : Launch} {D : va_G} {ar : Nat → ClassId} {A : Nat → Prop} {Z : zZ} {S : zS} {i j : Nat} (hi : Z.2.1 6 i) (hj : Z.2.1 6 j) : zMet l yX6_isAbove prog_8_method_2_code 2 (some .boolean) ({ frames := 0, cells := 0, slots := 0, locals := 0 } : Room) D ar A Z S [.ref (Z.1 6 (i)), .ref (Z.1 6 (j))] rvI (zF (ib (vAbove S i j)) Z S) := by
  refine z_body (by decide +kernel) (Nat.le_of_ble_eq_true rfl) ?_
  intro p e s m below meth c ls hM hr hlk hml hin hl hW hlo
  have hM : zM p c m _ s prog_8_method_2_code RX6 D ar := hM
  have hS : va_S A s.heap s.heap [] := va_S.rf
  have hl : lv_has ls 2 [(0, .ref (Z.1 6 (i))), (1, .ref (Z.1 6 (j)))] := hl
  refine lv_aload_n hM.1 hM.2.1 dX6_isAbove_0 rfl (lv_at hl 0 rfl) ?_
  refine z_get hM hW zc6 hi rfl 0 (by decide) lf_X6_7 (v := .int (gi S 6 (i) (0))) rfl dX6_isAbove_1 ?_
  refine lv_aload_n hM.1 hM.2.1 dX6_isAbove_4 rfl (lv_at hl 1 rfl) ?_
  refine z_get hM hW zc6 hj rfl 0 (by decide) lf_X6_7 (v := .int (gi S 6 (j) (0))) rfl dX6_isAbove_5 ?_
  refine lv_icmp_gt hM.1 hM.2.1 dX6_isAbove_8 (tgt := 33) (by decide) (fun h_8 => ?_) (fun h_8 => ?_)
  ·
    refine lv_iconst (v := 1) hM.1 hM.2.1 dX6_isAbove_33 (by decide) ?_
    refine lv_goto hM.1 hM.2.1 dX6_isAbove_34 (tgt := 38) (by decide) ?_
    exact z_iret hM hlk hr rfl hW hS (zF.of (by simp_all [ib, vAbove]) rfl) dX6_isAbove_38
  ·
    refine lv_aload_n hM.1 hM.2.1 dX6_isAbove_11 rfl (lv_at hl 0 rfl) ?_
    refine z_get hM hW zc6 hi rfl 0 (by decide) lf_X6_7 (v := .int (gi S 6 (i) (0))) rfl dX6_isAbove_12 ?_
    refine lv_aload_n hM.1 hM.2.1 dX6_isAbove_15 rfl (lv_at hl 1 rfl) ?_
    refine z_get hM hW zc6 hj rfl 0 (by decide) lf_X6_7 (v := .int (gi S 6 (j) (0))) rfl dX6_isAbove_16 ?_
    refine lv_icmp_ne hM.1 hM.2.1 dX6_isAbove_19 (tgt := 37) (by decide) (fun h_19 => ?_) (fun h_19 => ?_)
    ·
      refine lv_iconst (v := 0) hM.1 hM.2.1 dX6_isAbove_37 (by decide) ?_
      exact z_iret hM hlk hr rfl hW hS (zF.of (by simp_all [ib, vAbove]) rfl) dX6_isAbove_38
    ·
      refine lv_aload_n hM.1 hM.2.1 dX6_isAbove_22 rfl (lv_at hl 0 rfl) ?_
      refine z_get hM hW zc6 hi rfl 1 (by decide) lf_X6_13 (v := .int (gi S 6 (i) (1))) rfl dX6_isAbove_23 ?_
      refine lv_aload_n hM.1 hM.2.1 dX6_isAbove_26 rfl (lv_at hl 1 rfl) ?_
      refine z_get hM hW zc6 hj rfl 1 (by decide) lf_X6_13 (v := .int (gi S 6 (j) (1))) rfl dX6_isAbove_27 ?_
      refine lv_icmp_le hM.1 hM.2.1 dX6_isAbove_30 (tgt := 37) (by decide) (fun h_30 => ?_) (fun h_30 => ?_)
      ·
        refine lv_iconst (v := 0) hM.1 hM.2.1 dX6_isAbove_37 (by decide) ?_
        exact z_iret hM hlk hr rfl hW hS (zF.of (by simp_all [ib, vAbove]) rfl) dX6_isAbove_38
      ·
        refine lv_iconst (v := 1) hM.1 hM.2.1 dX6_isAbove_33 (by decide) ?_
        refine lv_goto hM.1 hM.2.1 dX6_isAbove_34 (tgt := 38) (by decide) ?_
        exact z_iret hM hlk hr rfl hW hS (zF.of (by simp_all [ib, vAbove]) rfl) dX6_isAbove_38
