/-! the reference: its arrays are the cells (9 | 10 | 11, 100 + field) -/
def mlen (f : Nat) : Nat := if f < 8 then 7 else if f = 8 then 144 else if f = 9 then 7 else if f < 21 then 4 else if f < 29 then 201 else 300
def mOK (Z : zZ) (R : zR) : Prop := Z.2.1 8 0 ∧ ∀ f, f < 45 → zk 8 f ≠ 0 → R 8 0 f = some (100 + f) ∧ Z.2.2 (zk 8 f - 2) (100 + f) = mlen f
theorem mOK.r {Z : zZ} {R : zR} (h : mOK Z R) (f : Nat) (h1 : f < 45) (h2 : zk 8 f ≠ 0) : R 8 0 f = some (100 + f) := (h.2 f h1 h2).1
theorem mOK.l {Z : zZ} {R : zR} (h : mOK Z R) (f : Nat) (h1 : f < 45) (h2 : zk 8 f ≠ 0) : Z.2.2 (zk 8 f - 2) (100 + f) = mlen f := (h.2 f h1 h2).2
theorem mOK.of {Z : zZ} {S T : zS} (h : mOK Z S.2.2) (e : T.2.2 = S.2.2) : mOK Z T.2.2 := by rw [e]; exact h
theorem vin_nI {X L N : Nat} (hL : L = N) (h : X < N) (hN : N < 2 ^ 31) : vp_in (nI X) L := by rw [hL]; exact nI_in h hN
theorem nI_ad (a b : Nat) : nI (a + b) = nI a + nI b := by unfold nI; exact Int32.ofNat_add a b
theorem nI_m9 (t : Nat) : 9 * nI t = nI (9 * t) := by unfold nI; exact (Int32.ofNat_mul 9 t).symm
theorem nI_add7 {a : Nat} : nI a + 7 = nI (a + 7) := (nI_ad a 7).symm
theorem nI_add8 {a : Nat} : nI a + 8 = nI (a + 8) := (nI_ad a 8).symm
noncomputable def r_X8_isCopy (S : zS) (x : Int32) : Int32 := 
  (pif ((x) < (0)) (0) 
    (pif ((gi S 8 (0) (0)) ≤ (x)) (0) (1)))
set_option maxHeartbeats 400000 in
set_option maxRecDepth 100000 in
theorem c_X8_isCopy {l : Launch} {D : va_G} {ar : Nat → ClassId} {A : Nat → Prop} {Z : zZ} {S : zS} {x : Int32} (hO : mOK Z S.2.2)  : zMet l yX8_isCopy prog_10_method_2_code 2 (some .boolean) ({ frames := 0, cells := 0, slots := 0, locals := 0 } : Room) D ar A Z S [.ref (Z.1 8 (0)), .int (x)] rvI (zF (r_X8_isCopy S x) Z S) := by
  refine z_body (by decide +kernel) (Nat.le_of_ble_eq_true rfl) ?_
  intro pX eX sX mX bX methX cX ls hM hr hlk hml hin hl hW hlo
  have hM : zM pX cX mX _ sX prog_10_method_2_code RX8 D ar := hM
  have hS : va_S A sX.heap sX.heap [] := va_S.rf
  have hl : lv_has ls 2 [(0, .ref (Z.1 8 (0))), (1, .int (x))] := hl
  refine lv_iload_n hM.1 hM.2.1 dX8_isCopy_0 rfl (lv_at hl 1 rfl) ?_
  refine lv_if_lt hM.1 hM.2.1 dX8_isCopy_1 (tgt := 16) (by decide) (fun h_1 => ?_) (fun h_1 => ?_)
  ·
    refine lv_iconst (v := 0) hM.1 hM.2.1 dX8_isCopy_16 (by decide) ?_
    exact z_iret hM hlk hr rfl hW hS (zF.of (by unfold r_X8_isCopy; rw [pif_pos h_1]; first | done | rfl) rfl) dX8_isCopy_17
  ·
    refine lv_iload_n hM.1 hM.2.1 dX8_isCopy_4 rfl (lv_at hl 1 rfl) ?_
    refine lv_aload_n hM.1 hM.2.1 dX8_isCopy_5 rfl (lv_at hl 0 rfl) ?_
    refine z_get hM hW zc8 hO.1 rfl 0 (by decide) lf_X8_129 (v := .int (gi S 8 (0) (0))) rfl dX8_isCopy_6 ?_
    refine lv_icmp_ge hM.1 hM.2.1 dX8_isCopy_9 (tgt := 16) (by decide) (fun h_9 => ?_) (fun h_9 => ?_)
    ·
      refine lv_iconst (v := 0) hM.1 hM.2.1 dX8_isCopy_16 (by decide) ?_
      exact z_iret hM hlk hr rfl hW hS (zF.of (by unfold r_X8_isCopy; rw [pif_neg h_1, pif_pos h_9]; first | done | rfl) rfl) dX8_isCopy_17
    ·
      refine lv_iconst (v := 1) hM.1 hM.2.1 dX8_isCopy_12 (by decide) ?_
      refine lv_goto hM.1 hM.2.1 dX8_isCopy_13 (tgt := 17) (by decide) ?_
      exact z_iret hM hlk hr rfl hW hS (zF.of (by unfold r_X8_isCopy; rw [pif_neg h_1, pif_neg h_9]; first | done | rfl) rfl) dX8_isCopy_17

noncomputable def r_X8_isClient (S : zS) (x : Int32) : Int32 := 
  (pif ((x) < (0)) (0) 
    (pif ((4) ≤ (x)) (0) (1)))
set_option maxHeartbeats 400000 in
set_option maxRecDepth 100000 in
theorem c_X8_isClient {l : Launch} {D : va_G} {ar : Nat → ClassId} {A : Nat → Prop} {Z : zZ} {S : zS} {x : Int32}   : zMet l yX8_isClient prog_10_method_3_code 1 (some .boolean) ({ frames := 0, cells := 0, slots := 0, locals := 0 } : Room) D ar A Z S [.int (x)] rvI (zF (r_X8_isClient S x) Z S) := by
  refine z_body (by decide +kernel) (Nat.le_of_ble_eq_true rfl) ?_
  intro pX eX sX mX bX methX cX ls hM hr hlk hml hin hl hW hlo
  have hM : zM pX cX mX _ sX prog_10_method_3_code RX8 D ar := hM
  have hS : va_S A sX.heap sX.heap [] := va_S.rf
  have hl : lv_has ls 1 [(0, .int (x))] := hl
  refine lv_iload_n hM.1 hM.2.1 dX8_isClient_0 rfl (lv_at hl 0 rfl) ?_
  refine lv_if_lt hM.1 hM.2.1 dX8_isClient_1 (tgt := 13) (by decide) (fun h_1 => ?_) (fun h_1 => ?_)
  ·
    refine lv_iconst (v := 0) hM.1 hM.2.1 dX8_isClient_13 (by decide) ?_
    exact z_iret hM hlk hr rfl hW hS (zF.of (by unfold r_X8_isClient; rw [pif_pos h_1]; first | done | rfl) rfl) dX8_isClient_14
  ·
    refine lv_iload_n hM.1 hM.2.1 dX8_isClient_4 rfl (lv_at hl 0 rfl) ?_
    refine lv_iconst (v := 4) hM.1 hM.2.1 dX8_isClient_5 (by decide) ?_
    refine lv_icmp_ge hM.1 hM.2.1 dX8_isClient_6 (tgt := 13) (by decide) (fun h_6 => ?_) (fun h_6 => ?_)
    ·
      refine lv_iconst (v := 0) hM.1 hM.2.1 dX8_isClient_13 (by decide) ?_
      exact z_iret hM hlk hr rfl hW hS (zF.of (by unfold r_X8_isClient; rw [pif_neg h_1, pif_pos h_6]; first | done | rfl) rfl) dX8_isClient_14
    ·
      refine lv_iconst (v := 1) hM.1 hM.2.1 dX8_isClient_9 (by decide) ?_
      refine lv_goto hM.1 hM.2.1 dX8_isClient_10 (tgt := 14) (by decide) ?_
      exact z_iret hM hlk hr rfl hW hS (zF.of (by unfold r_X8_isClient; rw [pif_neg h_1, pif_neg h_6]; first | done | rfl) rfl) dX8_isClient_14

noncomputable def r_X8_isGreater (S : zS) (x y z u : Int32) : Int32 := 
  (pif ((z) < (x)) (1) 
    (pif ((x) = (z)) 
      (pif ((y) ≤ (u)) (0) (1)) (0)))
set_option maxHeartbeats 400000 in
set_option maxRecDepth 100000 in
theorem c_X8_isGreater {l : Launch} {D : va_G} {ar : Nat → ClassId} {A : Nat → Prop} {Z : zZ} {S : zS} {x y z u : Int32}   : zMet l yX8_isGreater prog_10_method_15_code 4 (some .boolean) ({ frames := 0, cells := 0, slots := 0, locals := 0 } : Room) D ar A Z S [.int (x), .int (y), .int (z), .int (u)] rvI (zF (r_X8_isGreater S x y z u) Z S) := by
  refine z_body (by decide +kernel) (Nat.le_of_ble_eq_true rfl) ?_
  intro pX eX sX mX bX methX cX ls hM hr hlk hml hin hl hW hlo
  have hM : zM pX cX mX _ sX prog_10_method_15_code RX8 D ar := hM
  have hS : va_S A sX.heap sX.heap [] := va_S.rf
  have hl : lv_has ls 4 [(0, .int (x)), (1, .int (y)), (2, .int (z)), (3, .int (u))] := hl
  refine lv_iload_n hM.1 hM.2.1 dX8_isGreater_0 rfl (lv_at hl 0 rfl) ?_
  refine lv_iload_n hM.1 hM.2.1 dX8_isGreater_1 rfl (lv_at hl 2 rfl) ?_
  refine lv_icmp_gt hM.1 hM.2.1 dX8_isGreater_2 (tgt := 15) (by decide) (fun h_2 => ?_) (fun h_2 => ?_)
  ·
    refine lv_iconst (v := 1) hM.1 hM.2.1 dX8_isGreater_15 (by decide) ?_
    refine lv_goto hM.1 hM.2.1 dX8_isGreater_16 (tgt := 20) (by decide) ?_
    exact z_iret hM hlk hr rfl hW hS (zF.of (by unfold r_X8_isGreater; rw [pif_pos h_2]; first | done | rfl) rfl) dX8_isGreater_20
  ·
    refine lv_iload_n hM.1 hM.2.1 dX8_isGreater_5 rfl (lv_at hl 0 rfl) ?_
    refine lv_iload_n hM.1 hM.2.1 dX8_isGreater_6 rfl (lv_at hl 2 rfl) ?_
    refine lv_icmp_ne hM.1 hM.2.1 dX8_isGreater_7 (tgt := 19) (by decide) (fun h_7 => ?_) (fun h_7 => ?_)
    ·
      refine lv_iconst (v := 0) hM.1 hM.2.1 dX8_isGreater_19 (by decide) ?_
      exact z_iret hM hlk hr rfl hW hS (zF.of (by unfold r_X8_isGreater; rw [pif_neg h_2, pif_neg h_7]; first | done | rfl) rfl) dX8_isGreater_20
    ·
      refine lv_iload_n hM.1 hM.2.1 dX8_isGreater_10 rfl (lv_at hl 1 rfl) ?_
      refine lv_iload_n hM.1 hM.2.1 dX8_isGreater_11 rfl (lv_at hl 3 rfl) ?_
      refine lv_icmp_le hM.1 hM.2.1 dX8_isGreater_12 (tgt := 19) (by decide) (fun h_12 => ?_) (fun h_12 => ?_)
      ·
        refine lv_iconst (v := 0) hM.1 hM.2.1 dX8_isGreater_19 (by decide) ?_
        exact z_iret hM hlk hr rfl hW hS (zF.of (by unfold r_X8_isGreater; rw [pif_neg h_2, pif_pos h_7, pif_pos h_12]; first | done | rfl) rfl) dX8_isGreater_20
      ·
        refine lv_iconst (v := 1) hM.1 hM.2.1 dX8_isGreater_15 (by decide) ?_
        refine lv_goto hM.1 hM.2.1 dX8_isGreater_16 (tgt := 20) (by decide) ?_
        exact z_iret hM hlk hr rfl hW hS (zF.of (by unfold r_X8_isGreater; rw [pif_neg h_2, pif_pos h_7, pif_neg h_12]; first | done | rfl) rfl) dX8_isGreater_20

noncomputable def r_X8_isAct (S : zS) (x : Int32) : Int32 := 
  (pif ((x) < (1)) (0) 
    (pif ((gi S 8 (0) (29)) < (x)) (0) (1)))
set_option maxHeartbeats 400000 in
set_option maxRecDepth 100000 in
theorem c_X8_isAct {l : Launch} {D : va_G} {ar : Nat → ClassId} {A : Nat → Prop} {Z : zZ} {S : zS} {x : Int32} (hO : mOK Z S.2.2)  : zMet l yX8_isAct prog_10_method_36_code 2 (some .boolean) ({ frames := 0, cells := 0, slots := 0, locals := 0 } : Room) D ar A Z S [.ref (Z.1 8 (0)), .int (x)] rvI (zF (r_X8_isAct S x) Z S) := by
  refine z_body (by decide +kernel) (Nat.le_of_ble_eq_true rfl) ?_
  intro pX eX sX mX bX methX cX ls hM hr hlk hml hin hl hW hlo
  have hM : zM pX cX mX _ sX prog_10_method_36_code RX8 D ar := hM
  have hS : va_S A sX.heap sX.heap [] := va_S.rf
  have hl : lv_has ls 2 [(0, .ref (Z.1 8 (0))), (1, .int (x))] := hl
  refine lv_iload_n hM.1 hM.2.1 dX8_isAct_0 rfl (lv_at hl 1 rfl) ?_
  refine lv_iconst (v := 1) hM.1 hM.2.1 dX8_isAct_1 (by decide) ?_
  refine lv_icmp_lt hM.1 hM.2.1 dX8_isAct_2 (tgt := 17) (by decide) (fun h_2 => ?_) (fun h_2 => ?_)
  ·
    refine lv_iconst (v := 0) hM.1 hM.2.1 dX8_isAct_17 (by decide) ?_
    exact z_iret hM hlk hr rfl hW hS (zF.of (by unfold r_X8_isAct; rw [pif_pos h_2]; first | done | rfl) rfl) dX8_isAct_18
  ·
    refine lv_iload_n hM.1 hM.2.1 dX8_isAct_5 rfl (lv_at hl 1 rfl) ?_
    refine lv_aload_n hM.1 hM.2.1 dX8_isAct_6 rfl (lv_at hl 0 rfl) ?_
    refine z_get hM hW zc8 hO.1 rfl 29 (by decide) lf_X8_154 (v := .int (gi S 8 (0) (29))) rfl dX8_isAct_7 ?_
    refine lv_icmp_gt hM.1 hM.2.1 dX8_isAct_10 (tgt := 17) (by decide) (fun h_10 => ?_) (fun h_10 => ?_)
    ·
      refine lv_iconst (v := 0) hM.1 hM.2.1 dX8_isAct_17 (by decide) ?_
      exact z_iret hM hlk hr rfl hW hS (zF.of (by unfold r_X8_isAct; rw [pif_neg h_2, pif_pos h_10]; first | done | rfl) rfl) dX8_isAct_18
    ·
      refine lv_iconst (v := 1) hM.1 hM.2.1 dX8_isAct_13 (by decide) ?_
      refine lv_goto hM.1 hM.2.1 dX8_isAct_14 (tgt := 18) (by decide) ?_
      exact z_iret hM hlk hr rfl hW hS (zF.of (by unfold r_X8_isAct; rw [pif_neg h_2, pif_neg h_10]; first | done | rfl) rfl) dX8_isAct_18
