theorem gr_of {S T : zS} {k i f : Nat} (e : T.2.2 = S.2.2) : gr T k i f = gr S k i f := by unfold gr; rw [e]
theorem zV.of {n : Nat} {Z : zZ} {S T : zS} (h : zV n Z S.2.2) (e : T.2.2 = S.2.2) : zV n Z T.2.2 := by rw [e]; exact h
theorem ix_pred {x : Int32} (h1 : ¬ x < 1) : ix (x - 1) + 1 = ix x ∧ ¬ x - 1 < 0 := by
  rw [Int32.lt_iff_toInt_lt] at h1
  have e1 : (1 : Int32).toInt = 1 := rfl
  rw [e1] at h1
  have hx := Int32.toInt_lt x
  have e : (x - 1).toInt = x.toInt - 1 := by
    rw [Int32.toInt_sub, e1]
    exact Int.bmod_eq_of_le (by omega) (by omega)
  refine ⟨?_, ?_⟩
  · show (x - 1).toInt.toNat + 1 = x.toInt.toNat
    rw [e]; omega
  · rw [Int32.lt_iff_toInt_lt, e, Int32.toInt_zero]; omega
theorem ix_le {x : Int32} {N : Nat} (hN : N < 2 ^ 31) (h : ¬ Int32.ofNat N < x) : ix x ≤ N := by
  rw [Int32.lt_iff_toInt_lt, Int32.toInt_ofNat_of_lt hN] at h
  show x.toInt.toNat ≤ N
  omega
theorem vin_act {x : Int32} {L : Nat} (h1 : ¬ x < 1) (h2 : ¬ 200 < x) (hL : L = 200) : vp_in (x - 1) L := by
  subst hL
  obtain ⟨e, e0⟩ := ix_pred h1
  have := ix_le (N := 200) (by decide) h2
  rintro (q | q)
  · exact e0 q
  · have : 200 ≤ ix (x - 1) := q
    omega
theorem acAt_some {S : zS} {n : Nat} {Z : zZ} {x : Int32} {q : Nat} (hV : zV n Z S.2.2) (h : acAt S x = some q) : q + 1 = ix x ∧ q < 200 ∧ Z.2.1 0 q := by
  unfold acAt at h
  by_cases h0 : x < 1
  · rw [pif_pos h0] at h; cases h
  · rw [pif_neg h0] at h
    by_cases h1 : 200 < x
    · rw [pif_pos h1] at h; cases h
    · rw [pif_neg h1] at h
      have hl : ix (x - 1) < 200 := vin_lt (vin_act h0 h1 rfl) rfl
      obtain ⟨e, r⟩ := hV.act hl h
      have := (ix_pred h0).1
      exact ⟨by omega, by omega, r⟩
theorem acAt_dom {S : zS} {n : Nat} {Z : zZ} {x : Int32} {q : Nat} (hV : zV n Z S.2.2) (h : acAt S x = some q) : Z.2.1 0 q := (acAt_some hV h).2.2
theorem rAt_some {S : zS} {n : Nat} {Z : zZ} {x : Int32} {q : Nat} (hV : zV n Z S.2.2) (h : r_X1_at S (pmR S.2.2) x = some q) : q = pmR S.2.2 (ix x) ∧ q < 301 := by
  unfold r_X1_at at h
  by_cases h0 : x < 0
  · rw [pif_pos h0] at h; cases h
  · rw [pif_neg h0] at h
    by_cases h1 : gi S 1 0 2 ≤ x
    · rw [pif_pos h1] at h; cases h
    · rw [pif_neg h1] at h
      by_cases h2 : 300 ≤ x
      · rw [pif_pos h2] at h; cases h
      · rw [pif_neg h2] at h
        cases h
        exact ⟨rfl, hV.pmlt (vin_lt (vin_of h0 (N := 300) h2 (by decide) rfl) rfl)⟩
set_option maxHeartbeats 4000000 in
set_option maxRecDepth 100000 in
theorem c_X7_copyAt {l : Launch} {D : va_G} {ar : Nat → ClassId} {A : Nat → Prop} {Z : zZ} {S : zS} {n : Nat} {x : Int32} (hV : zV n Z S.2.2) : zMet l yX7_copyAt prog_1_method_23_code 2 (some (.object "VotedFile$Copy")) ({ frames := 0, cells := 0, slots := 0, locals := 0 } : Room) D ar A Z S [.ref (Z.1 7 (0)), .int (x)] (rvR 3) (zF (atI n x) Z S) := by
  refine z_body (by decide +kernel) (Nat.le_of_ble_eq_true rfl) ?_
  intro pX eX sX mX bX methX cX ls hM hr hlk hml hin hl hW hlo
  have hM : zM pX cX mX _ sX prog_1_method_23_code RX7 D ar := hM
  have hS : va_S A sX.heap sX.heap [] := va_S.rf
  have hl : lv_has ls 2 [(0, .ref (Z.1 7 (0))), (1, .int (x))] := hl
  refine lv_iload_n hM.1 hM.2.1 dX7_copyAt_0 rfl (lv_at hl 1 rfl) ?_
  refine lv_if_lt hM.1 hM.2.1 dX7_copyAt_1 (tgt := 22) (by decide) (fun h_1 => ?_) (fun h_1 => ?_)
  ·
    refine lv_null hM.1 hM.2.1 dX7_copyAt_22 ?_
    exact z_aret hM hlk hr (none) rfl hW hS (zF.of (by unfold atI; rw [pif_pos h_1]) rfl) dX7_copyAt_23
  ·
    refine lv_iload_n hM.1 hM.2.1 dX7_copyAt_4 rfl (lv_at hl 1 rfl) ?_
    refine lv_aload_n hM.1 hM.2.1 dX7_copyAt_5 rfl (lv_at hl 0 rfl) ?_
    refine z_getr hM hW zc7 hV.d7 rfl 0 (by decide) lf_X7_20 (t := 14) (j := 0) rfl hV.r70 dX7_copyAt_6 (fun hd1_6 => ?_)
    refine z_alen hM hW hd1_6 (by decide) rfl 5 rfl (v := nI n) (by rw [hV.l14]; rfl) dX7_copyAt_9 ?_
    refine lv_icmp_ge hM.1 hM.2.1 dX7_copyAt_10 (tgt := 22) (by decide) (fun h_10 => ?_) (fun h_10 => ?_)
    ·
      refine lv_null hM.1 hM.2.1 dX7_copyAt_22 ?_
      exact z_aret hM hlk hr (none) rfl hW hS (zF.of (by unfold atI; rw [pif_neg h_1, pif_pos h_10]) rfl) dX7_copyAt_23
    ·
      refine lv_aload_n hM.1 hM.2.1 dX7_copyAt_13 rfl (lv_at hl 0 rfl) ?_
      refine z_getr hM hW zc7 hV.d7 rfl 0 (by decide) lf_X7_20 (t := 14) (j := 0) rfl hV.r70 dX7_copyAt_14 (fun hd2_14 => ?_)
      refine lv_iload_n hM.1 hM.2.1 dX7_copyAt_17 rfl (lv_at hl 1 rfl) ?_
      refine z_aaldr hM hW hd2_14 (by decide) rfl 5 rfl (vin_of h_1 h_10 (by have := hV.n7; omega) hV.l14) (t := 3) (q := ix (x)) rfl (hV.r14 (vin_lt (vin_of h_1 h_10 (by have := hV.n7; omega) hV.l14) hV.l14)) dX7_copyAt_18 (fun hd3_18 => ?_)
      refine lv_goto hM.1 hM.2.1 dX7_copyAt_19 (tgt := 23) (by decide) ?_
      exact z_aret hM hlk hr (some (ix (x))) rfl hW hS (zF.of (by unfold atI; rw [pif_neg h_1, pif_neg h_10]) rfl) dX7_copyAt_23

set_option maxHeartbeats 4000000 in
set_option maxRecDepth 100000 in
theorem c_X7_clientAt {l : Launch} {D : va_G} {ar : Nat → ClassId} {A : Nat → Prop} {Z : zZ} {S : zS} {n : Nat} {x : Int32} (hV : zV n Z S.2.2) : zMet l yX7_clientAt prog_1_method_24_code 2 (some (.object "VotedFile$Client")) ({ frames := 0, cells := 0, slots := 0, locals := 0 } : Room) D ar A Z S [.ref (Z.1 7 (0)), .int (x)] (rvR 2) (zF (atI 4 x) Z S) := by
  refine z_body (by decide +kernel) (Nat.le_of_ble_eq_true rfl) ?_
  intro pX eX sX mX bX methX cX ls hM hr hlk hml hin hl hW hlo
  have hM : zM pX cX mX _ sX prog_1_method_24_code RX7 D ar := hM
  have hS : va_S A sX.heap sX.heap [] := va_S.rf
  have hl : lv_has ls 2 [(0, .ref (Z.1 7 (0))), (1, .int (x))] := hl
  refine lv_iload_n hM.1 hM.2.1 dX7_clientAt_0 rfl (lv_at hl 1 rfl) ?_
  refine lv_if_lt hM.1 hM.2.1 dX7_clientAt_1 (tgt := 22) (by decide) (fun h_1 => ?_) (fun h_1 => ?_)
  ·
    refine lv_null hM.1 hM.2.1 dX7_clientAt_22 ?_
    exact z_aret hM hlk hr (none) rfl hW hS (zF.of (by unfold atI; rw [pif_pos h_1]) rfl) dX7_clientAt_23
  ·
    refine lv_iload_n hM.1 hM.2.1 dX7_clientAt_4 rfl (lv_at hl 1 rfl) ?_
    refine lv_aload_n hM.1 hM.2.1 dX7_clientAt_5 rfl (lv_at hl 0 rfl) ?_
    refine z_getr hM hW zc7 hV.d7 rfl 1 (by decide) lf_X7_31 (t := 13) (j := 0) rfl hV.r71 dX7_clientAt_6 (fun hd1_6 => ?_)
    refine z_alen hM hW hd1_6 (by decide) rfl 4 rfl (v := nI 4) (by rw [hV.l13]; rfl) dX7_clientAt_9 ?_
    refine lv_icmp_ge hM.1 hM.2.1 dX7_clientAt_10 (tgt := 22) (by decide) (fun h_10 => ?_) (fun h_10 => ?_)
    ·
      refine lv_null hM.1 hM.2.1 dX7_clientAt_22 ?_
      exact z_aret hM hlk hr (none) rfl hW hS (zF.of (by unfold atI; rw [pif_neg h_1, pif_pos h_10]) rfl) dX7_clientAt_23
    ·
      refine lv_aload_n hM.1 hM.2.1 dX7_clientAt_13 rfl (lv_at hl 0 rfl) ?_
      refine z_getr hM hW zc7 hV.d7 rfl 1 (by decide) lf_X7_31 (t := 13) (j := 0) rfl hV.r71 dX7_clientAt_14 (fun hd2_14 => ?_)
      refine lv_iload_n hM.1 hM.2.1 dX7_clientAt_17 rfl (lv_at hl 1 rfl) ?_
      refine z_aaldr hM hW hd2_14 (by decide) rfl 4 rfl (vin_of h_1 (N := 4) h_10 (by decide) hV.l13) (t := 2) (q := ix (x)) rfl (hV.r13 (vin_lt (vin_of h_1 (N := 4) h_10 (by decide) hV.l13) hV.l13)) dX7_clientAt_18 (fun hd3_18 => ?_)
      refine lv_goto hM.1 hM.2.1 dX7_clientAt_19 (tgt := 23) (by decide) ?_
      exact z_aret hM hlk hr (some (ix (x))) rfl hW hS (zF.of (by unfold atI; rw [pif_neg h_1, pif_neg h_10]) rfl) dX7_clientAt_23

set_option maxHeartbeats 4000000 in
set_option maxRecDepth 100000 in
theorem c_X7_tableAt {l : Launch} {D : va_G} {ar : Nat → ClassId} {A : Nat → Prop} {Z : zZ} {S : zS} {n : Nat} {x : Int32} (hV : zV n Z S.2.2) : zMet l yX7_tableAt prog_1_method_25_code 2 (some (.object "VotedFile$Table")) ({ frames := 0, cells := 0, slots := 0, locals := 0 } : Room) D ar A Z S [.ref (Z.1 7 (0)), .int (x)] (rvR 5) (zF (tbAt S x) Z S) := by
  refine z_body (by decide +kernel) (Nat.le_of_ble_eq_true rfl) ?_
  intro pX eX sX mX bX methX cX ls hM hr hlk hml hin hl hW hlo
  have hM : zM pX cX mX _ sX prog_1_method_25_code RX7 D ar := hM
  have hS : va_S A sX.heap sX.heap [] := va_S.rf
  have hl : lv_has ls 2 [(0, .ref (Z.1 7 (0))), (1, .int (x))] := hl
  refine lv_iload_n hM.1 hM.2.1 dX7_tableAt_0 rfl (lv_at hl 1 rfl) ?_
  refine lv_if_lt hM.1 hM.2.1 dX7_tableAt_1 (tgt := 22) (by decide) (fun h_1 => ?_) (fun h_1 => ?_)
  ·
    refine lv_null hM.1 hM.2.1 dX7_tableAt_22 ?_
    exact z_aret hM hlk hr (none) rfl hW hS (zF.of (by unfold tbAt; rw [pif_pos h_1]) rfl) dX7_tableAt_23
  ·
    refine lv_iload_n hM.1 hM.2.1 dX7_tableAt_4 rfl (lv_at hl 1 rfl) ?_
    refine lv_aload_n hM.1 hM.2.1 dX7_tableAt_5 rfl (lv_at hl 0 rfl) ?_
    refine z_getr hM hW zc7 hV.d7 rfl 2 (by decide) lf_X7_40 (t := 16) (j := 0) rfl hV.r72 dX7_tableAt_6 (fun hd1_6 => ?_)
    refine z_alen hM hW hd1_6 (by decide) rfl 7 rfl (v := 16) (by rw [hV.l16]; rfl) dX7_tableAt_9 ?_
    refine lv_icmp_ge hM.1 hM.2.1 dX7_tableAt_10 (tgt := 22) (by decide) (fun h_10 => ?_) (fun h_10 => ?_)
    ·
      refine lv_null hM.1 hM.2.1 dX7_tableAt_22 ?_
      exact z_aret hM hlk hr (none) rfl hW hS (zF.of (by unfold tbAt; rw [pif_neg h_1, pif_pos h_10]) rfl) dX7_tableAt_23
    ·
      refine lv_aload_n hM.1 hM.2.1 dX7_tableAt_13 rfl (lv_at hl 0 rfl) ?_
      refine z_getr hM hW zc7 hV.d7 rfl 2 (by decide) lf_X7_40 (t := 16) (j := 0) rfl hV.r72 dX7_tableAt_14 (fun hd2_14 => ?_)
      refine lv_iload_n hM.1 hM.2.1 dX7_tableAt_17 rfl (lv_at hl 1 rfl) ?_
      rcases hq_18 : gr S 16 0 (ix x) with _ | q
      ·
        refine z_aald hM hW hd2_14 (by decide) rfl 7 rfl (vin_of h_1 (N := 16) h_10 (by decide) hV.l16) (v := .null) (by simp [zv, zvt, zk, zrv, hq_18]) dX7_tableAt_18 ?_
        refine lv_goto hM.1 hM.2.1 dX7_tableAt_19 (tgt := 23) (by decide) ?_
        exact z_aret hM hlk hr (none) rfl hW hS (zF.of (by unfold tbAt; rw [pif_neg h_1, pif_neg h_10, hq_18]) rfl) dX7_tableAt_23
      ·
        refine z_aaldr hM hW hd2_14 (by decide) rfl 7 rfl (vin_of h_1 (N := 16) h_10 (by decide) hV.l16) (t := 5) (q := q) rfl hq_18 dX7_tableAt_18 (fun hd_18 => ?_)
        refine lv_goto hM.1 hM.2.1 dX7_tableAt_19 (tgt := 23) (by decide) ?_
        exact z_aret hM hlk hr (some (q)) rfl hW hS (zF.of (by unfold tbAt; rw [pif_neg h_1, pif_neg h_10, hq_18]) rfl) dX7_tableAt_23

set_option maxHeartbeats 4000000 in
set_option maxRecDepth 100000 in
theorem c_X7_actAt {l : Launch} {D : va_G} {ar : Nat → ClassId} {A : Nat → Prop} {Z : zZ} {S : zS} {n : Nat} {x : Int32} (hV : zV n Z S.2.2) : zMet l yX7_actAt prog_1_method_26_code 2 (some (.object "VotedFile$Act")) ({ frames := 0, cells := 0, slots := 0, locals := 0 } : Room) D ar A Z S [.ref (Z.1 7 (0)), .int (x)] (rvR 0) (zF (acAt S x) Z S) := by
  refine z_body (by decide +kernel) (Nat.le_of_ble_eq_true rfl) ?_
  intro pX eX sX mX bX methX cX ls hM hr hlk hml hin hl hW hlo
  have hM : zM pX cX mX _ sX prog_1_method_26_code RX7 D ar := hM
  have hS : va_S A sX.heap sX.heap [] := va_S.rf
  have hl : lv_has ls 2 [(0, .ref (Z.1 7 (0))), (1, .int (x))] := hl
  refine lv_iload_n hM.1 hM.2.1 dX7_actAt_0 rfl (lv_at hl 1 rfl) ?_
  refine lv_iconst (v := 1) hM.1 hM.2.1 dX7_actAt_1 (by decide) ?_
  refine lv_icmp_lt hM.1 hM.2.1 dX7_actAt_2 (tgt := 25) (by decide) (fun h_2 => ?_) (fun h_2 => ?_)
  ·
    refine lv_null hM.1 hM.2.1 dX7_actAt_25 ?_
    exact z_aret hM hlk hr (none) rfl hW hS (zF.of (by unfold acAt; rw [pif_pos h_2]) rfl) dX7_actAt_26
  ·
    refine lv_iload_n hM.1 hM.2.1 dX7_actAt_5 rfl (lv_at hl 1 rfl) ?_
    refine lv_aload_n hM.1 hM.2.1 dX7_actAt_6 rfl (lv_at hl 0 rfl) ?_
    refine z_getr hM hW zc7 hV.d7 rfl 3 (by decide) lf_X7_58 (t := 12) (j := 0) rfl hV.r73 dX7_actAt_7 (fun hd1_7 => ?_)
    refine z_alen hM hW hd1_7 (by decide) rfl 3 rfl (v := 200) (by rw [hV.l12]; rfl) dX7_actAt_10 ?_
    refine lv_icmp_gt hM.1 hM.2.1 dX7_actAt_11 (tgt := 25) (by decide) (fun h_11 => ?_) (fun h_11 => ?_)
    ·
      refine lv_null hM.1 hM.2.1 dX7_actAt_25 ?_
      exact z_aret hM hlk hr (none) rfl hW hS (zF.of (by unfold acAt; rw [pif_neg h_2, pif_pos h_11]) rfl) dX7_actAt_26
    ·
      refine lv_aload_n hM.1 hM.2.1 dX7_actAt_14 rfl (lv_at hl 0 rfl) ?_
      refine z_getr hM hW zc7 hV.d7 rfl 3 (by decide) lf_X7_58 (t := 12) (j := 0) rfl hV.r73 dX7_actAt_15 (fun hd2_15 => ?_)
      refine lv_iload_n hM.1 hM.2.1 dX7_actAt_18 rfl (lv_at hl 1 rfl) ?_
      refine lv_iconst (v := 1) hM.1 hM.2.1 dX7_actAt_19 (by decide) ?_
      refine lv_isub hM.1 hM.2.1 dX7_actAt_20 ?_
      rcases hq_21 : gr S 12 0 (ix (x - 1)) with _ | q
      ·
        refine z_aald hM hW hd2_15 (by decide) rfl 3 rfl (vin_act h_2 h_11 hV.l12) (v := .null) (by simp [zv, zvt, zk, zrv, hq_21]) dX7_actAt_21 ?_
        refine lv_goto hM.1 hM.2.1 dX7_actAt_22 (tgt := 26) (by decide) ?_
        exact z_aret hM hlk hr (none) rfl hW hS (zF.of (by unfold acAt; rw [pif_neg h_2, pif_neg h_11, hq_21]) rfl) dX7_actAt_26
      ·
        refine z_aaldr hM hW hd2_15 (by decide) rfl 3 rfl (vin_act h_2 h_11 hV.l12) (t := 0) (q := q) rfl hq_21 dX7_actAt_21 (fun hd_21 => ?_)
        refine lv_goto hM.1 hM.2.1 dX7_actAt_22 (tgt := 26) (by decide) ?_
        exact z_aret hM hlk hr (some (q)) rfl hW hS (zF.of (by unfold acAt; rw [pif_neg h_2, pif_neg h_11, hq_21]) rfl) dX7_actAt_26

noncomputable def r_X7_canBegin (S : zS) (n : Nat) (c : Nat) : Int32 := 
  (oel (gr S 2 c 2) 
    (pif ((200) ≤ (gi S 7 (0) (7))) (0) (1)) (fun a => (0)))
set_option maxHeartbeats 4000000 in
set_option maxRecDepth 100000 in
theorem c_X7_canBegin {l : Launch} {D : va_G} {ar : Nat → ClassId} {A : Nat → Prop} {Z : zZ} {S : zS} {n : Nat} {c : Nat} (hV : zV n Z S.2.2) (hc : Z.2.1 2 c) : zMet l yX7_canBegin prog_1_method_27_code 2 (some .boolean) ({ frames := 0, cells := 0, slots := 0, locals := 0 } : Room) D ar A Z S [.ref (Z.1 7 (0)), .ref (Z.1 2 (c))] rvI (zF (r_X7_canBegin S n c) Z S) := by
  refine z_body (by decide +kernel) (Nat.le_of_ble_eq_true rfl) ?_
  intro pX eX sX mX bX methX cX ls hM hr hlk hml hin hl hW hlo
  have hM : zM pX cX mX _ sX prog_1_method_27_code RX7 D ar := hM
  have hS : va_S A sX.heap sX.heap [] := va_S.rf
  have hl : lv_has ls 2 [(0, .ref (Z.1 7 (0))), (1, .ref (Z.1 2 (c)))] := hl
  refine lv_aload_n hM.1 hM.2.1 dX7_canBegin_0 rfl (lv_at hl 1 rfl) ?_
  rcases hq_1 : gr S 2 c 2 with _ | a
  ·
    refine z_get hM hW zc2 hc rfl 2 (by decide) lf_X7_105 (v := .null) (by simp [zv, zvt, zk, zrv, hq_1]) dX7_canBegin_1 ?_
    refine lv_ifnonnullN hM.1 hM.2.1 dX7_canBegin_4 ?_
    refine lv_aload_n hM.1 hM.2.1 dX7_canBegin_7 rfl (lv_at hl 0 rfl) ?_
    refine z_get hM hW zc7 hV.d7 rfl 7 (by decide) lf_X7_91 (v := .int (gi S 7 (0) (7))) rfl dX7_canBegin_8 ?_
    refine lv_aload_n hM.1 hM.2.1 dX7_canBegin_11 rfl (lv_at hl 0 rfl) ?_
    refine z_getr hM hW zc7 hV.d7 rfl 3 (by decide) lf_X7_58 (t := 12) (j := 0) rfl hV.r73 dX7_canBegin_12 (fun hd1_12 => ?_)
    refine z_alen hM hW hd1_12 (by decide) rfl 3 rfl (v := 200) (by rw [hV.l12]; rfl) dX7_canBegin_15 ?_
    refine lv_icmp_ge hM.1 hM.2.1 dX7_canBegin_16 (tgt := 23) (by decide) (fun h_16 => ?_) (fun h_16 => ?_)
    ·
      refine lv_iconst (v := 0) hM.1 hM.2.1 dX7_canBegin_23 (by decide) ?_
      exact z_iret hM hlk hr rfl hW hS (zF.of (by unfold r_X7_canBegin; rw [oel_n hq_1, pif_pos h_16]; first | done | rfl) rfl) dX7_canBegin_24
    ·
      refine lv_iconst (v := 1) hM.1 hM.2.1 dX7_canBegin_19 (by decide) ?_
      refine lv_goto hM.1 hM.2.1 dX7_canBegin_20 (tgt := 24) (by decide) ?_
      exact z_iret hM hlk hr rfl hW hS (zF.of (by unfold r_X7_canBegin; rw [oel_n hq_1, pif_neg h_16]; first | done | rfl) rfl) dX7_canBegin_24
  ·
    refine z_getr hM hW zc2 hc rfl 2 (by decide) lf_X7_105 (t := 0) (j := a) rfl hq_1 dX7_canBegin_1 (fun hd_1 => ?_)
    refine lv_ifnonnull hM.1 hM.2.1 dX7_canBegin_4 (tgt := 23) (by decide) ?_
    refine lv_iconst (v := 0) hM.1 hM.2.1 dX7_canBegin_23 (by decide) ?_
    exact z_iret hM hlk hr rfl hW hS (zF.of (by unfold r_X7_canBegin; rw [oel_s hq_1]; first | done | rfl) rfl) dX7_canBegin_24

noncomputable def r_X7_votes (S : zS) (n : Nat) (x y : Int32) : Int32 := 
  (pif ((x) < (0)) (0) 
    (pif ((nI n) ≤ (x)) (0) 
      (pif ((y) < (0)) (0) 
        (pif ((y) ≤ (9)) (1) (0)))))
noncomputable def s_X7_votes (S : zS) (n : Nat) (x y : Int32) : zS := 
  (pif ((x) < (0)) (S) 
    (pif ((nI n) ≤ (x)) (S) 
      (pif ((y) < (0)) (S) 
        (pif ((y) ≤ (9)) ((si S 9 (0) (ix (x)) (y))) (S)))))
set_option maxHeartbeats 4000000 in
set_option maxRecDepth 100000 in
theorem c_X7_votes {l : Launch} {D : va_G} {ar : Nat → ClassId} {A : Nat → Prop} {Z : zZ} {S : zS} {n : Nat} {x y : Int32} (hV : zV n Z S.2.2)  : zMet l yX7_votes prog_1_method_2_code 3 (some .boolean) ({ frames := 0, cells := 0, slots := 0, locals := 0 } : Room) D ar A Z S [.ref (Z.1 7 (0)), .int (x), .int (y)] rvI (zF (r_X7_votes S n x y) Z (s_X7_votes S n x y)) := by
  refine z_body (by decide +kernel) (Nat.le_of_ble_eq_true rfl) ?_
  intro pX eX sX mX bX methX cX ls hM hr hlk hml hin hl hW hlo
  have hM : zM pX cX mX _ sX prog_1_method_2_code RX7 D ar := hM
  have hS : va_S A sX.heap sX.heap [] := va_S.rf
  have hl : lv_has ls 3 [(0, .ref (Z.1 7 (0))), (1, .int (x)), (2, .int (y))] := hl
  refine lv_iload_n hM.1 hM.2.1 dX7_votes_0 rfl (lv_at hl 1 rfl) ?_
  refine lv_if_lt hM.1 hM.2.1 dX7_votes_1 (tgt := 23) (by decide) (fun h_1 => ?_) (fun h_1 => ?_)
  ·
    refine lv_iconst (v := 0) hM.1 hM.2.1 dX7_votes_23 (by decide) ?_
    exact z_iret hM hlk hr rfl hW hS (zF.of (by unfold r_X7_votes; rw [pif_pos h_1]; first | done | rfl) (by unfold s_X7_votes; rw [pif_pos h_1]; first | done | rfl)) dX7_votes_24
  ·
    refine lv_iload_n hM.1 hM.2.1 dX7_votes_4 rfl (lv_at hl 1 rfl) ?_
    refine lv_aload_n hM.1 hM.2.1 dX7_votes_5 rfl (lv_at hl 0 rfl) ?_
    refine z_getr hM hW zc7 hV.d7 rfl 5 (by decide) lf_X7_24 (t := 9) (j := 0) rfl hV.r75 dX7_votes_6 (fun hd1_6 => ?_)
    refine z_alen hM hW hd1_6 (by decide) rfl 0 rfl (v := nI n) (by rw [hV.l9]; rfl) dX7_votes_9 ?_
    refine lv_icmp_ge hM.1 hM.2.1 dX7_votes_10 (tgt := 23) (by decide) (fun h_10 => ?_) (fun h_10 => ?_)
    ·
      refine lv_iconst (v := 0) hM.1 hM.2.1 dX7_votes_23 (by decide) ?_
      exact z_iret hM hlk hr rfl hW hS (zF.of (by unfold r_X7_votes; rw [pif_neg h_1, pif_pos h_10]; first | done | rfl) (by unfold s_X7_votes; rw [pif_neg h_1, pif_pos h_10]; first | done | rfl)) dX7_votes_24
    ·
      refine lv_iload_n hM.1 hM.2.1 dX7_votes_13 rfl (lv_at hl 2 rfl) ?_
      refine lv_if_lt hM.1 hM.2.1 dX7_votes_14 (tgt := 23) (by decide) (fun h_14 => ?_) (fun h_14 => ?_)
      ·
        refine lv_iconst (v := 0) hM.1 hM.2.1 dX7_votes_23 (by decide) ?_
        exact z_iret hM hlk hr rfl hW hS (zF.of (by unfold r_X7_votes; rw [pif_neg h_1, pif_neg h_10, pif_pos h_14]; first | done | rfl) (by unfold s_X7_votes; rw [pif_neg h_1, pif_neg h_10, pif_pos h_14]; first | done | rfl)) dX7_votes_24
      ·
        refine lv_iload_n hM.1 hM.2.1 dX7_votes_17 rfl (lv_at hl 2 rfl) ?_
        refine lv_bipush (v := 9) hM.1 hM.2.1 dX7_votes_18 (by decide) ?_
        refine lv_icmp_le hM.1 hM.2.1 dX7_votes_20 (tgt := 25) (by decide) (fun h_20 => ?_) (fun h_20 => ?_)
        ·
          refine lv_aload_n hM.1 hM.2.1 dX7_votes_25 rfl (lv_at hl 0 rfl) ?_
          refine z_getr hM hW zc7 hV.d7 rfl 5 (by decide) lf_X7_24 (t := 9) (j := 0) rfl hV.r75 dX7_votes_26 (fun hd2_26 => ?_)
          refine lv_iload_n hM.1 hM.2.1 dX7_votes_29 rfl (lv_at hl 1 rfl) ?_
          refine lv_iload_n hM.1 hM.2.1 dX7_votes_30 rfl (lv_at hl 2 rfl) ?_
          refine z_iast hM hW hS hd2_26 rfl (vin_of h_1 h_10 (by have := hV.n7; omega) hV.l9) dX7_votes_31 (fun H locs hW hS => ?_)
          refine lv_iconst (v := 1) hM.1 hM.2.1 dX7_votes_32 (by decide) ?_
          exact z_iret hM hlk hr rfl hW hS (zF.of (by unfold r_X7_votes; rw [pif_neg h_1, pif_neg h_10, pif_neg h_14, pif_pos h_20]; first | done | rfl) (by unfold s_X7_votes; rw [pif_neg h_1, pif_neg h_10, pif_neg h_14, pif_pos h_20]; first | done | rfl)) dX7_votes_33
        ·
          refine lv_iconst (v := 0) hM.1 hM.2.1 dX7_votes_23 (by decide) ?_
          exact z_iret hM hlk hr rfl hW hS (zF.of (by unfold r_X7_votes; rw [pif_neg h_1, pif_neg h_10, pif_neg h_14, pif_neg h_20]; first | done | rfl) (by unfold s_X7_votes; rw [pif_neg h_1, pif_neg h_10, pif_neg h_14, pif_neg h_20]; first | done | rfl)) dX7_votes_24

noncomputable def r_X7_silent (S : zS) (n : Nat) (x y : Int32) : Int32 := 
  (oel (atI n (x)) (0) (fun q2 => (1)))
noncomputable def s_X7_silent (S : zS) (n : Nat) (x y : Int32) : zS := 
  (oel (atI n (x)) (S) (fun q2 => ((si S 3 (q2) (3) (y)))))
set_option maxHeartbeats 4000000 in
set_option maxRecDepth 100000 in
theorem c_X7_silent {l : Launch} {D : va_G} {ar : Nat → ClassId} {A : Nat → Prop} {Z : zZ} {S : zS} {n : Nat} {x y : Int32} (hV : zV n Z S.2.2) (hy : isB y) : zMet l yX7_silent prog_1_method_13_code 4 (some .boolean) ({ frames := 1, cells := 0, slots := 0, locals := 21 } : Room) D ar A Z S [.ref (Z.1 7 (0)), .int (x), .int (y)] rvI (zF (r_X7_silent S n x y) Z (s_X7_silent S n x y)) := by
  refine z_body (by decide +kernel) (Nat.le_of_ble_eq_true rfl) ?_
  intro pX eX sX mX bX methX cX ls hM hr hlk hml hin hl hW hlo
  have hM : zM pX cX mX _ sX prog_1_method_13_code RX7 D ar := hM
  have hS : va_S A sX.heap sX.heap [] := va_S.rf
  have hl : lv_has ls 4 [(0, .ref (Z.1 7 (0))), (1, .int (x)), (2, .int (y))] := hl
  refine lv_aload_n hM.1 hM.2.1 dX7_silent_0 rfl (lv_at hl 0 rfl) ?_
  refine lv_iload_n hM.1 hM.2.1 dX7_silent_1 rfl (lv_at hl 1 rfl) ?_
  refine z_Vr hM (hml.trans hl.1.symm) hW hS hlo zc7 hV.d7 rfl zyX7_copyAt lm_X7_161 li_yX7_copyAt le_yX7_copyAt (As := [.int (x)]) (rest := []) (c_X7_copyAt hV) rfl rfl (Nat.le_of_ble_eq_true rfl) ⟨Nat.le_of_ble_eq_true rfl, Nat.le_of_ble_eq_true rfl⟩ ⟨Nat.le_of_ble_eq_true rfl, Nat.le_of_ble_eq_true rfl⟩ dX7_silent_2 (fun H locs hW hS => ?_)
  rcases hq_2 : atI n (x) with _ | q2
  ·
    refine lv_astore_nN hM.1 hM.2.1 dX7_silent_5 rfl hl (by decide) (lv' := [(3, .null), (0, .ref (Z.1 7 (0))), (1, .int (x)), (2, .int (y))]) rfl (fun ls hl => ?_)
    refine lv_aload_nN hM.1 hM.2.1 dX7_silent_6 rfl (lv_at hl 0 rfl) ?_
    refine lv_ifnonnullN hM.1 hM.2.1 dX7_silent_7 ?_
    refine lv_iconst (v := 0) hM.1 hM.2.1 dX7_silent_10 (by decide) ?_
    exact z_iret hM hlk hr rfl hW hS (zF.of (by unfold r_X7_silent; rw [oel_n hq_2]; first | done | rfl) (by unfold s_X7_silent; rw [oel_n hq_2]; first | done | rfl)) dX7_silent_11
  ·
    obtain ⟨he_2, hb_2, hn0_2, hn1_2⟩ := atI_some (by have := hV.n7; omega) hq_2
    have hd_2 := hV.d3 hb_2
    refine lv_astore_n hM.1 hM.2.1 dX7_silent_5 rfl hl (by decide) (lv' := [(3, .ref (Z.1 3 (q2))), (0, .ref (Z.1 7 (0))), (1, .int (x)), (2, .int (y))]) rfl (fun ls hl => ?_)
    refine lv_aload_n hM.1 hM.2.1 dX7_silent_6 rfl (lv_at hl 0 rfl) ?_
    refine lv_ifnonnull hM.1 hM.2.1 dX7_silent_7 (tgt := 12) (by decide) ?_
    refine lv_aload_n hM.1 hM.2.1 dX7_silent_12 rfl (lv_at hl 0 rfl) ?_
    refine lv_iload_n hM.1 hM.2.1 dX7_silent_13 rfl (lv_at hl 3 rfl) ?_
    refine z_puti hM hW hS zc3 hd_2 rfl 3 (by decide) rfl lf_X7_165 (Or.inl rfl) (tyX3 3) (tyX3_ok 3 (by decide)) (narrow_isB hy) (fits_isB hy) dX7_silent_14 (fun H locs hW hS => ?_)
    refine lv_iconst (v := 1) hM.1 hM.2.1 dX7_silent_17 (by decide) ?_
    exact z_iret hM hlk hr rfl hW hS (zF.of (by unfold r_X7_silent; rw [oel_s hq_2]; first | done | rfl) (by unfold s_X7_silent; rw [oel_s hq_2]; first | done | rfl)) dX7_silent_18

noncomputable def r_X7_side (S : zS) (n : Nat) (x y : Int32) : Int32 := 
  (pif ((y) < (0)) (0) 
    (pif ((y) < (4)) 
      (oel (atI n (x)) 
        (pif ((10) ≤ (x)) 
          (oel (atI 4 ((x) - (10))) (0) (fun q41 => (1))) (0)) (fun q13 => (1))) (0)))
noncomputable def s_X7_side (S : zS) (n : Nat) (x y : Int32) : zS := 
  (pif ((y) < (0)) (S) 
    (pif ((y) < (4)) 
      (oel (atI n (x)) 
        (pif ((10) ≤ (x)) 
          (oel (atI 4 ((x) - (10))) (S) (fun q41 => ((si S 2 (q41) (8) (y))))) (S)) (fun q13 => ((si S 3 (q13) (4) (y))))) (S)))
set_option maxHeartbeats 4000000 in
set_option maxRecDepth 100000 in
theorem c_X7_side {l : Launch} {D : va_G} {ar : Nat → ClassId} {A : Nat → Prop} {Z : zZ} {S : zS} {n : Nat} {x y : Int32} (hV : zV n Z S.2.2)  : zMet l yX7_side prog_1_method_14_code 5 (some .boolean) ({ frames := 1, cells := 0, slots := 0, locals := 21 } : Room) D ar A Z S [.ref (Z.1 7 (0)), .int (x), .int (y)] rvI (zF (r_X7_side S n x y) Z (s_X7_side S n x y)) := by
  refine z_body (by decide +kernel) (Nat.le_of_ble_eq_true rfl) ?_
  intro pX eX sX mX bX methX cX ls hM hr hlk hml hin hl hW hlo
  have hM : zM pX cX mX _ sX prog_1_method_14_code RX7 D ar := hM
  have hS : va_S A sX.heap sX.heap [] := va_S.rf
  have hl : lv_has ls 5 [(0, .ref (Z.1 7 (0))), (1, .int (x)), (2, .int (y))] := hl
  refine lv_iload_n hM.1 hM.2.1 dX7_side_0 rfl (lv_at hl 2 rfl) ?_
  refine lv_if_lt hM.1 hM.2.1 dX7_side_1 (tgt := 9) (by decide) (fun h_1 => ?_) (fun h_1 => ?_)
  ·
    refine lv_iconst (v := 0) hM.1 hM.2.1 dX7_side_9 (by decide) ?_
    exact z_iret hM hlk hr rfl hW hS (zF.of (by unfold r_X7_side; rw [pif_pos h_1]; first | done | rfl) (by unfold s_X7_side; rw [pif_pos h_1]; first | done | rfl)) dX7_side_10
  ·
    refine lv_iload_n hM.1 hM.2.1 dX7_side_4 rfl (lv_at hl 2 rfl) ?_
    refine lv_iconst (v := 4) hM.1 hM.2.1 dX7_side_5 (by decide) ?_
    refine lv_icmp_lt hM.1 hM.2.1 dX7_side_6 (tgt := 11) (by decide) (fun h_6 => ?_) (fun h_6 => ?_)
    ·
      refine lv_aload_n hM.1 hM.2.1 dX7_side_11 rfl (lv_at hl 0 rfl) ?_
      refine lv_iload_n hM.1 hM.2.1 dX7_side_12 rfl (lv_at hl 1 rfl) ?_
      refine z_Vr hM (hml.trans hl.1.symm) hW hS hlo zc7 hV.d7 rfl zyX7_copyAt lm_X7_161 li_yX7_copyAt le_yX7_copyAt (As := [.int (x)]) (rest := []) (c_X7_copyAt hV) rfl rfl (Nat.le_of_ble_eq_true rfl) ⟨Nat.le_of_ble_eq_true rfl, Nat.le_of_ble_eq_true rfl⟩ ⟨Nat.le_of_ble_eq_true rfl, Nat.le_of_ble_eq_true rfl⟩ dX7_side_13 (fun H locs hW hS => ?_)
      rcases hq_13 : atI n (x) with _ | q13
      ·
        refine lv_astore_nN hM.1 hM.2.1 dX7_side_16 rfl hl (by decide) (lv' := [(3, .null), (0, .ref (Z.1 7 (0))), (1, .int (x)), (2, .int (y))]) rfl (fun ls hl => ?_)
        refine lv_aload_nN hM.1 hM.2.1 dX7_side_17 rfl (lv_at hl 0 rfl) ?_
        refine lv_ifnullN hM.1 hM.2.1 dX7_side_18 (tgt := 28) (by decide) ?_
        refine lv_iload_n hM.1 hM.2.1 dX7_side_28 rfl (lv_at hl 2 rfl) ?_
        refine lv_bipush (v := 10) hM.1 hM.2.1 dX7_side_29 (by decide) ?_
        refine lv_icmp_ge hM.1 hM.2.1 dX7_side_31 (tgt := 36) (by decide) (fun h_31 => ?_) (fun h_31 => ?_)
        ·
          refine lv_aload_n hM.1 hM.2.1 dX7_side_36 rfl (lv_at hl 1 rfl) ?_
          refine lv_iload_n hM.1 hM.2.1 dX7_side_37 rfl (lv_at hl 2 rfl) ?_
          refine lv_bipush (v := 10) hM.1 hM.2.1 dX7_side_38 (by decide) ?_
          refine lv_isub hM.1 hM.2.1 dX7_side_40 ?_
          refine z_Vr hM (hml.trans hl.1.symm) hW hS hlo zc7 hV.d7 rfl zyX7_clientAt lm_X7_69 li_yX7_clientAt le_yX7_clientAt (As := [.int ((x) - (10))]) (rest := []) (c_X7_clientAt hV) rfl rfl (Nat.le_of_ble_eq_true rfl) ⟨Nat.le_of_ble_eq_true rfl, Nat.le_of_ble_eq_true rfl⟩ ⟨Nat.le_of_ble_eq_true rfl, Nat.le_of_ble_eq_true rfl⟩ dX7_side_41 (fun H locs hW hS => ?_)
          rcases hq_41 : atI 4 ((x) - (10)) with _ | q41
          ·
            refine lv_astoreN hM.1 hM.2.1 dX7_side_44 hl (by decide) (lv' := [(4, .null), (3, .null), (0, .ref (Z.1 7 (0))), (1, .int (x)), (2, .int (y))]) rfl (fun ls hl => ?_)
            refine lv_aloadN hM.1 hM.2.1 dX7_side_46 (lv_at hl 0 rfl) ?_
            refine lv_ifnonnullN hM.1 hM.2.1 dX7_side_48 ?_
            refine lv_iconst (v := 0) hM.1 hM.2.1 dX7_side_51 (by decide) ?_
            exact z_iret hM hlk hr rfl hW hS (zF.of (by unfold r_X7_side; rw [pif_neg h_1, pif_pos h_6, oel_n hq_13, pif_pos h_31, oel_n hq_41]; first | done | rfl) (by unfold s_X7_side; rw [pif_neg h_1, pif_pos h_6, oel_n hq_13, pif_pos h_31, oel_n hq_41]; first | done | rfl)) dX7_side_52
          ·
            obtain ⟨he_41, hb_41, hn0_41, hn1_41⟩ := atI_some (by decide) hq_41
            have hd_41 := hV.d2 hb_41
            refine lv_astore hM.1 hM.2.1 dX7_side_44 hl (by decide) (lv' := [(4, .ref (Z.1 2 (q41))), (3, .null), (0, .ref (Z.1 7 (0))), (1, .int (x)), (2, .int (y))]) rfl (fun ls hl => ?_)
            refine lv_aload hM.1 hM.2.1 dX7_side_46 (lv_at hl 0 rfl) ?_
            refine lv_ifnonnull hM.1 hM.2.1 dX7_side_48 (tgt := 53) (by decide) ?_
            refine lv_aload hM.1 hM.2.1 dX7_side_53 (lv_at hl 0 rfl) ?_
            refine lv_iload_n hM.1 hM.2.1 dX7_side_55 rfl (lv_at hl 4 rfl) ?_
            refine z_puti hM hW hS zc2 hd_41 rfl 8 (by decide) rfl lf_X7_171 (Or.inl rfl) (tyX2 8) (tyX2_ok 8 (by decide)) rfl rfl dX7_side_56 (fun H locs hW hS => ?_)
            refine lv_iconst (v := 1) hM.1 hM.2.1 dX7_side_59 (by decide) ?_
            exact z_iret hM hlk hr rfl hW hS (zF.of (by unfold r_X7_side; rw [pif_neg h_1, pif_pos h_6, oel_n hq_13, pif_pos h_31, oel_s hq_41]; first | done | rfl) (by unfold s_X7_side; rw [pif_neg h_1, pif_pos h_6, oel_n hq_13, pif_pos h_31, oel_s hq_41]; first | done | rfl)) dX7_side_60
        ·
          refine lv_iconst (v := 0) hM.1 hM.2.1 dX7_side_34 (by decide) ?_
          exact z_iret hM hlk hr rfl hW hS (zF.of (by unfold r_X7_side; rw [pif_neg h_1, pif_pos h_6, oel_n hq_13, pif_neg h_31]; first | done | rfl) (by unfold s_X7_side; rw [pif_neg h_1, pif_pos h_6, oel_n hq_13, pif_neg h_31]; first | done | rfl)) dX7_side_35
      ·
        obtain ⟨he_13, hb_13, hn0_13, hn1_13⟩ := atI_some (by have := hV.n7; omega) hq_13
        have hd_13 := hV.d3 hb_13
        refine lv_astore_n hM.1 hM.2.1 dX7_side_16 rfl hl (by decide) (lv' := [(3, .ref (Z.1 3 (q13))), (0, .ref (Z.1 7 (0))), (1, .int (x)), (2, .int (y))]) rfl (fun ls hl => ?_)
        refine lv_aload_n hM.1 hM.2.1 dX7_side_17 rfl (lv_at hl 0 rfl) ?_
        refine lv_ifnull hM.1 hM.2.1 dX7_side_18 ?_
        refine lv_aload_n hM.1 hM.2.1 dX7_side_21 rfl (lv_at hl 0 rfl) ?_
        refine lv_iload_n hM.1 hM.2.1 dX7_side_22 rfl (lv_at hl 3 rfl) ?_
        refine z_puti hM hW hS zc3 hd_13 rfl 4 (by decide) rfl lf_X7_168 (Or.inl rfl) (tyX3 4) (tyX3_ok 4 (by decide)) rfl rfl dX7_side_23 (fun H locs hW hS => ?_)
        refine lv_iconst (v := 1) hM.1 hM.2.1 dX7_side_26 (by decide) ?_
        exact z_iret hM hlk hr rfl hW hS (zF.of (by unfold r_X7_side; rw [pif_neg h_1, pif_pos h_6, oel_s hq_13]; first | done | rfl) (by unfold s_X7_side; rw [pif_neg h_1, pif_pos h_6, oel_s hq_13]; first | done | rfl)) dX7_side_27
    ·
      refine lv_iconst (v := 0) hM.1 hM.2.1 dX7_side_9 (by decide) ?_
      exact z_iret hM hlk hr rfl hW hS (zF.of (by unfold r_X7_side; rw [pif_neg h_1, pif_neg h_6]; first | done | rfl) (by unfold s_X7_side; rw [pif_neg h_1, pif_neg h_6]; first | done | rfl)) dX7_side_10

noncomputable def r_X7_canPass (S : zS) (n : Nat) (j : Nat) : Int32 := 
  (oel (atI n (gi S 4 (j) (2))) 
    (oel (atI 4 (gi S 4 (j) (3))) (0) (fun q14 => (0))) (fun q5 => 
    (oel (atI 4 (gi S 4 (j) (3))) (0) (fun q14 => 
      (pif ((gi S 3 (q5) (3)) = (0)) 
        (pif ((gi S 3 (q5) (4)) = (gi S 2 (q14) (8))) (1) (0)) (0))))))
set_option maxHeartbeats 4000000 in
set_option maxRecDepth 100000 in
theorem c_X7_canPass {l : Launch} {D : va_G} {ar : Nat → ClassId} {A : Nat → Prop} {Z : zZ} {S : zS} {n : Nat} {j : Nat} (hV : zV n Z S.2.2) (hj : Z.2.1 4 j) : zMet l yX7_canPass prog_1_method_33_code 4 (some .boolean) ({ frames := 1, cells := 0, slots := 0, locals := 21 } : Room) D ar A Z S [.ref (Z.1 7 (0)), .ref (Z.1 4 (j))] rvI (zF (r_X7_canPass S n j) Z S) := by
  refine z_body (by decide +kernel) (Nat.le_of_ble_eq_true rfl) ?_
  intro pX eX sX mX bX methX cX ls hM hr hlk hml hin hl hW hlo
  have hM : zM pX cX mX _ sX prog_1_method_33_code RX7 D ar := hM
  have hS : va_S A sX.heap sX.heap [] := va_S.rf
  have hl : lv_has ls 4 [(0, .ref (Z.1 7 (0))), (1, .ref (Z.1 4 (j)))] := hl
  refine lv_aload_n hM.1 hM.2.1 dX7_canPass_0 rfl (lv_at hl 0 rfl) ?_
  refine lv_aload_n hM.1 hM.2.1 dX7_canPass_1 rfl (lv_at hl 1 rfl) ?_
  refine z_get hM hW zc4 hj rfl 2 (by decide) lf_X7_195 (v := .int (gi S 4 (j) (2))) rfl dX7_canPass_2 ?_
  refine z_Vr hM (hml.trans hl.1.symm) hW hS hlo zc7 hV.d7 rfl zyX7_copyAt lm_X7_161 li_yX7_copyAt le_yX7_copyAt (As := [.int (gi S 4 (j) (2))]) (rest := []) (c_X7_copyAt hV) rfl rfl (Nat.le_of_ble_eq_true rfl) ⟨Nat.le_of_ble_eq_true rfl, Nat.le_of_ble_eq_true rfl⟩ ⟨Nat.le_of_ble_eq_true rfl, Nat.le_of_ble_eq_true rfl⟩ dX7_canPass_5 (fun H locs hW hS => ?_)
  rcases hq_5 : atI n (gi S 4 (j) (2)) with _ | q5
  ·
    refine lv_astore_nN hM.1 hM.2.1 dX7_canPass_8 rfl hl (by decide) (lv' := [(2, .null), (0, .ref (Z.1 7 (0))), (1, .ref (Z.1 4 (j)))]) rfl (fun ls hl => ?_)
    refine lv_aload_n hM.1 hM.2.1 dX7_canPass_9 rfl (lv_at hl 1 rfl) ?_
    refine lv_aload_n hM.1 hM.2.1 dX7_canPass_10 rfl (lv_at hl 2 rfl) ?_
    refine z_get hM hW zc4 hj rfl 3 (by decide) lf_X7_198 (v := .int (gi S 4 (j) (3))) rfl dX7_canPass_11 ?_
    refine z_Vr hM (hml.trans hl.1.symm) hW hS hlo zc7 hV.d7 rfl zyX7_clientAt lm_X7_69 li_yX7_clientAt le_yX7_clientAt (As := [.int (gi S 4 (j) (3))]) (rest := []) (c_X7_clientAt hV) rfl rfl (Nat.le_of_ble_eq_true rfl) ⟨Nat.le_of_ble_eq_true rfl, Nat.le_of_ble_eq_true rfl⟩ ⟨Nat.le_of_ble_eq_true rfl, Nat.le_of_ble_eq_true rfl⟩ dX7_canPass_14 (fun H locs hW hS => ?_)
    rcases hq_14 : atI 4 (gi S 4 (j) (3)) with _ | q14
    ·
      refine lv_astore_nN hM.1 hM.2.1 dX7_canPass_17 rfl hl (by decide) (lv' := [(3, .null), (2, .null), (0, .ref (Z.1 7 (0))), (1, .ref (Z.1 4 (j)))]) rfl (fun ls hl => ?_)
      refine lv_aload_nN hM.1 hM.2.1 dX7_canPass_18 rfl (lv_at hl 1 rfl) ?_
      refine lv_ifnullN hM.1 hM.2.1 dX7_canPass_19 (tgt := 48) (by decide) ?_
      refine lv_iconst (v := 0) hM.1 hM.2.1 dX7_canPass_48 (by decide) ?_
      exact z_iret hM hlk hr rfl hW hS (zF.of (by unfold r_X7_canPass; rw [oel_n hq_5, oel_n hq_14]; first | done | rfl) rfl) dX7_canPass_49
    ·
      obtain ⟨he_14, hb_14, hn0_14, hn1_14⟩ := atI_some (by decide) hq_14
      have hd_14 := hV.d2 hb_14
      refine lv_astore_n hM.1 hM.2.1 dX7_canPass_17 rfl hl (by decide) (lv' := [(3, .ref (Z.1 2 (q14))), (2, .null), (0, .ref (Z.1 7 (0))), (1, .ref (Z.1 4 (j)))]) rfl (fun ls hl => ?_)
      refine lv_aload_nN hM.1 hM.2.1 dX7_canPass_18 rfl (lv_at hl 1 rfl) ?_
      refine lv_ifnullN hM.1 hM.2.1 dX7_canPass_19 (tgt := 48) (by decide) ?_
      refine lv_iconst (v := 0) hM.1 hM.2.1 dX7_canPass_48 (by decide) ?_
      exact z_iret hM hlk hr rfl hW hS (zF.of (by unfold r_X7_canPass; rw [oel_n hq_5, oel_s hq_14]; first | done | rfl) rfl) dX7_canPass_49
  ·
    obtain ⟨he_5, hb_5, hn0_5, hn1_5⟩ := atI_some (by have := hV.n7; omega) hq_5
    have hd_5 := hV.d3 hb_5
    refine lv_astore_n hM.1 hM.2.1 dX7_canPass_8 rfl hl (by decide) (lv' := [(2, .ref (Z.1 3 (q5))), (0, .ref (Z.1 7 (0))), (1, .ref (Z.1 4 (j)))]) rfl (fun ls hl => ?_)
    refine lv_aload_n hM.1 hM.2.1 dX7_canPass_9 rfl (lv_at hl 1 rfl) ?_
    refine lv_aload_n hM.1 hM.2.1 dX7_canPass_10 rfl (lv_at hl 2 rfl) ?_
    refine z_get hM hW zc4 hj rfl 3 (by decide) lf_X7_198 (v := .int (gi S 4 (j) (3))) rfl dX7_canPass_11 ?_
    refine z_Vr hM (hml.trans hl.1.symm) hW hS hlo zc7 hV.d7 rfl zyX7_clientAt lm_X7_69 li_yX7_clientAt le_yX7_clientAt (As := [.int (gi S 4 (j) (3))]) (rest := []) (c_X7_clientAt hV) rfl rfl (Nat.le_of_ble_eq_true rfl) ⟨Nat.le_of_ble_eq_true rfl, Nat.le_of_ble_eq_true rfl⟩ ⟨Nat.le_of_ble_eq_true rfl, Nat.le_of_ble_eq_true rfl⟩ dX7_canPass_14 (fun H locs hW hS => ?_)
    rcases hq_14 : atI 4 (gi S 4 (j) (3)) with _ | q14
    ·
      refine lv_astore_nN hM.1 hM.2.1 dX7_canPass_17 rfl hl (by decide) (lv' := [(3, .null), (2, .ref (Z.1 3 (q5))), (0, .ref (Z.1 7 (0))), (1, .ref (Z.1 4 (j)))]) rfl (fun ls hl => ?_)
      refine lv_aload_n hM.1 hM.2.1 dX7_canPass_18 rfl (lv_at hl 1 rfl) ?_
      refine lv_ifnull hM.1 hM.2.1 dX7_canPass_19 ?_
      refine lv_aload_nN hM.1 hM.2.1 dX7_canPass_22 rfl (lv_at hl 0 rfl) ?_
      refine lv_ifnullN hM.1 hM.2.1 dX7_canPass_23 (tgt := 48) (by decide) ?_
      refine lv_iconst (v := 0) hM.1 hM.2.1 dX7_canPass_48 (by decide) ?_
      exact z_iret hM hlk hr rfl hW hS (zF.of (by unfold r_X7_canPass; rw [oel_s hq_5, oel_n hq_14]; first | done | rfl) rfl) dX7_canPass_49
    ·
      obtain ⟨he_14, hb_14, hn0_14, hn1_14⟩ := atI_some (by decide) hq_14
      have hd_14 := hV.d2 hb_14
      refine lv_astore_n hM.1 hM.2.1 dX7_canPass_17 rfl hl (by decide) (lv' := [(3, .ref (Z.1 2 (q14))), (2, .ref (Z.1 3 (q5))), (0, .ref (Z.1 7 (0))), (1, .ref (Z.1 4 (j)))]) rfl (fun ls hl => ?_)
      refine lv_aload_n hM.1 hM.2.1 dX7_canPass_18 rfl (lv_at hl 1 rfl) ?_
      refine lv_ifnull hM.1 hM.2.1 dX7_canPass_19 ?_
      refine lv_aload_n hM.1 hM.2.1 dX7_canPass_22 rfl (lv_at hl 0 rfl) ?_
      refine lv_ifnull hM.1 hM.2.1 dX7_canPass_23 ?_
      refine lv_aload_n hM.1 hM.2.1 dX7_canPass_26 rfl (lv_at hl 1 rfl) ?_
      refine z_get hM hW zc3 hd_5 rfl 3 (by decide) lf_X7_165 (v := .int (gi S 3 (q5) (3))) rfl dX7_canPass_27 ?_
      refine lv_if_ne hM.1 hM.2.1 dX7_canPass_30 (tgt := 48) (by decide) (fun h_30 => ?_) (fun h_30 => ?_)
      ·
        refine lv_iconst (v := 0) hM.1 hM.2.1 dX7_canPass_48 (by decide) ?_
        exact z_iret hM hlk hr rfl hW hS (zF.of (by unfold r_X7_canPass; rw [oel_s hq_5, oel_s hq_14, pif_neg h_30]; first | done | rfl) rfl) dX7_canPass_49
      ·
        refine lv_aload_n hM.1 hM.2.1 dX7_canPass_33 rfl (lv_at hl 1 rfl) ?_
        refine z_get hM hW zc3 hd_5 rfl 4 (by decide) lf_X7_168 (v := .int (gi S 3 (q5) (4))) rfl dX7_canPass_34 ?_
        refine lv_aload_n hM.1 hM.2.1 dX7_canPass_37 rfl (lv_at hl 0 rfl) ?_
        refine z_get hM hW zc2 hd_14 rfl 8 (by decide) lf_X7_171 (v := .int (gi S 2 (q14) (8))) rfl dX7_canPass_38 ?_
        refine lv_icmp_ne hM.1 hM.2.1 dX7_canPass_41 (tgt := 48) (by decide) (fun h_41 => ?_) (fun h_41 => ?_)
        ·
          refine lv_iconst (v := 0) hM.1 hM.2.1 dX7_canPass_48 (by decide) ?_
          exact z_iret hM hlk hr rfl hW hS (zF.of (by unfold r_X7_canPass; rw [oel_s hq_5, oel_s hq_14, pif_pos h_30, pif_neg h_41]; first | done | rfl) rfl) dX7_canPass_49
        ·
          refine lv_iconst (v := 1) hM.1 hM.2.1 dX7_canPass_44 (by decide) ?_
          refine lv_goto hM.1 hM.2.1 dX7_canPass_45 (tgt := 49) (by decide) ?_
          exact z_iret hM hlk hr rfl hW hS (zF.of (by unfold r_X7_canPass; rw [oel_s hq_5, oel_s hq_14, pif_pos h_30, pif_pos h_41]; first | done | rfl) rfl) dX7_canPass_49

noncomputable def r_X7_copy (S : zS) (n : Nat) (x y : Int32) : Int32 := 
  (oel (atI n (x)) ((-1)) (fun q2 => 
    (pif ((y) = (0)) (gi S 6 (q2) (0)) 
      (pif ((y) = (1)) (gi S 6 (q2) (1)) 
        (pif ((y) = (2)) (gi S 3 (q2) (1)) 
          (pif ((y) = (3)) (gi S 3 (q2) (2)) 
            (pif ((y) = (4)) 
              (pif ((gi S 3 (q2) (3)) = (0)) (0) (1)) 
              (pif ((y) = (5)) (gi S 3 (q2) (4)) ((-1))))))))))
set_option maxHeartbeats 4000000 in
set_option maxRecDepth 100000 in
theorem c_X7_copy {l : Launch} {D : va_G} {ar : Nat → ClassId} {A : Nat → Prop} {Z : zZ} {S : zS} {n : Nat} {x y : Int32} (hV : zV n Z S.2.2)  : zMet l yX7_copy prog_1_method_15_code 4 (some .int) ({ frames := 1, cells := 0, slots := 0, locals := 21 } : Room) D ar A Z S [.ref (Z.1 7 (0)), .int (x), .int (y)] rvI (zF (r_X7_copy S n x y) Z S) := by
  refine z_body (by decide +kernel) (Nat.le_of_ble_eq_true rfl) ?_
  intro pX eX sX mX bX methX cX ls hM hr hlk hml hin hl hW hlo
  have hM : zM pX cX mX _ sX prog_1_method_15_code RX7 D ar := hM
  have hS : va_S A sX.heap sX.heap [] := va_S.rf
  have hl : lv_has ls 4 [(0, .ref (Z.1 7 (0))), (1, .int (x)), (2, .int (y))] := hl
  refine lv_aload_n hM.1 hM.2.1 dX7_copy_0 rfl (lv_at hl 0 rfl) ?_
  refine lv_iload_n hM.1 hM.2.1 dX7_copy_1 rfl (lv_at hl 1 rfl) ?_
  refine z_Vr hM (hml.trans hl.1.symm) hW hS hlo zc7 hV.d7 rfl zyX7_copyAt lm_X7_161 li_yX7_copyAt le_yX7_copyAt (As := [.int (x)]) (rest := []) (c_X7_copyAt hV) rfl rfl (Nat.le_of_ble_eq_true rfl) ⟨Nat.le_of_ble_eq_true rfl, Nat.le_of_ble_eq_true rfl⟩ ⟨Nat.le_of_ble_eq_true rfl, Nat.le_of_ble_eq_true rfl⟩ dX7_copy_2 (fun H locs hW hS => ?_)
  rcases hq_2 : atI n (x) with _ | q2
  ·
    refine lv_astore_nN hM.1 hM.2.1 dX7_copy_5 rfl hl (by decide) (lv' := [(3, .null), (0, .ref (Z.1 7 (0))), (1, .int (x)), (2, .int (y))]) rfl (fun ls hl => ?_)
    refine lv_aload_nN hM.1 hM.2.1 dX7_copy_6 rfl (lv_at hl 0 rfl) ?_
    refine lv_ifnonnullN hM.1 hM.2.1 dX7_copy_7 ?_
    refine lv_iconst (v := (-1)) hM.1 hM.2.1 dX7_copy_10 (by decide) ?_
    exact z_iret hM hlk hr rfl hW hS (zF.of (by unfold r_X7_copy; rw [oel_n hq_2]; first | done | rfl) rfl) dX7_copy_11
  ·
    obtain ⟨he_2, hb_2, hn0_2, hn1_2⟩ := atI_some (by have := hV.n7; omega) hq_2
    have hd_2 := hV.d3 hb_2
    refine lv_astore_n hM.1 hM.2.1 dX7_copy_5 rfl hl (by decide) (lv' := [(3, .ref (Z.1 3 (q2))), (0, .ref (Z.1 7 (0))), (1, .int (x)), (2, .int (y))]) rfl (fun ls hl => ?_)
    refine lv_aload_n hM.1 hM.2.1 dX7_copy_6 rfl (lv_at hl 0 rfl) ?_
    refine lv_ifnonnull hM.1 hM.2.1 dX7_copy_7 (tgt := 12) (by decide) ?_
    refine lv_iload_n hM.1 hM.2.1 dX7_copy_12 rfl (lv_at hl 3 rfl) ?_
    by_cases h_13_0 : (y) = (0)
    ·
      refine lv_tableIn hM.1 hM.2.1 dX7_copy_13 (by rw [h_13_0]; decide) (by rw [h_13_0]; decide) (off := 39) (by rw [h_13_0]; rfl) (tgt := 52) (by decide) ?_
      refine lv_aload_n hM.1 hM.2.1 dX7_copy_52 rfl (lv_at hl 0 rfl) ?_
      refine z_getr hM hW zc3 hd_2 rfl 0 (by decide) lf_X7_172 (t := 6) (j := q2) rfl (hV.r3 hb_2) dX7_copy_53 (fun hd1_53 => ?_)
      refine z_get hM hW zc6 hd1_53 rfl 0 (by decide) lf_X7_176 (v := .int (gi S 6 (q2) (0))) rfl dX7_copy_56 ?_
      exact z_iret hM hlk hr rfl hW hS (zF.of (by unfold r_X7_copy; rw [oel_s hq_2, pif_pos h_13_0]; first | done | rfl) rfl) dX7_copy_59
    by_cases h_13_1 : (y) = (1)
    ·
      refine lv_tableIn hM.1 hM.2.1 dX7_copy_13 (by rw [h_13_1]; decide) (by rw [h_13_1]; decide) (off := 47) (by rw [h_13_1]; rfl) (tgt := 60) (by decide) ?_
      refine lv_aload_n hM.1 hM.2.1 dX7_copy_60 rfl (lv_at hl 0 rfl) ?_
      refine z_getr hM hW zc3 hd_2 rfl 0 (by decide) lf_X7_172 (t := 6) (j := q2) rfl (hV.r3 hb_2) dX7_copy_61 (fun hd2_61 => ?_)
      refine z_get hM hW zc6 hd2_61 rfl 1 (by decide) lf_X7_181 (v := .int (gi S 6 (q2) (1))) rfl dX7_copy_64 ?_
      exact z_iret hM hlk hr rfl hW hS (zF.of (by unfold r_X7_copy; rw [oel_s hq_2, pif_neg h_13_0, pif_pos h_13_1]; first | done | rfl) rfl) dX7_copy_67
    by_cases h_13_2 : (y) = (2)
    ·
      refine lv_tableIn hM.1 hM.2.1 dX7_copy_13 (by rw [h_13_2]; decide) (by rw [h_13_2]; decide) (off := 55) (by rw [h_13_2]; rfl) (tgt := 68) (by decide) ?_
      refine lv_aload_n hM.1 hM.2.1 dX7_copy_68 rfl (lv_at hl 0 rfl) ?_
      refine z_get hM hW zc3 hd_2 rfl 1 (by decide) lf_X7_184 (v := .int (gi S 3 (q2) (1))) rfl dX7_copy_69 ?_
      exact z_iret hM hlk hr rfl hW hS (zF.of (by unfold r_X7_copy; rw [oel_s hq_2, pif_neg h_13_0, pif_neg h_13_1, pif_pos h_13_2]; first | done | rfl) rfl) dX7_copy_72
    by_cases h_13_3 : (y) = (3)
    ·
      refine lv_tableIn hM.1 hM.2.1 dX7_copy_13 (by rw [h_13_3]; decide) (by rw [h_13_3]; decide) (off := 60) (by rw [h_13_3]; rfl) (tgt := 73) (by decide) ?_
      refine lv_aload_n hM.1 hM.2.1 dX7_copy_73 rfl (lv_at hl 0 rfl) ?_
      refine z_get hM hW zc3 hd_2 rfl 2 (by decide) lf_X7_185 (v := .int (gi S 3 (q2) (2))) rfl dX7_copy_74 ?_
      exact z_iret hM hlk hr rfl hW hS (zF.of (by unfold r_X7_copy; rw [oel_s hq_2, pif_neg h_13_0, pif_neg h_13_1, pif_neg h_13_2, pif_pos h_13_3]; first | done | rfl) rfl) dX7_copy_77
    by_cases h_13_4 : (y) = (4)
    ·
      refine lv_tableIn hM.1 hM.2.1 dX7_copy_13 (by rw [h_13_4]; decide) (by rw [h_13_4]; decide) (off := 65) (by rw [h_13_4]; rfl) (tgt := 78) (by decide) ?_
      refine lv_aload_n hM.1 hM.2.1 dX7_copy_78 rfl (lv_at hl 0 rfl) ?_
      refine z_get hM hW zc3 hd_2 rfl 3 (by decide) lf_X7_165 (v := .int (gi S 3 (q2) (3))) rfl dX7_copy_79 ?_
      refine lv_if_eq hM.1 hM.2.1 dX7_copy_82 (tgt := 89) (by decide) (fun h_82 => ?_) (fun h_82 => ?_)
      ·
        refine lv_iconst (v := 0) hM.1 hM.2.1 dX7_copy_89 (by decide) ?_
        exact z_iret hM hlk hr rfl hW hS (zF.of (by unfold r_X7_copy; rw [oel_s hq_2, pif_neg h_13_0, pif_neg h_13_1, pif_neg h_13_2, pif_neg h_13_3, pif_pos h_13_4, pif_pos h_82]; first | done | rfl) rfl) dX7_copy_90
      ·
        refine lv_iconst (v := 1) hM.1 hM.2.1 dX7_copy_85 (by decide) ?_
        refine lv_goto hM.1 hM.2.1 dX7_copy_86 (tgt := 90) (by decide) ?_
        exact z_iret hM hlk hr rfl hW hS (zF.of (by unfold r_X7_copy; rw [oel_s hq_2, pif_neg h_13_0, pif_neg h_13_1, pif_neg h_13_2, pif_neg h_13_3, pif_pos h_13_4, pif_neg h_82]; first | done | rfl) rfl) dX7_copy_90
    by_cases h_13_5 : (y) = (5)
    ·
      refine lv_tableIn hM.1 hM.2.1 dX7_copy_13 (by rw [h_13_5]; decide) (by rw [h_13_5]; decide) (off := 78) (by rw [h_13_5]; rfl) (tgt := 91) (by decide) ?_
      refine lv_aload_n hM.1 hM.2.1 dX7_copy_91 rfl (lv_at hl 0 rfl) ?_
      refine z_get hM hW zc3 hd_2 rfl 4 (by decide) lf_X7_168 (v := .int (gi S 3 (q2) (4))) rfl dX7_copy_92 ?_
      exact z_iret hM hlk hr rfl hW hS (zF.of (by unfold r_X7_copy; rw [oel_s hq_2, pif_neg h_13_0, pif_neg h_13_1, pif_neg h_13_2, pif_neg h_13_3, pif_neg h_13_4, pif_pos h_13_5]; first | done | rfl) rfl) dX7_copy_95
    refine lv_tableOut hM.1 hM.2.1 dX7_copy_13 (by have n0 : Int32.toInt (y) ≠ 0 := fun q => h_13_0 (Int32.toInt_inj.mp (by rw [q]; rfl)); have n1 : Int32.toInt (y) ≠ 1 := fun q => h_13_1 (Int32.toInt_inj.mp (by rw [q]; rfl)); have n2 : Int32.toInt (y) ≠ 2 := fun q => h_13_2 (Int32.toInt_inj.mp (by rw [q]; rfl)); have n3 : Int32.toInt (y) ≠ 3 := fun q => h_13_3 (Int32.toInt_inj.mp (by rw [q]; rfl)); have n4 : Int32.toInt (y) ≠ 4 := fun q => h_13_4 (Int32.toInt_inj.mp (by rw [q]; rfl)); have n5 : Int32.toInt (y) ≠ 5 := fun q => h_13_5 (Int32.toInt_inj.mp (by rw [q]; rfl)); omega) (tgt := 96) (by decide) ?_
    refine lv_iconst (v := (-1)) hM.1 hM.2.1 dX7_copy_96 (by decide) ?_
    exact z_iret hM hlk hr rfl hW hS (zF.of (by unfold r_X7_copy; rw [oel_s hq_2, pif_neg h_13_0, pif_neg h_13_1, pif_neg h_13_2, pif_neg h_13_3, pif_neg h_13_4, pif_neg h_13_5]; first | done | rfl) rfl) dX7_copy_97

noncomputable def r_X7_kept (S : zS) (n : Nat) (x : Int32) : Int64 := 
  (oel (atI n (x)) (0) (fun q2 => (gj S 6 (q2) (2))))
set_option maxHeartbeats 4000000 in
set_option maxRecDepth 100000 in
theorem c_X7_kept {l : Launch} {D : va_G} {ar : Nat → ClassId} {A : Nat → Prop} {Z : zZ} {S : zS} {n : Nat} {x : Int32} (hV : zV n Z S.2.2)  : zMet l yX7_kept prog_1_method_16_code 3 (some .long) ({ frames := 1, cells := 0, slots := 0, locals := 21 } : Room) D ar A Z S [.ref (Z.1 7 (0)), .int (x)] rvL (zF (r_X7_kept S n x) Z S) := by
  refine z_body (by decide +kernel) (Nat.le_of_ble_eq_true rfl) ?_
  intro pX eX sX mX bX methX cX ls hM hr hlk hml hin hl hW hlo
  have hM : zM pX cX mX _ sX prog_1_method_16_code RX7 D ar := hM
  have hS : va_S A sX.heap sX.heap [] := va_S.rf
  have hl : lv_has ls 3 [(0, .ref (Z.1 7 (0))), (1, .int (x))] := hl
  refine lv_aload_n hM.1 hM.2.1 dX7_kept_0 rfl (lv_at hl 0 rfl) ?_
  refine lv_iload_n hM.1 hM.2.1 dX7_kept_1 rfl (lv_at hl 1 rfl) ?_
  refine z_Vr hM (hml.trans hl.1.symm) hW hS hlo zc7 hV.d7 rfl zyX7_copyAt lm_X7_161 li_yX7_copyAt le_yX7_copyAt (As := [.int (x)]) (rest := []) (c_X7_copyAt hV) rfl rfl (Nat.le_of_ble_eq_true rfl) ⟨Nat.le_of_ble_eq_true rfl, Nat.le_of_ble_eq_true rfl⟩ ⟨Nat.le_of_ble_eq_true rfl, Nat.le_of_ble_eq_true rfl⟩ dX7_kept_2 (fun H locs hW hS => ?_)
  rcases hq_2 : atI n (x) with _ | q2
  ·
    refine lv_astore_nN hM.1 hM.2.1 dX7_kept_5 rfl hl (by decide) (lv' := [(2, .null), (0, .ref (Z.1 7 (0))), (1, .int (x))]) rfl (fun ls hl => ?_)
    refine lv_aload_nN hM.1 hM.2.1 dX7_kept_6 rfl (lv_at hl 0 rfl) ?_
    refine lv_ifnonnullN hM.1 hM.2.1 dX7_kept_7 ?_
    refine lv_lconst (v := 0) hM.1 hM.2.1 dX7_kept_10 (by decide) ?_
    refine lv_goto hM.1 hM.2.1 dX7_kept_11 (tgt := 21) (by decide) ?_
    exact z_lret hM hlk hr hW hS (zF.of (by unfold r_X7_kept; rw [oel_n hq_2]; first | done | rfl) rfl) dX7_kept_21
  ·
    obtain ⟨he_2, hb_2, hn0_2, hn1_2⟩ := atI_some (by have := hV.n7; omega) hq_2
    have hd_2 := hV.d3 hb_2
    refine lv_astore_n hM.1 hM.2.1 dX7_kept_5 rfl hl (by decide) (lv' := [(2, .ref (Z.1 3 (q2))), (0, .ref (Z.1 7 (0))), (1, .int (x))]) rfl (fun ls hl => ?_)
    refine lv_aload_n hM.1 hM.2.1 dX7_kept_6 rfl (lv_at hl 0 rfl) ?_
    refine lv_ifnonnull hM.1 hM.2.1 dX7_kept_7 (tgt := 14) (by decide) ?_
    refine lv_aload_n hM.1 hM.2.1 dX7_kept_14 rfl (lv_at hl 0 rfl) ?_
    refine z_getr hM hW zc3 hd_2 rfl 0 (by decide) lf_X7_172 (t := 6) (j := q2) rfl (hV.r3 hb_2) dX7_kept_15 (fun hd1_15 => ?_)
    refine z_get hM hW zc6 hd1_15 rfl 2 (by decide) lf_X7_186 (v := .long (gj S 6 (q2) (2))) rfl dX7_kept_18 ?_
    exact z_lret hM hlk hr hW hS (zF.of (by unfold r_X7_kept; rw [oel_s hq_2]; first | done | rfl) rfl) dX7_kept_21

noncomputable def r_X7_client (S : zS) (n : Nat) (x y : Int32) : Int32 := 
  (oel (atI 4 (x)) ((-1)) (fun q2 => 
    (oel (gr S 2 q2 2) 
      (pif ((y) = (0)) ((-1)) 
        (pif ((y) = (1)) (gi S 2 (q2) (3)) 
          (pif ((y) = (2)) (gi S 2 (q2) (6)) 
            (pif ((y) = (3)) (gi S 2 (q2) (7)) 
              (pif ((y) = (4)) (gi S 2 (q2) (8)) 
                (pif ((y) = (5)) (gi S 2 (q2) (5)) ((-1)))))))) (fun a => 
      (pif ((y) = (0)) (gi S 0 (a) (0)) 
        (pif ((y) = (1)) (gi S 2 (q2) (3)) 
          (pif ((y) = (2)) (gi S 2 (q2) (6)) 
            (pif ((y) = (3)) (gi S 2 (q2) (7)) 
              (pif ((y) = (4)) (gi S 2 (q2) (8)) 
                (pif ((y) = (5)) (gi S 2 (q2) (5)) ((-1))))))))))))
set_option maxHeartbeats 4000000 in
set_option maxRecDepth 100000 in
theorem c_X7_client {l : Launch} {D : va_G} {ar : Nat → ClassId} {A : Nat → Prop} {Z : zZ} {S : zS} {n : Nat} {x y : Int32} (hV : zV n Z S.2.2)  : zMet l yX7_client prog_1_method_17_code 5 (some .int) ({ frames := 1, cells := 0, slots := 0, locals := 21 } : Room) D ar A Z S [.ref (Z.1 7 (0)), .int (x), .int (y)] rvI (zF (r_X7_client S n x y) Z S) := by
  refine z_body (by decide +kernel) (Nat.le_of_ble_eq_true rfl) ?_
  intro pX eX sX mX bX methX cX ls hM hr hlk hml hin hl hW hlo
  have hM : zM pX cX mX _ sX prog_1_method_17_code RX7 D ar := hM
  have hS : va_S A sX.heap sX.heap [] := va_S.rf
  have hl : lv_has ls 5 [(0, .ref (Z.1 7 (0))), (1, .int (x)), (2, .int (y))] := hl
  refine lv_aload_n hM.1 hM.2.1 dX7_client_0 rfl (lv_at hl 0 rfl) ?_
  refine lv_iload_n hM.1 hM.2.1 dX7_client_1 rfl (lv_at hl 1 rfl) ?_
  refine z_Vr hM (hml.trans hl.1.symm) hW hS hlo zc7 hV.d7 rfl zyX7_clientAt lm_X7_69 li_yX7_clientAt le_yX7_clientAt (As := [.int (x)]) (rest := []) (c_X7_clientAt hV) rfl rfl (Nat.le_of_ble_eq_true rfl) ⟨Nat.le_of_ble_eq_true rfl, Nat.le_of_ble_eq_true rfl⟩ ⟨Nat.le_of_ble_eq_true rfl, Nat.le_of_ble_eq_true rfl⟩ dX7_client_2 (fun H locs hW hS => ?_)
  rcases hq_2 : atI 4 (x) with _ | q2
  ·
    refine lv_astore_nN hM.1 hM.2.1 dX7_client_5 rfl hl (by decide) (lv' := [(3, .null), (0, .ref (Z.1 7 (0))), (1, .int (x)), (2, .int (y))]) rfl (fun ls hl => ?_)
    refine lv_aload_nN hM.1 hM.2.1 dX7_client_6 rfl (lv_at hl 0 rfl) ?_
    refine lv_ifnonnullN hM.1 hM.2.1 dX7_client_7 ?_
    refine lv_iconst (v := (-1)) hM.1 hM.2.1 dX7_client_10 (by decide) ?_
    exact z_iret hM hlk hr rfl hW hS (zF.of (by unfold r_X7_client; rw [oel_n hq_2]; first | done | rfl) rfl) dX7_client_11
  ·
    obtain ⟨he_2, hb_2, hn0_2, hn1_2⟩ := atI_some (by decide) hq_2
    have hd_2 := hV.d2 hb_2
    refine lv_astore_n hM.1 hM.2.1 dX7_client_5 rfl hl (by decide) (lv' := [(3, .ref (Z.1 2 (q2))), (0, .ref (Z.1 7 (0))), (1, .int (x)), (2, .int (y))]) rfl (fun ls hl => ?_)
    refine lv_aload_n hM.1 hM.2.1 dX7_client_6 rfl (lv_at hl 0 rfl) ?_
    refine lv_ifnonnull hM.1 hM.2.1 dX7_client_7 (tgt := 12) (by decide) ?_
    refine lv_aload_n hM.1 hM.2.1 dX7_client_12 rfl (lv_at hl 0 rfl) ?_
    rcases hq_13 : gr S 2 q2 2 with _ | a
    ·
      refine z_get hM hW zc2 hd_2 rfl 2 (by decide) lf_X7_105 (v := .null) (by simp [zv, zvt, zk, zrv, hq_13]) dX7_client_13 ?_
      refine lv_astoreN hM.1 hM.2.1 dX7_client_16 hl (by decide) (lv' := [(4, .null), (3, .ref (Z.1 2 (q2))), (0, .ref (Z.1 7 (0))), (1, .int (x)), (2, .int (y))]) rfl (fun ls hl => ?_)
      refine lv_iload_n hM.1 hM.2.1 dX7_client_18 rfl (lv_at hl 4 rfl) ?_
      by_cases h_19_0 : (y) = (0)
      ·
        refine lv_tableIn hM.1 hM.2.1 dX7_client_19 (by rw [h_19_0]; decide) (by rw [h_19_0]; decide) (off := 37) (by rw [h_19_0]; rfl) (tgt := 56) (by decide) ?_
        refine lv_aloadN hM.1 hM.2.1 dX7_client_56 (lv_at hl 0 rfl) ?_
        refine lv_ifnonnullN hM.1 hM.2.1 dX7_client_58 ?_
        refine lv_iconst (v := (-1)) hM.1 hM.2.1 dX7_client_61 (by decide) ?_
        refine lv_goto hM.1 hM.2.1 dX7_client_62 (tgt := 70) (by decide) ?_
        exact z_iret hM hlk hr rfl hW hS (zF.of (by unfold r_X7_client; rw [oel_s hq_2, oel_n hq_13, pif_pos h_19_0]; first | done | rfl) rfl) dX7_client_70
      by_cases h_19_1 : (y) = (1)
      ·
        refine lv_tableIn hM.1 hM.2.1 dX7_client_19 (by rw [h_19_1]; decide) (by rw [h_19_1]; decide) (off := 52) (by rw [h_19_1]; rfl) (tgt := 71) (by decide) ?_
        refine lv_aload_n hM.1 hM.2.1 dX7_client_71 rfl (lv_at hl 1 rfl) ?_
        refine z_get hM hW zc2 hd_2 rfl 3 (by decide) lf_X7_189 (v := .int (gi S 2 (q2) (3))) rfl dX7_client_72 ?_
        exact z_iret hM hlk hr rfl hW hS (zF.of (by unfold r_X7_client; rw [oel_s hq_2, oel_n hq_13, pif_neg h_19_0, pif_pos h_19_1]; first | done | rfl) rfl) dX7_client_75
      by_cases h_19_2 : (y) = (2)
      ·
        refine lv_tableIn hM.1 hM.2.1 dX7_client_19 (by rw [h_19_2]; decide) (by rw [h_19_2]; decide) (off := 57) (by rw [h_19_2]; rfl) (tgt := 76) (by decide) ?_
        refine lv_aload_n hM.1 hM.2.1 dX7_client_76 rfl (lv_at hl 1 rfl) ?_
        refine z_get hM hW zc2 hd_2 rfl 6 (by decide) lf_X7_77 (v := .int (gi S 2 (q2) (6))) rfl dX7_client_77 ?_
        exact z_iret hM hlk hr rfl hW hS (zF.of (by unfold r_X7_client; rw [oel_s hq_2, oel_n hq_13, pif_neg h_19_0, pif_neg h_19_1, pif_pos h_19_2]; first | done | rfl) rfl) dX7_client_80
      by_cases h_19_3 : (y) = (3)
      ·
        refine lv_tableIn hM.1 hM.2.1 dX7_client_19 (by rw [h_19_3]; decide) (by rw [h_19_3]; decide) (off := 62) (by rw [h_19_3]; rfl) (tgt := 81) (by decide) ?_
        refine lv_aload_n hM.1 hM.2.1 dX7_client_81 rfl (lv_at hl 1 rfl) ?_
        refine z_get hM hW zc2 hd_2 rfl 7 (by decide) lf_X7_80 (v := .int (gi S 2 (q2) (7))) rfl dX7_client_82 ?_
        exact z_iret hM hlk hr rfl hW hS (zF.of (by unfold r_X7_client; rw [oel_s hq_2, oel_n hq_13, pif_neg h_19_0, pif_neg h_19_1, pif_neg h_19_2, pif_pos h_19_3]; first | done | rfl) rfl) dX7_client_85
      by_cases h_19_4 : (y) = (4)
      ·
        refine lv_tableIn hM.1 hM.2.1 dX7_client_19 (by rw [h_19_4]; decide) (by rw [h_19_4]; decide) (off := 67) (by rw [h_19_4]; rfl) (tgt := 86) (by decide) ?_
        refine lv_aload_n hM.1 hM.2.1 dX7_client_86 rfl (lv_at hl 1 rfl) ?_
        refine z_get hM hW zc2 hd_2 rfl 8 (by decide) lf_X7_171 (v := .int (gi S 2 (q2) (8))) rfl dX7_client_87 ?_
        exact z_iret hM hlk hr rfl hW hS (zF.of (by unfold r_X7_client; rw [oel_s hq_2, oel_n hq_13, pif_neg h_19_0, pif_neg h_19_1, pif_neg h_19_2, pif_neg h_19_3, pif_pos h_19_4]; first | done | rfl) rfl) dX7_client_90
      by_cases h_19_5 : (y) = (5)
      ·
        refine lv_tableIn hM.1 hM.2.1 dX7_client_19 (by rw [h_19_5]; decide) (by rw [h_19_5]; decide) (off := 72) (by rw [h_19_5]; rfl) (tgt := 91) (by decide) ?_
        refine lv_aload_n hM.1 hM.2.1 dX7_client_91 rfl (lv_at hl 1 rfl) ?_
        refine z_get hM hW zc2 hd_2 rfl 5 (by decide) lf_X7_192 (v := .int (gi S 2 (q2) (5))) rfl dX7_client_92 ?_
        exact z_iret hM hlk hr rfl hW hS (zF.of (by unfold r_X7_client; rw [oel_s hq_2, oel_n hq_13, pif_neg h_19_0, pif_neg h_19_1, pif_neg h_19_2, pif_neg h_19_3, pif_neg h_19_4, pif_pos h_19_5]; first | done | rfl) rfl) dX7_client_95
      refine lv_tableOut hM.1 hM.2.1 dX7_client_19 (by have n0 : Int32.toInt (y) ≠ 0 := fun q => h_19_0 (Int32.toInt_inj.mp (by rw [q]; rfl)); have n1 : Int32.toInt (y) ≠ 1 := fun q => h_19_1 (Int32.toInt_inj.mp (by rw [q]; rfl)); have n2 : Int32.toInt (y) ≠ 2 := fun q => h_19_2 (Int32.toInt_inj.mp (by rw [q]; rfl)); have n3 : Int32.toInt (y) ≠ 3 := fun q => h_19_3 (Int32.toInt_inj.mp (by rw [q]; rfl)); have n4 : Int32.toInt (y) ≠ 4 := fun q => h_19_4 (Int32.toInt_inj.mp (by rw [q]; rfl)); have n5 : Int32.toInt (y) ≠ 5 := fun q => h_19_5 (Int32.toInt_inj.mp (by rw [q]; rfl)); omega) (tgt := 96) (by decide) ?_
      refine lv_iconst (v := (-1)) hM.1 hM.2.1 dX7_client_96 (by decide) ?_
      exact z_iret hM hlk hr rfl hW hS (zF.of (by unfold r_X7_client; rw [oel_s hq_2, oel_n hq_13, pif_neg h_19_0, pif_neg h_19_1, pif_neg h_19_2, pif_neg h_19_3, pif_neg h_19_4, pif_neg h_19_5]; first | done | rfl) rfl) dX7_client_97
    ·
      refine z_getr hM hW zc2 hd_2 rfl 2 (by decide) lf_X7_105 (t := 0) (j := a) rfl hq_13 dX7_client_13 (fun hd_13 => ?_)
      refine lv_astore hM.1 hM.2.1 dX7_client_16 hl (by decide) (lv' := [(4, .ref (Z.1 0 (a))), (3, .ref (Z.1 2 (q2))), (0, .ref (Z.1 7 (0))), (1, .int (x)), (2, .int (y))]) rfl (fun ls hl => ?_)
      refine lv_iload_n hM.1 hM.2.1 dX7_client_18 rfl (lv_at hl 4 rfl) ?_
      by_cases h_19_0 : (y) = (0)
      ·
        refine lv_tableIn hM.1 hM.2.1 dX7_client_19 (by rw [h_19_0]; decide) (by rw [h_19_0]; decide) (off := 37) (by rw [h_19_0]; rfl) (tgt := 56) (by decide) ?_
        refine lv_aload hM.1 hM.2.1 dX7_client_56 (lv_at hl 0 rfl) ?_
        refine lv_ifnonnull hM.1 hM.2.1 dX7_client_58 (tgt := 65) (by decide) ?_
        refine lv_aload hM.1 hM.2.1 dX7_client_65 (lv_at hl 0 rfl) ?_
        refine z_get hM hW zc0 hd_13 rfl 0 (by decide) lf_X7_119 (v := .int (gi S 0 (a) (0))) rfl dX7_client_67 ?_
        exact z_iret hM hlk hr rfl hW hS (zF.of (by unfold r_X7_client; rw [oel_s hq_2, oel_s hq_13, pif_pos h_19_0]; first | done | rfl) rfl) dX7_client_70
      by_cases h_19_1 : (y) = (1)
      ·
        refine lv_tableIn hM.1 hM.2.1 dX7_client_19 (by rw [h_19_1]; decide) (by rw [h_19_1]; decide) (off := 52) (by rw [h_19_1]; rfl) (tgt := 71) (by decide) ?_
        refine lv_aload_n hM.1 hM.2.1 dX7_client_71 rfl (lv_at hl 1 rfl) ?_
        refine z_get hM hW zc2 hd_2 rfl 3 (by decide) lf_X7_189 (v := .int (gi S 2 (q2) (3))) rfl dX7_client_72 ?_
        exact z_iret hM hlk hr rfl hW hS (zF.of (by unfold r_X7_client; rw [oel_s hq_2, oel_s hq_13, pif_neg h_19_0, pif_pos h_19_1]; first | done | rfl) rfl) dX7_client_75
      by_cases h_19_2 : (y) = (2)
      ·
        refine lv_tableIn hM.1 hM.2.1 dX7_client_19 (by rw [h_19_2]; decide) (by rw [h_19_2]; decide) (off := 57) (by rw [h_19_2]; rfl) (tgt := 76) (by decide) ?_
        refine lv_aload_n hM.1 hM.2.1 dX7_client_76 rfl (lv_at hl 1 rfl) ?_
        refine z_get hM hW zc2 hd_2 rfl 6 (by decide) lf_X7_77 (v := .int (gi S 2 (q2) (6))) rfl dX7_client_77 ?_
        exact z_iret hM hlk hr rfl hW hS (zF.of (by unfold r_X7_client; rw [oel_s hq_2, oel_s hq_13, pif_neg h_19_0, pif_neg h_19_1, pif_pos h_19_2]; first | done | rfl) rfl) dX7_client_80
      by_cases h_19_3 : (y) = (3)
      ·
        refine lv_tableIn hM.1 hM.2.1 dX7_client_19 (by rw [h_19_3]; decide) (by rw [h_19_3]; decide) (off := 62) (by rw [h_19_3]; rfl) (tgt := 81) (by decide) ?_
        refine lv_aload_n hM.1 hM.2.1 dX7_client_81 rfl (lv_at hl 1 rfl) ?_
        refine z_get hM hW zc2 hd_2 rfl 7 (by decide) lf_X7_80 (v := .int (gi S 2 (q2) (7))) rfl dX7_client_82 ?_
        exact z_iret hM hlk hr rfl hW hS (zF.of (by unfold r_X7_client; rw [oel_s hq_2, oel_s hq_13, pif_neg h_19_0, pif_neg h_19_1, pif_neg h_19_2, pif_pos h_19_3]; first | done | rfl) rfl) dX7_client_85
      by_cases h_19_4 : (y) = (4)
      ·
        refine lv_tableIn hM.1 hM.2.1 dX7_client_19 (by rw [h_19_4]; decide) (by rw [h_19_4]; decide) (off := 67) (by rw [h_19_4]; rfl) (tgt := 86) (by decide) ?_
        refine lv_aload_n hM.1 hM.2.1 dX7_client_86 rfl (lv_at hl 1 rfl) ?_
        refine z_get hM hW zc2 hd_2 rfl 8 (by decide) lf_X7_171 (v := .int (gi S 2 (q2) (8))) rfl dX7_client_87 ?_
        exact z_iret hM hlk hr rfl hW hS (zF.of (by unfold r_X7_client; rw [oel_s hq_2, oel_s hq_13, pif_neg h_19_0, pif_neg h_19_1, pif_neg h_19_2, pif_neg h_19_3, pif_pos h_19_4]; first | done | rfl) rfl) dX7_client_90
      by_cases h_19_5 : (y) = (5)
      ·
        refine lv_tableIn hM.1 hM.2.1 dX7_client_19 (by rw [h_19_5]; decide) (by rw [h_19_5]; decide) (off := 72) (by rw [h_19_5]; rfl) (tgt := 91) (by decide) ?_
        refine lv_aload_n hM.1 hM.2.1 dX7_client_91 rfl (lv_at hl 1 rfl) ?_
        refine z_get hM hW zc2 hd_2 rfl 5 (by decide) lf_X7_192 (v := .int (gi S 2 (q2) (5))) rfl dX7_client_92 ?_
        exact z_iret hM hlk hr rfl hW hS (zF.of (by unfold r_X7_client; rw [oel_s hq_2, oel_s hq_13, pif_neg h_19_0, pif_neg h_19_1, pif_neg h_19_2, pif_neg h_19_3, pif_neg h_19_4, pif_pos h_19_5]; first | done | rfl) rfl) dX7_client_95
      refine lv_tableOut hM.1 hM.2.1 dX7_client_19 (by have n0 : Int32.toInt (y) ≠ 0 := fun q => h_19_0 (Int32.toInt_inj.mp (by rw [q]; rfl)); have n1 : Int32.toInt (y) ≠ 1 := fun q => h_19_1 (Int32.toInt_inj.mp (by rw [q]; rfl)); have n2 : Int32.toInt (y) ≠ 2 := fun q => h_19_2 (Int32.toInt_inj.mp (by rw [q]; rfl)); have n3 : Int32.toInt (y) ≠ 3 := fun q => h_19_3 (Int32.toInt_inj.mp (by rw [q]; rfl)); have n4 : Int32.toInt (y) ≠ 4 := fun q => h_19_4 (Int32.toInt_inj.mp (by rw [q]; rfl)); have n5 : Int32.toInt (y) ≠ 5 := fun q => h_19_5 (Int32.toInt_inj.mp (by rw [q]; rfl)); omega) (tgt := 96) (by decide) ?_
      refine lv_iconst (v := (-1)) hM.1 hM.2.1 dX7_client_96 (by decide) ?_
      exact z_iret hM hlk hr rfl hW hS (zF.of (by unfold r_X7_client; rw [oel_s hq_2, oel_s hq_13, pif_neg h_19_0, pif_neg h_19_1, pif_neg h_19_2, pif_neg h_19_3, pif_neg h_19_4, pif_neg h_19_5]; first | done | rfl) rfl) dX7_client_97

noncomputable def r_X7_air (S : zS) (n : Nat) (x y : Int32) : Int32 := 
  (oel (r_X1_at S (pmR S.2.2) (x)) ((-1)) (fun q5 => 
    (pif ((y) = (0)) 
      (pif ((gi S 4 (q5) (1)) = (0)) (0) (1)) 
      (pif ((y) = (1)) (gi S 4 (q5) (2)) 
        (pif ((y) = (2)) (gi S 4 (q5) (3)) 
          (pif ((y) = (3)) (gi S 4 (q5) (4)) 
            (pif ((y) = (4)) (gi S 4 (q5) (5)) 
              (pif ((y) = (5)) (gi S 6 (20 + q5) (0)) 
                (pif ((y) = (6)) (gi S 6 (20 + q5) (1)) 
                  (pif ((y) = (7)) (gi S 4 (q5) (8)) 
                    (pif ((y) = (8)) (gi S 4 (q5) (6)) ((-1)))))))))))))
set_option maxHeartbeats 4000000 in
set_option maxRecDepth 100000 in
theorem c_X7_air {l : Launch} {D : va_G} {ar : Nat → ClassId} {A : Nat → Prop} {Z : zZ} {S : zS} {n : Nat} {x y : Int32} (hV : zV n Z S.2.2)  : zMet l yX7_air prog_1_method_18_code 4 (some .int) ({ frames := 1, cells := 0, slots := 0, locals := 21 } : Room) D ar A Z S [.ref (Z.1 7 (0)), .int (x), .int (y)] rvI (zF (r_X7_air S n x y) Z S) := by
  refine z_body (by decide +kernel) (Nat.le_of_ble_eq_true rfl) ?_
  intro pX eX sX mX bX methX cX ls hM hr hlk hml hin hl hW hlo
  have hM : zM pX cX mX _ sX prog_1_method_18_code RX7 D ar := hM
  have hS : va_S A sX.heap sX.heap [] := va_S.rf
  have hl : lv_has ls 4 [(0, .ref (Z.1 7 (0))), (1, .int (x)), (2, .int (y))] := hl
  refine lv_aload_n hM.1 hM.2.1 dX7_air_0 rfl (lv_at hl 0 rfl) ?_
  refine z_getr hM hW zc7 hV.d7 rfl 4 (by decide) lf_X7_65 (t := 1) (j := 0) rfl hV.r74 dX7_air_1 (fun hd1_1 => ?_)
  refine lv_iload_n hM.1 hM.2.1 dX7_air_4 rfl (lv_at hl 1 rfl) ?_
  refine z_Vr hM (hml.trans hl.1.symm) hW hS hlo zc1 hd1_1 rfl zyX1_at lm_X7_122 li_yX1_at le_yX1_at (As := [.int (x)]) (rest := []) (c_X1_at hV.d1 hV.r10 hV.l15 hV.pm) rfl rfl (Nat.le_of_ble_eq_true rfl) ⟨Nat.le_of_ble_eq_true rfl, Nat.le_of_ble_eq_true rfl⟩ ⟨Nat.le_of_ble_eq_true rfl, Nat.le_of_ble_eq_true rfl⟩ dX7_air_5 (fun H locs hW hS => ?_)
  rcases hq_5 : r_X1_at S (pmR S.2.2) (x) with _ | q5
  ·
    refine lv_astore_nN hM.1 hM.2.1 dX7_air_8 rfl hl (by decide) (lv' := [(3, .null), (0, .ref (Z.1 7 (0))), (1, .int (x)), (2, .int (y))]) rfl (fun ls hl => ?_)
    refine lv_aload_nN hM.1 hM.2.1 dX7_air_9 rfl (lv_at hl 0 rfl) ?_
    refine lv_ifnonnullN hM.1 hM.2.1 dX7_air_10 ?_
    refine lv_iconst (v := (-1)) hM.1 hM.2.1 dX7_air_13 (by decide) ?_
    exact z_iret hM hlk hr rfl hW hS (zF.of (by unfold r_X7_air; rw [oel_n hq_5]; first | done | rfl) rfl) dX7_air_14
  ·
    obtain ⟨he_5, hb_5⟩ := rAt_some hV hq_5
    have hd_5 := hV.d4 hb_5
    refine lv_astore_n hM.1 hM.2.1 dX7_air_8 rfl hl (by decide) (lv' := [(3, .ref (Z.1 4 (q5))), (0, .ref (Z.1 7 (0))), (1, .int (x)), (2, .int (y))]) rfl (fun ls hl => ?_)
    refine lv_aload_n hM.1 hM.2.1 dX7_air_9 rfl (lv_at hl 0 rfl) ?_
    refine lv_ifnonnull hM.1 hM.2.1 dX7_air_10 (tgt := 15) (by decide) ?_
    refine lv_iload_n hM.1 hM.2.1 dX7_air_15 rfl (lv_at hl 3 rfl) ?_
    by_cases h_16_0 : (y) = (0)
    ·
      refine lv_tableIn hM.1 hM.2.1 dX7_air_16 (by rw [h_16_0]; decide) (by rw [h_16_0]; decide) (off := 52) (by rw [h_16_0]; rfl) (tgt := 68) (by decide) ?_
      refine lv_aload_n hM.1 hM.2.1 dX7_air_68 rfl (lv_at hl 0 rfl) ?_
      refine z_get hM hW zc4 hd_5 rfl 1 (by decide) lf_X7_134 (v := .int (gi S 4 (q5) (1))) rfl dX7_air_69 ?_
      refine lv_if_eq hM.1 hM.2.1 dX7_air_72 (tgt := 79) (by decide) (fun h_72 => ?_) (fun h_72 => ?_)
      ·
        refine lv_iconst (v := 0) hM.1 hM.2.1 dX7_air_79 (by decide) ?_
        exact z_iret hM hlk hr rfl hW hS (zF.of (by unfold r_X7_air; rw [oel_s hq_5, pif_pos h_16_0, pif_pos h_72]; first | done | rfl) rfl) dX7_air_80
      ·
        refine lv_iconst (v := 1) hM.1 hM.2.1 dX7_air_75 (by decide) ?_
        refine lv_goto hM.1 hM.2.1 dX7_air_76 (tgt := 80) (by decide) ?_
        exact z_iret hM hlk hr rfl hW hS (zF.of (by unfold r_X7_air; rw [oel_s hq_5, pif_pos h_16_0, pif_neg h_72]; first | done | rfl) rfl) dX7_air_80
    by_cases h_16_1 : (y) = (1)
    ·
      refine lv_tableIn hM.1 hM.2.1 dX7_air_16 (by rw [h_16_1]; decide) (by rw [h_16_1]; decide) (off := 65) (by rw [h_16_1]; rfl) (tgt := 81) (by decide) ?_
      refine lv_aload_n hM.1 hM.2.1 dX7_air_81 rfl (lv_at hl 0 rfl) ?_
      refine z_get hM hW zc4 hd_5 rfl 2 (by decide) lf_X7_195 (v := .int (gi S 4 (q5) (2))) rfl dX7_air_82 ?_
      exact z_iret hM hlk hr rfl hW hS (zF.of (by unfold r_X7_air; rw [oel_s hq_5, pif_neg h_16_0, pif_pos h_16_1]; first | done | rfl) rfl) dX7_air_85
    by_cases h_16_2 : (y) = (2)
    ·
      refine lv_tableIn hM.1 hM.2.1 dX7_air_16 (by rw [h_16_2]; decide) (by rw [h_16_2]; decide) (off := 70) (by rw [h_16_2]; rfl) (tgt := 86) (by decide) ?_
      refine lv_aload_n hM.1 hM.2.1 dX7_air_86 rfl (lv_at hl 0 rfl) ?_
      refine z_get hM hW zc4 hd_5 rfl 3 (by decide) lf_X7_198 (v := .int (gi S 4 (q5) (3))) rfl dX7_air_87 ?_
      exact z_iret hM hlk hr rfl hW hS (zF.of (by unfold r_X7_air; rw [oel_s hq_5, pif_neg h_16_0, pif_neg h_16_1, pif_pos h_16_2]; first | done | rfl) rfl) dX7_air_90
    by_cases h_16_3 : (y) = (3)
    ·
      refine lv_tableIn hM.1 hM.2.1 dX7_air_16 (by rw [h_16_3]; decide) (by rw [h_16_3]; decide) (off := 75) (by rw [h_16_3]; rfl) (tgt := 91) (by decide) ?_
      refine lv_aload_n hM.1 hM.2.1 dX7_air_91 rfl (lv_at hl 0 rfl) ?_
      refine z_get hM hW zc4 hd_5 rfl 4 (by decide) lf_X7_201 (v := .int (gi S 4 (q5) (4))) rfl dX7_air_92 ?_
      exact z_iret hM hlk hr rfl hW hS (zF.of (by unfold r_X7_air; rw [oel_s hq_5, pif_neg h_16_0, pif_neg h_16_1, pif_neg h_16_2, pif_pos h_16_3]; first | done | rfl) rfl) dX7_air_95
    by_cases h_16_4 : (y) = (4)
    ·
      refine lv_tableIn hM.1 hM.2.1 dX7_air_16 (by rw [h_16_4]; decide) (by rw [h_16_4]; decide) (off := 80) (by rw [h_16_4]; rfl) (tgt := 96) (by decide) ?_
      refine lv_aload_n hM.1 hM.2.1 dX7_air_96 rfl (lv_at hl 0 rfl) ?_
      refine z_get hM hW zc4 hd_5 rfl 5 (by decide) lf_X7_204 (v := .int (gi S 4 (q5) (5))) rfl dX7_air_97 ?_
      exact z_iret hM hlk hr rfl hW hS (zF.of (by unfold r_X7_air; rw [oel_s hq_5, pif_neg h_16_0, pif_neg h_16_1, pif_neg h_16_2, pif_neg h_16_3, pif_pos h_16_4]; first | done | rfl) rfl) dX7_air_100
    by_cases h_16_5 : (y) = (5)
    ·
      refine lv_tableIn hM.1 hM.2.1 dX7_air_16 (by rw [h_16_5]; decide) (by rw [h_16_5]; decide) (off := 85) (by rw [h_16_5]; rfl) (tgt := 101) (by decide) ?_
      refine lv_aload_n hM.1 hM.2.1 dX7_air_101 rfl (lv_at hl 0 rfl) ?_
      refine z_getr hM hW zc4 hd_5 rfl 0 (by decide) lf_X7_205 (t := 6) (j := 20 + q5) rfl (hV.r4 hb_5) dX7_air_102 (fun hd2_102 => ?_)
      refine z_get hM hW zc6 hd2_102 rfl 0 (by decide) lf_X7_176 (v := .int (gi S 6 (20 + q5) (0))) rfl dX7_air_105 ?_
      exact z_iret hM hlk hr rfl hW hS (zF.of (by unfold r_X7_air; rw [oel_s hq_5, pif_neg h_16_0, pif_neg h_16_1, pif_neg h_16_2, pif_neg h_16_3, pif_neg h_16_4, pif_pos h_16_5]; first | done | rfl) rfl) dX7_air_108
    by_cases h_16_6 : (y) = (6)
    ·
      refine lv_tableIn hM.1 hM.2.1 dX7_air_16 (by rw [h_16_6]; decide) (by rw [h_16_6]; decide) (off := 93) (by rw [h_16_6]; rfl) (tgt := 109) (by decide) ?_
      refine lv_aload_n hM.1 hM.2.1 dX7_air_109 rfl (lv_at hl 0 rfl) ?_
      refine z_getr hM hW zc4 hd_5 rfl 0 (by decide) lf_X7_205 (t := 6) (j := 20 + q5) rfl (hV.r4 hb_5) dX7_air_110 (fun hd3_110 => ?_)
      refine z_get hM hW zc6 hd3_110 rfl 1 (by decide) lf_X7_181 (v := .int (gi S 6 (20 + q5) (1))) rfl dX7_air_113 ?_
      exact z_iret hM hlk hr rfl hW hS (zF.of (by unfold r_X7_air; rw [oel_s hq_5, pif_neg h_16_0, pif_neg h_16_1, pif_neg h_16_2, pif_neg h_16_3, pif_neg h_16_4, pif_neg h_16_5, pif_pos h_16_6]; first | done | rfl) rfl) dX7_air_116
    by_cases h_16_7 : (y) = (7)
    ·
      refine lv_tableIn hM.1 hM.2.1 dX7_air_16 (by rw [h_16_7]; decide) (by rw [h_16_7]; decide) (off := 101) (by rw [h_16_7]; rfl) (tgt := 117) (by decide) ?_
      refine lv_aload_n hM.1 hM.2.1 dX7_air_117 rfl (lv_at hl 0 rfl) ?_
      refine z_get hM hW zc4 hd_5 rfl 8 (by decide) lf_X7_206 (v := .int (gi S 4 (q5) (8))) rfl dX7_air_118 ?_
      exact z_iret hM hlk hr rfl hW hS (zF.of (by unfold r_X7_air; rw [oel_s hq_5, pif_neg h_16_0, pif_neg h_16_1, pif_neg h_16_2, pif_neg h_16_3, pif_neg h_16_4, pif_neg h_16_5, pif_neg h_16_6, pif_pos h_16_7]; first | done | rfl) rfl) dX7_air_121
    by_cases h_16_8 : (y) = (8)
    ·
      refine lv_tableIn hM.1 hM.2.1 dX7_air_16 (by rw [h_16_8]; decide) (by rw [h_16_8]; decide) (off := 106) (by rw [h_16_8]; rfl) (tgt := 122) (by decide) ?_
      refine lv_aload_n hM.1 hM.2.1 dX7_air_122 rfl (lv_at hl 0 rfl) ?_
      refine z_get hM hW zc4 hd_5 rfl 6 (by decide) lf_X7_207 (v := .int (gi S 4 (q5) (6))) rfl dX7_air_123 ?_
      exact z_iret hM hlk hr rfl hW hS (zF.of (by unfold r_X7_air; rw [oel_s hq_5, pif_neg h_16_0, pif_neg h_16_1, pif_neg h_16_2, pif_neg h_16_3, pif_neg h_16_4, pif_neg h_16_5, pif_neg h_16_6, pif_neg h_16_7, pif_pos h_16_8]; first | done | rfl) rfl) dX7_air_126
    refine lv_tableOut hM.1 hM.2.1 dX7_air_16 (by have n0 : Int32.toInt (y) ≠ 0 := fun q => h_16_0 (Int32.toInt_inj.mp (by rw [q]; rfl)); have n1 : Int32.toInt (y) ≠ 1 := fun q => h_16_1 (Int32.toInt_inj.mp (by rw [q]; rfl)); have n2 : Int32.toInt (y) ≠ 2 := fun q => h_16_2 (Int32.toInt_inj.mp (by rw [q]; rfl)); have n3 : Int32.toInt (y) ≠ 3 := fun q => h_16_3 (Int32.toInt_inj.mp (by rw [q]; rfl)); have n4 : Int32.toInt (y) ≠ 4 := fun q => h_16_4 (Int32.toInt_inj.mp (by rw [q]; rfl)); have n5 : Int32.toInt (y) ≠ 5 := fun q => h_16_5 (Int32.toInt_inj.mp (by rw [q]; rfl)); have n6 : Int32.toInt (y) ≠ 6 := fun q => h_16_6 (Int32.toInt_inj.mp (by rw [q]; rfl)); have n7 : Int32.toInt (y) ≠ 7 := fun q => h_16_7 (Int32.toInt_inj.mp (by rw [q]; rfl)); have n8 : Int32.toInt (y) ≠ 8 := fun q => h_16_8 (Int32.toInt_inj.mp (by rw [q]; rfl)); omega) (tgt := 127) (by decide) ?_
    refine lv_iconst (v := (-1)) hM.1 hM.2.1 dX7_air_127 (by decide) ?_
    exact z_iret hM hlk hr rfl hW hS (zF.of (by unfold r_X7_air; rw [oel_s hq_5, pif_neg h_16_0, pif_neg h_16_1, pif_neg h_16_2, pif_neg h_16_3, pif_neg h_16_4, pif_neg h_16_5, pif_neg h_16_6, pif_neg h_16_7, pif_neg h_16_8]; first | done | rfl) rfl) dX7_air_128

noncomputable def r_X7_act (S : zS) (n : Nat) (x y : Int32) : Int32 := 
  (oel (acAt S (x)) ((-1)) (fun q2 => 
    (pif ((y) = (0)) (gi S 0 (q2) (1)) 
      (pif ((y) = (1)) (gi S 0 (q2) (2)) 
        (pif ((y) = (2)) (gi S 0 (q2) (3)) 
          (pif ((y) = (3)) (gi S 0 (q2) (4)) 
            (pif ((y) = (4)) (gi S 0 (q2) (5)) 
              (pif ((y) = (5)) (gi S 0 (q2) (6)) 
                (pif ((y) = (6)) (gi S 0 (q2) (7)) ((-1)))))))))))
set_option maxHeartbeats 4000000 in
set_option maxRecDepth 100000 in
theorem c_X7_act {l : Launch} {D : va_G} {ar : Nat → ClassId} {A : Nat → Prop} {Z : zZ} {S : zS} {n : Nat} {x y : Int32} (hV : zV n Z S.2.2)  : zMet l yX7_act prog_1_method_19_code 4 (some .int) ({ frames := 1, cells := 0, slots := 0, locals := 21 } : Room) D ar A Z S [.ref (Z.1 7 (0)), .int (x), .int (y)] rvI (zF (r_X7_act S n x y) Z S) := by
  refine z_body (by decide +kernel) (Nat.le_of_ble_eq_true rfl) ?_
  intro pX eX sX mX bX methX cX ls hM hr hlk hml hin hl hW hlo
  have hM : zM pX cX mX _ sX prog_1_method_19_code RX7 D ar := hM
  have hS : va_S A sX.heap sX.heap [] := va_S.rf
  have hl : lv_has ls 4 [(0, .ref (Z.1 7 (0))), (1, .int (x)), (2, .int (y))] := hl
  refine lv_aload_n hM.1 hM.2.1 dX7_act_0 rfl (lv_at hl 0 rfl) ?_
  refine lv_iload_n hM.1 hM.2.1 dX7_act_1 rfl (lv_at hl 1 rfl) ?_
  refine z_Vr hM (hml.trans hl.1.symm) hW hS hlo zc7 hV.d7 rfl zyX7_actAt lm_X7_210 li_yX7_actAt le_yX7_actAt (As := [.int (x)]) (rest := []) (c_X7_actAt hV) rfl rfl (Nat.le_of_ble_eq_true rfl) ⟨Nat.le_of_ble_eq_true rfl, Nat.le_of_ble_eq_true rfl⟩ ⟨Nat.le_of_ble_eq_true rfl, Nat.le_of_ble_eq_true rfl⟩ dX7_act_2 (fun H locs hW hS => ?_)
  rcases hq_2 : acAt S (x) with _ | q2
  ·
    refine lv_astore_nN hM.1 hM.2.1 dX7_act_5 rfl hl (by decide) (lv' := [(3, .null), (0, .ref (Z.1 7 (0))), (1, .int (x)), (2, .int (y))]) rfl (fun ls hl => ?_)
    refine lv_aload_nN hM.1 hM.2.1 dX7_act_6 rfl (lv_at hl 0 rfl) ?_
    refine lv_ifnonnullN hM.1 hM.2.1 dX7_act_7 ?_
    refine lv_iconst (v := (-1)) hM.1 hM.2.1 dX7_act_10 (by decide) ?_
    exact z_iret hM hlk hr rfl hW hS (zF.of (by unfold r_X7_act; rw [oel_n hq_2]; first | done | rfl) rfl) dX7_act_11
  ·
    have hd_2 := acAt_dom hV hq_2
    refine lv_astore_n hM.1 hM.2.1 dX7_act_5 rfl hl (by decide) (lv' := [(3, .ref (Z.1 0 (q2))), (0, .ref (Z.1 7 (0))), (1, .int (x)), (2, .int (y))]) rfl (fun ls hl => ?_)
    refine lv_aload_n hM.1 hM.2.1 dX7_act_6 rfl (lv_at hl 0 rfl) ?_
    refine lv_ifnonnull hM.1 hM.2.1 dX7_act_7 (tgt := 12) (by decide) ?_
    refine lv_iload_n hM.1 hM.2.1 dX7_act_12 rfl (lv_at hl 3 rfl) ?_
    by_cases h_13_0 : (y) = (0)
    ·
      refine lv_tableIn hM.1 hM.2.1 dX7_act_13 (by rw [h_13_0]; decide) (by rw [h_13_0]; decide) (off := 43) (by rw [h_13_0]; rfl) (tgt := 56) (by decide) ?_
      refine lv_aload_n hM.1 hM.2.1 dX7_act_56 rfl (lv_at hl 0 rfl) ?_
      refine z_get hM hW zc0 hd_2 rfl 1 (by decide) lf_X7_214 (v := .int (gi S 0 (q2) (1))) rfl dX7_act_57 ?_
      exact z_iret hM hlk hr rfl hW hS (zF.of (by unfold r_X7_act; rw [oel_s hq_2, pif_pos h_13_0]; first | done | rfl) rfl) dX7_act_60
    by_cases h_13_1 : (y) = (1)
    ·
      refine lv_tableIn hM.1 hM.2.1 dX7_act_13 (by rw [h_13_1]; decide) (by rw [h_13_1]; decide) (off := 48) (by rw [h_13_1]; rfl) (tgt := 61) (by decide) ?_
      refine lv_aload_n hM.1 hM.2.1 dX7_act_61 rfl (lv_at hl 0 rfl) ?_
      refine z_get hM hW zc0 hd_2 rfl 2 (by decide) lf_X7_217 (v := .int (gi S 0 (q2) (2))) rfl dX7_act_62 ?_
      exact z_iret hM hlk hr rfl hW hS (zF.of (by unfold r_X7_act; rw [oel_s hq_2, pif_neg h_13_0, pif_pos h_13_1]; first | done | rfl) rfl) dX7_act_65
    by_cases h_13_2 : (y) = (2)
    ·
      refine lv_tableIn hM.1 hM.2.1 dX7_act_13 (by rw [h_13_2]; decide) (by rw [h_13_2]; decide) (off := 53) (by rw [h_13_2]; rfl) (tgt := 66) (by decide) ?_
      refine lv_aload_n hM.1 hM.2.1 dX7_act_66 rfl (lv_at hl 0 rfl) ?_
      refine z_get hM hW zc0 hd_2 rfl 3 (by decide) lf_X7_218 (v := .int (gi S 0 (q2) (3))) rfl dX7_act_67 ?_
      exact z_iret hM hlk hr rfl hW hS (zF.of (by unfold r_X7_act; rw [oel_s hq_2, pif_neg h_13_0, pif_neg h_13_1, pif_pos h_13_2]; first | done | rfl) rfl) dX7_act_70
    by_cases h_13_3 : (y) = (3)
    ·
      refine lv_tableIn hM.1 hM.2.1 dX7_act_13 (by rw [h_13_3]; decide) (by rw [h_13_3]; decide) (off := 58) (by rw [h_13_3]; rfl) (tgt := 71) (by decide) ?_
      refine lv_aload_n hM.1 hM.2.1 dX7_act_71 rfl (lv_at hl 0 rfl) ?_
      refine z_get hM hW zc0 hd_2 rfl 4 (by decide) lf_X7_221 (v := .int (gi S 0 (q2) (4))) rfl dX7_act_72 ?_
      exact z_iret hM hlk hr rfl hW hS (zF.of (by unfold r_X7_act; rw [oel_s hq_2, pif_neg h_13_0, pif_neg h_13_1, pif_neg h_13_2, pif_pos h_13_3]; first | done | rfl) rfl) dX7_act_75
    by_cases h_13_4 : (y) = (4)
    ·
      refine lv_tableIn hM.1 hM.2.1 dX7_act_13 (by rw [h_13_4]; decide) (by rw [h_13_4]; decide) (off := 63) (by rw [h_13_4]; rfl) (tgt := 76) (by decide) ?_
      refine lv_aload_n hM.1 hM.2.1 dX7_act_76 rfl (lv_at hl 0 rfl) ?_
      refine z_get hM hW zc0 hd_2 rfl 5 (by decide) lf_X7_224 (v := .int (gi S 0 (q2) (5))) rfl dX7_act_77 ?_
      exact z_iret hM hlk hr rfl hW hS (zF.of (by unfold r_X7_act; rw [oel_s hq_2, pif_neg h_13_0, pif_neg h_13_1, pif_neg h_13_2, pif_neg h_13_3, pif_pos h_13_4]; first | done | rfl) rfl) dX7_act_80
    by_cases h_13_5 : (y) = (5)
    ·
      refine lv_tableIn hM.1 hM.2.1 dX7_act_13 (by rw [h_13_5]; decide) (by rw [h_13_5]; decide) (off := 68) (by rw [h_13_5]; rfl) (tgt := 81) (by decide) ?_
      refine lv_aload_n hM.1 hM.2.1 dX7_act_81 rfl (lv_at hl 0 rfl) ?_
      refine z_get hM hW zc0 hd_2 rfl 6 (by decide) lf_X7_225 (v := .int (gi S 0 (q2) (6))) rfl dX7_act_82 ?_
      exact z_iret hM hlk hr rfl hW hS (zF.of (by unfold r_X7_act; rw [oel_s hq_2, pif_neg h_13_0, pif_neg h_13_1, pif_neg h_13_2, pif_neg h_13_3, pif_neg h_13_4, pif_pos h_13_5]; first | done | rfl) rfl) dX7_act_85
    by_cases h_13_6 : (y) = (6)
    ·
      refine lv_tableIn hM.1 hM.2.1 dX7_act_13 (by rw [h_13_6]; decide) (by rw [h_13_6]; decide) (off := 73) (by rw [h_13_6]; rfl) (tgt := 86) (by decide) ?_
      refine lv_aload_n hM.1 hM.2.1 dX7_act_86 rfl (lv_at hl 0 rfl) ?_
      refine z_get hM hW zc0 hd_2 rfl 7 (by decide) lf_X7_226 (v := .int (gi S 0 (q2) (7))) rfl dX7_act_87 ?_
      exact z_iret hM hlk hr rfl hW hS (zF.of (by unfold r_X7_act; rw [oel_s hq_2, pif_neg h_13_0, pif_neg h_13_1, pif_neg h_13_2, pif_neg h_13_3, pif_neg h_13_4, pif_neg h_13_5, pif_pos h_13_6]; first | done | rfl) rfl) dX7_act_90
    refine lv_tableOut hM.1 hM.2.1 dX7_act_13 (by have n0 : Int32.toInt (y) ≠ 0 := fun q => h_13_0 (Int32.toInt_inj.mp (by rw [q]; rfl)); have n1 : Int32.toInt (y) ≠ 1 := fun q => h_13_1 (Int32.toInt_inj.mp (by rw [q]; rfl)); have n2 : Int32.toInt (y) ≠ 2 := fun q => h_13_2 (Int32.toInt_inj.mp (by rw [q]; rfl)); have n3 : Int32.toInt (y) ≠ 3 := fun q => h_13_3 (Int32.toInt_inj.mp (by rw [q]; rfl)); have n4 : Int32.toInt (y) ≠ 4 := fun q => h_13_4 (Int32.toInt_inj.mp (by rw [q]; rfl)); have n5 : Int32.toInt (y) ≠ 5 := fun q => h_13_5 (Int32.toInt_inj.mp (by rw [q]; rfl)); have n6 : Int32.toInt (y) ≠ 6 := fun q => h_13_6 (Int32.toInt_inj.mp (by rw [q]; rfl)); omega) (tgt := 91) (by decide) ?_
    refine lv_iconst (v := (-1)) hM.1 hM.2.1 dX7_act_91 (by decide) ?_
    exact z_iret hM hlk hr rfl hW hS (zF.of (by unfold r_X7_act; rw [oel_s hq_2, pif_neg h_13_0, pif_neg h_13_1, pif_neg h_13_2, pif_neg h_13_3, pif_neg h_13_4, pif_neg h_13_5, pif_neg h_13_6]; first | done | rfl) rfl) dX7_act_92

noncomputable def r_X7_value (S : zS) (n : Nat) (x : Int32) : Int64 := 
  (oel (acAt S (x)) (0) (fun q2 => (gj S 0 (q2) (8))))
set_option maxHeartbeats 4000000 in
set_option maxRecDepth 100000 in
theorem c_X7_value {l : Launch} {D : va_G} {ar : Nat → ClassId} {A : Nat → Prop} {Z : zZ} {S : zS} {n : Nat} {x : Int32} (hV : zV n Z S.2.2)  : zMet l yX7_value prog_1_method_20_code 3 (some .long) ({ frames := 1, cells := 0, slots := 0, locals := 21 } : Room) D ar A Z S [.ref (Z.1 7 (0)), .int (x)] rvL (zF (r_X7_value S n x) Z S) := by
  refine z_body (by decide +kernel) (Nat.le_of_ble_eq_true rfl) ?_
  intro pX eX sX mX bX methX cX ls hM hr hlk hml hin hl hW hlo
  have hM : zM pX cX mX _ sX prog_1_method_20_code RX7 D ar := hM
  have hS : va_S A sX.heap sX.heap [] := va_S.rf
  have hl : lv_has ls 3 [(0, .ref (Z.1 7 (0))), (1, .int (x))] := hl
  refine lv_aload_n hM.1 hM.2.1 dX7_value_0 rfl (lv_at hl 0 rfl) ?_
  refine lv_iload_n hM.1 hM.2.1 dX7_value_1 rfl (lv_at hl 1 rfl) ?_
  refine z_Vr hM (hml.trans hl.1.symm) hW hS hlo zc7 hV.d7 rfl zyX7_actAt lm_X7_210 li_yX7_actAt le_yX7_actAt (As := [.int (x)]) (rest := []) (c_X7_actAt hV) rfl rfl (Nat.le_of_ble_eq_true rfl) ⟨Nat.le_of_ble_eq_true rfl, Nat.le_of_ble_eq_true rfl⟩ ⟨Nat.le_of_ble_eq_true rfl, Nat.le_of_ble_eq_true rfl⟩ dX7_value_2 (fun H locs hW hS => ?_)
  rcases hq_2 : acAt S (x) with _ | q2
  ·
    refine lv_astore_nN hM.1 hM.2.1 dX7_value_5 rfl hl (by decide) (lv' := [(2, .null), (0, .ref (Z.1 7 (0))), (1, .int (x))]) rfl (fun ls hl => ?_)
    refine lv_aload_nN hM.1 hM.2.1 dX7_value_6 rfl (lv_at hl 0 rfl) ?_
    refine lv_ifnonnullN hM.1 hM.2.1 dX7_value_7 ?_
    refine lv_lconst (v := 0) hM.1 hM.2.1 dX7_value_10 (by decide) ?_
    refine lv_goto hM.1 hM.2.1 dX7_value_11 (tgt := 18) (by decide) ?_
    exact z_lret hM hlk hr hW hS (zF.of (by unfold r_X7_value; rw [oel_n hq_2]; first | done | rfl) rfl) dX7_value_18
  ·
    have hd_2 := acAt_dom hV hq_2
    refine lv_astore_n hM.1 hM.2.1 dX7_value_5 rfl hl (by decide) (lv' := [(2, .ref (Z.1 0 (q2))), (0, .ref (Z.1 7 (0))), (1, .int (x))]) rfl (fun ls hl => ?_)
    refine lv_aload_n hM.1 hM.2.1 dX7_value_6 rfl (lv_at hl 0 rfl) ?_
    refine lv_ifnonnull hM.1 hM.2.1 dX7_value_7 (tgt := 14) (by decide) ?_
    refine lv_aload_n hM.1 hM.2.1 dX7_value_14 rfl (lv_at hl 0 rfl) ?_
    refine z_get hM hW zc0 hd_2 rfl 8 (by decide) lf_X7_101 (v := .long (gj S 0 (q2) (8))) rfl dX7_value_15 ?_
    exact z_lret hM hlk hr hW hS (zF.of (by unfold r_X7_value; rw [oel_s hq_2]; first | done | rfl) rfl) dX7_value_18

noncomputable def r_X7_table (S : zS) (n : Nat) (x y : Int32) : Int32 := 
  (oel (tbAt S (x)) ((-1)) (fun q2 => 
    (pif ((y) < (0)) 
      (pif ((y) = (7)) (gi S 5 (q2) (1)) 
        (pif ((y) = (8)) (gi S 5 (q2) (2)) ((-1)))) 
      (pif ((nI n) ≤ (y)) 
        (pif ((y) = (7)) (gi S 5 (q2) (1)) 
          (pif ((y) = (8)) (gi S 5 (q2) (2)) ((-1)))) (gi S 9 (1 + q2) (ix (y)))))))
set_option maxHeartbeats 4000000 in
set_option maxRecDepth 100000 in
theorem c_X7_table {l : Launch} {D : va_G} {ar : Nat → ClassId} {A : Nat → Prop} {Z : zZ} {S : zS} {n : Nat} {x y : Int32} (hV : zV n Z S.2.2)  : zMet l yX7_table prog_1_method_21_code 4 (some .int) ({ frames := 1, cells := 0, slots := 0, locals := 21 } : Room) D ar A Z S [.ref (Z.1 7 (0)), .int (x), .int (y)] rvI (zF (r_X7_table S n x y) Z S) := by
  refine z_body (by decide +kernel) (Nat.le_of_ble_eq_true rfl) ?_
  intro pX eX sX mX bX methX cX ls hM hr hlk hml hin hl hW hlo
  have hM : zM pX cX mX _ sX prog_1_method_21_code RX7 D ar := hM
  have hS : va_S A sX.heap sX.heap [] := va_S.rf
  have hl : lv_has ls 4 [(0, .ref (Z.1 7 (0))), (1, .int (x)), (2, .int (y))] := hl
  refine lv_aload_n hM.1 hM.2.1 dX7_table_0 rfl (lv_at hl 0 rfl) ?_
  refine lv_iload_n hM.1 hM.2.1 dX7_table_1 rfl (lv_at hl 1 rfl) ?_
  refine z_Vr hM (hml.trans hl.1.symm) hW hS hlo zc7 hV.d7 rfl zyX7_tableAt lm_X7_229 li_yX7_tableAt le_yX7_tableAt (As := [.int (x)]) (rest := []) (c_X7_tableAt hV) rfl rfl (Nat.le_of_ble_eq_true rfl) ⟨Nat.le_of_ble_eq_true rfl, Nat.le_of_ble_eq_true rfl⟩ ⟨Nat.le_of_ble_eq_true rfl, Nat.le_of_ble_eq_true rfl⟩ dX7_table_2 (fun H locs hW hS => ?_)
  rcases hq_2 : tbAt S (x) with _ | q2
  ·
    refine lv_astore_nN hM.1 hM.2.1 dX7_table_5 rfl hl (by decide) (lv' := [(3, .null), (0, .ref (Z.1 7 (0))), (1, .int (x)), (2, .int (y))]) rfl (fun ls hl => ?_)
    refine lv_aload_nN hM.1 hM.2.1 dX7_table_6 rfl (lv_at hl 0 rfl) ?_
    refine lv_ifnonnullN hM.1 hM.2.1 dX7_table_7 ?_
    refine lv_iconst (v := (-1)) hM.1 hM.2.1 dX7_table_10 (by decide) ?_
    exact z_iret hM hlk hr rfl hW hS (zF.of (by unfold r_X7_table; rw [oel_n hq_2]; first | done | rfl) rfl) dX7_table_11
  ·
    obtain ⟨he_2, hb_2, hd_2, hr5_2, hl9_2⟩ := tbAt_some hV hq_2
    refine lv_astore_n hM.1 hM.2.1 dX7_table_5 rfl hl (by decide) (lv' := [(3, .ref (Z.1 5 (q2))), (0, .ref (Z.1 7 (0))), (1, .int (x)), (2, .int (y))]) rfl (fun ls hl => ?_)
    refine lv_aload_n hM.1 hM.2.1 dX7_table_6 rfl (lv_at hl 0 rfl) ?_
    refine lv_ifnonnull hM.1 hM.2.1 dX7_table_7 (tgt := 12) (by decide) ?_
    refine lv_iload_n hM.1 hM.2.1 dX7_table_12 rfl (lv_at hl 3 rfl) ?_
    refine lv_if_lt hM.1 hM.2.1 dX7_table_13 (tgt := 32) (by decide) (fun h_13 => ?_) (fun h_13 => ?_)
    ·
      refine lv_iload_n hM.1 hM.2.1 dX7_table_32 rfl (lv_at hl 3 rfl) ?_
      by_cases h_33_7 : (y) = (7)
      ·
        refine lv_lookup hM.1 hM.2.1 dX7_table_33 (by decide) (off := 27) (by rw [h_33_7]; decide) (tgt := 60) (by decide) ?_
        refine lv_aload_n hM.1 hM.2.1 dX7_table_60 rfl (lv_at hl 0 rfl) ?_
        refine z_get hM hW zc5 hd_2 rfl 1 (by decide) lf_X7_236 (v := .int (gi S 5 (q2) (1))) rfl dX7_table_61 ?_
        exact z_iret hM hlk hr rfl hW hS (zF.of (by unfold r_X7_table; rw [oel_s hq_2, pif_pos h_13, pif_pos h_33_7]; first | done | rfl) rfl) dX7_table_64
      by_cases h_33_8 : (y) = (8)
      ·
        refine lv_lookup hM.1 hM.2.1 dX7_table_33 (by decide) (off := 32) (by rw [h_33_8]; decide) (tgt := 65) (by decide) ?_
        refine lv_aload_n hM.1 hM.2.1 dX7_table_65 rfl (lv_at hl 0 rfl) ?_
        refine z_get hM hW zc5 hd_2 rfl 2 (by decide) lf_X7_239 (v := .int (gi S 5 (q2) (2))) rfl dX7_table_66 ?_
        exact z_iret hM hlk hr rfl hW hS (zF.of (by unfold r_X7_table; rw [oel_s hq_2, pif_pos h_13, pif_neg h_33_7, pif_pos h_33_8]; first | done | rfl) rfl) dX7_table_69
      refine lv_lookup hM.1 hM.2.1 dX7_table_33 (by decide) (off := 37) (by have n7 : Int32.toInt (y) ≠ 7 := fun q => h_33_7 (Int32.toInt_inj.mp (by rw [q]; rfl)); have n8 : Int32.toInt (y) ≠ 8 := fun q => h_33_8 (Int32.toInt_inj.mp (by rw [q]; rfl)); simp [Op.lookupswitch.offset, Ne.symm n7, Ne.symm n8]) (tgt := 70) (by decide) ?_
      refine lv_iconst (v := (-1)) hM.1 hM.2.1 dX7_table_70 (by decide) ?_
      exact z_iret hM hlk hr rfl hW hS (zF.of (by unfold r_X7_table; rw [oel_s hq_2, pif_pos h_13, pif_neg h_33_7, pif_neg h_33_8]; first | done | rfl) rfl) dX7_table_71
    ·
      refine lv_iload_n hM.1 hM.2.1 dX7_table_16 rfl (lv_at hl 3 rfl) ?_
      refine lv_aload_n hM.1 hM.2.1 dX7_table_17 rfl (lv_at hl 0 rfl) ?_
      refine z_getr hM hW zc5 hd_2 rfl 0 (by decide) lf_X7_233 (t := 9) (j := 1 + q2) rfl hr5_2 dX7_table_18 (fun hd1_18 => ?_)
      refine z_alen hM hW hd1_18 (by decide) rfl 0 rfl (v := nI n) (by rw [hl9_2]; rfl) dX7_table_21 ?_
      refine lv_icmp_ge hM.1 hM.2.1 dX7_table_22 (tgt := 32) (by decide) (fun h_22 => ?_) (fun h_22 => ?_)
      ·
        refine lv_iload_n hM.1 hM.2.1 dX7_table_32 rfl (lv_at hl 3 rfl) ?_
        by_cases h_33_7 : (y) = (7)
        ·
          refine lv_lookup hM.1 hM.2.1 dX7_table_33 (by decide) (off := 27) (by rw [h_33_7]; decide) (tgt := 60) (by decide) ?_
          refine lv_aload_n hM.1 hM.2.1 dX7_table_60 rfl (lv_at hl 0 rfl) ?_
          refine z_get hM hW zc5 hd_2 rfl 1 (by decide) lf_X7_236 (v := .int (gi S 5 (q2) (1))) rfl dX7_table_61 ?_
          exact z_iret hM hlk hr rfl hW hS (zF.of (by unfold r_X7_table; rw [oel_s hq_2, pif_neg h_13, pif_pos h_22, pif_pos h_33_7]; first | done | rfl) rfl) dX7_table_64
        by_cases h_33_8 : (y) = (8)
        ·
          refine lv_lookup hM.1 hM.2.1 dX7_table_33 (by decide) (off := 32) (by rw [h_33_8]; decide) (tgt := 65) (by decide) ?_
          refine lv_aload_n hM.1 hM.2.1 dX7_table_65 rfl (lv_at hl 0 rfl) ?_
          refine z_get hM hW zc5 hd_2 rfl 2 (by decide) lf_X7_239 (v := .int (gi S 5 (q2) (2))) rfl dX7_table_66 ?_
          exact z_iret hM hlk hr rfl hW hS (zF.of (by unfold r_X7_table; rw [oel_s hq_2, pif_neg h_13, pif_pos h_22, pif_neg h_33_7, pif_pos h_33_8]; first | done | rfl) rfl) dX7_table_69
        refine lv_lookup hM.1 hM.2.1 dX7_table_33 (by decide) (off := 37) (by have n7 : Int32.toInt (y) ≠ 7 := fun q => h_33_7 (Int32.toInt_inj.mp (by rw [q]; rfl)); have n8 : Int32.toInt (y) ≠ 8 := fun q => h_33_8 (Int32.toInt_inj.mp (by rw [q]; rfl)); simp [Op.lookupswitch.offset, Ne.symm n7, Ne.symm n8]) (tgt := 70) (by decide) ?_
        refine lv_iconst (v := (-1)) hM.1 hM.2.1 dX7_table_70 (by decide) ?_
        exact z_iret hM hlk hr rfl hW hS (zF.of (by unfold r_X7_table; rw [oel_s hq_2, pif_neg h_13, pif_pos h_22, pif_neg h_33_7, pif_neg h_33_8]; first | done | rfl) rfl) dX7_table_71
      ·
        refine lv_aload_n hM.1 hM.2.1 dX7_table_25 rfl (lv_at hl 0 rfl) ?_
        refine z_getr hM hW zc5 hd_2 rfl 0 (by decide) lf_X7_233 (t := 9) (j := 1 + q2) rfl hr5_2 dX7_table_26 (fun hd2_26 => ?_)
        refine lv_iload_n hM.1 hM.2.1 dX7_table_29 rfl (lv_at hl 3 rfl) ?_
        refine z_iald hM hW hd2_26 rfl (vin_of h_13 h_22 (by have := hV.n7; omega) hl9_2) (v := gi S 9 (1 + q2) (ix (y))) rfl dX7_table_30 ?_
        exact z_iret hM hlk hr rfl hW hS (zF.of (by unfold r_X7_table; rw [oel_s hq_2, pif_neg h_13, pif_neg h_22]; first | done | rfl) rfl) dX7_table_31

noncomputable def r_X7_about (S : zS) (n : Nat) (x : Int32) : Int32 := 
  (pif ((x) = (0)) (nI n) 
    (pif ((x) = (1)) (gi S 7 (0) (6)) 
      (pif ((x) = (2)) (gi S 7 (0) (7)) 
        (pif ((x) = (3)) (gi S 1 (0) (2)) 
          (pif ((x) = (4)) (gi S 7 (0) (8)) 
            (pif ((x) = (5)) (gi S 1 (0) (3)) ((-1))))))))
set_option maxHeartbeats 4000000 in
set_option maxRecDepth 100000 in
theorem c_X7_about {l : Launch} {D : va_G} {ar : Nat → ClassId} {A : Nat → Prop} {Z : zZ} {S : zS} {n : Nat} {x : Int32} (hV : zV n Z S.2.2)  : zMet l yX7_about prog_1_method_22_code 2 (some .int) ({ frames := 0, cells := 0, slots := 0, locals := 0 } : Room) D ar A Z S [.ref (Z.1 7 (0)), .int (x)] rvI (zF (r_X7_about S n x) Z S) := by
  refine z_body (by decide +kernel) (Nat.le_of_ble_eq_true rfl) ?_
  intro pX eX sX mX bX methX cX ls hM hr hlk hml hin hl hW hlo
  have hM : zM pX cX mX _ sX prog_1_method_22_code RX7 D ar := hM
  have hS : va_S A sX.heap sX.heap [] := va_S.rf
  have hl : lv_has ls 2 [(0, .ref (Z.1 7 (0))), (1, .int (x))] := hl
  refine lv_iload_n hM.1 hM.2.1 dX7_about_0 rfl (lv_at hl 1 rfl) ?_
  by_cases h_1_0 : (x) = (0)
  ·
    refine lv_tableIn hM.1 hM.2.1 dX7_about_1 (by rw [h_1_0]; decide) (by rw [h_1_0]; decide) (off := 39) (by rw [h_1_0]; rfl) (tgt := 40) (by decide) ?_
    refine lv_aload_n hM.1 hM.2.1 dX7_about_40 rfl (lv_at hl 0 rfl) ?_
    refine z_getr hM hW zc7 hV.d7 rfl 0 (by decide) lf_X7_20 (t := 14) (j := 0) rfl hV.r70 dX7_about_41 (fun hd1_41 => ?_)
    refine z_alen hM hW hd1_41 (by decide) rfl 5 rfl (v := nI n) (by rw [hV.l14]; rfl) dX7_about_44 ?_
    exact z_iret hM hlk hr rfl hW hS (zF.of (by unfold r_X7_about; rw [pif_pos h_1_0]; first | done | rfl) rfl) dX7_about_45
  by_cases h_1_1 : (x) = (1)
  ·
    refine lv_tableIn hM.1 hM.2.1 dX7_about_1 (by rw [h_1_1]; decide) (by rw [h_1_1]; decide) (off := 45) (by rw [h_1_1]; rfl) (tgt := 46) (by decide) ?_
    refine lv_aload_n hM.1 hM.2.1 dX7_about_46 rfl (lv_at hl 0 rfl) ?_
    refine z_get hM hW zc7 hV.d7 rfl 6 (by decide) lf_X7_52 (v := .int (gi S 7 (0) (6))) rfl dX7_about_47 ?_
    exact z_iret hM hlk hr rfl hW hS (zF.of (by unfold r_X7_about; rw [pif_neg h_1_0, pif_pos h_1_1]; first | done | rfl) rfl) dX7_about_50
  by_cases h_1_2 : (x) = (2)
  ·
    refine lv_tableIn hM.1 hM.2.1 dX7_about_1 (by rw [h_1_2]; decide) (by rw [h_1_2]; decide) (off := 50) (by rw [h_1_2]; rfl) (tgt := 51) (by decide) ?_
    refine lv_aload_n hM.1 hM.2.1 dX7_about_51 rfl (lv_at hl 0 rfl) ?_
    refine z_get hM hW zc7 hV.d7 rfl 7 (by decide) lf_X7_91 (v := .int (gi S 7 (0) (7))) rfl dX7_about_52 ?_
    exact z_iret hM hlk hr rfl hW hS (zF.of (by unfold r_X7_about; rw [pif_neg h_1_0, pif_neg h_1_1, pif_pos h_1_2]; first | done | rfl) rfl) dX7_about_55
  by_cases h_1_3 : (x) = (3)
  ·
    refine lv_tableIn hM.1 hM.2.1 dX7_about_1 (by rw [h_1_3]; decide) (by rw [h_1_3]; decide) (off := 55) (by rw [h_1_3]; rfl) (tgt := 56) (by decide) ?_
    refine lv_aload_n hM.1 hM.2.1 dX7_about_56 rfl (lv_at hl 0 rfl) ?_
    refine z_getr hM hW zc7 hV.d7 rfl 4 (by decide) lf_X7_65 (t := 1) (j := 0) rfl hV.r74 dX7_about_57 (fun hd2_57 => ?_)
    refine z_get hM hW zc1 hd2_57 rfl 2 (by decide) lf_X7_148 (v := .int (gi S 1 (0) (2))) rfl dX7_about_60 ?_
    exact z_iret hM hlk hr rfl hW hS (zF.of (by unfold r_X7_about; rw [pif_neg h_1_0, pif_neg h_1_1, pif_neg h_1_2, pif_pos h_1_3]; first | done | rfl) rfl) dX7_about_63
  by_cases h_1_4 : (x) = (4)
  ·
    refine lv_tableIn hM.1 hM.2.1 dX7_about_1 (by rw [h_1_4]; decide) (by rw [h_1_4]; decide) (off := 63) (by rw [h_1_4]; rfl) (tgt := 64) (by decide) ?_
    refine lv_aload_n hM.1 hM.2.1 dX7_about_64 rfl (lv_at hl 0 rfl) ?_
    refine z_get hM hW zc7 hV.d7 rfl 8 (by decide) lf_X7_113 (v := .int (gi S 7 (0) (8))) rfl dX7_about_65 ?_
    exact z_iret hM hlk hr rfl hW hS (zF.of (by unfold r_X7_about; rw [pif_neg h_1_0, pif_neg h_1_1, pif_neg h_1_2, pif_neg h_1_3, pif_pos h_1_4]; first | done | rfl) rfl) dX7_about_68
  by_cases h_1_5 : (x) = (5)
  ·
    refine lv_tableIn hM.1 hM.2.1 dX7_about_1 (by rw [h_1_5]; decide) (by rw [h_1_5]; decide) (off := 68) (by rw [h_1_5]; rfl) (tgt := 69) (by decide) ?_
    refine lv_aload_n hM.1 hM.2.1 dX7_about_69 rfl (lv_at hl 0 rfl) ?_
    refine z_getr hM hW zc7 hV.d7 rfl 4 (by decide) lf_X7_65 (t := 1) (j := 0) rfl hV.r74 dX7_about_70 (fun hd3_70 => ?_)
    refine z_get hM hW zc1 hd3_70 rfl 3 (by decide) lf_X7_242 (v := .int (gi S 1 (0) (3))) rfl dX7_about_73 ?_
    exact z_iret hM hlk hr rfl hW hS (zF.of (by unfold r_X7_about; rw [pif_neg h_1_0, pif_neg h_1_1, pif_neg h_1_2, pif_neg h_1_3, pif_neg h_1_4, pif_pos h_1_5]; first | done | rfl) rfl) dX7_about_76
  refine lv_tableOut hM.1 hM.2.1 dX7_about_1 (by have n0 : Int32.toInt (x) ≠ 0 := fun q => h_1_0 (Int32.toInt_inj.mp (by rw [q]; rfl)); have n1 : Int32.toInt (x) ≠ 1 := fun q => h_1_1 (Int32.toInt_inj.mp (by rw [q]; rfl)); have n2 : Int32.toInt (x) ≠ 2 := fun q => h_1_2 (Int32.toInt_inj.mp (by rw [q]; rfl)); have n3 : Int32.toInt (x) ≠ 3 := fun q => h_1_3 (Int32.toInt_inj.mp (by rw [q]; rfl)); have n4 : Int32.toInt (x) ≠ 4 := fun q => h_1_4 (Int32.toInt_inj.mp (by rw [q]; rfl)); have n5 : Int32.toInt (x) ≠ 5 := fun q => h_1_5 (Int32.toInt_inj.mp (by rw [q]; rfl)); omega) (tgt := 77) (by decide) ?_
  refine lv_iconst (v := (-1)) hM.1 hM.2.1 dX7_about_77 (by decide) ?_
  exact z_iret hM hlk hr rfl hW hS (zF.of (by unfold r_X7_about; rw [pif_neg h_1_0, pif_neg h_1_1, pif_neg h_1_2, pif_neg h_1_3, pif_neg h_1_4, pif_neg h_1_5]; first | done | rfl) rfl) dX7_about_78

noncomputable def r_X7_halt (S : zS) (n : Nat) (x : Int32) : Int32 := 
  (oel (atI 4 (x)) ((-1)) (fun q2 => 
    (oel (gr S 2 q2 2) ((-1)) (fun a => (gi (s_X2_rest (si S 7 (0) (8) ((gi S 7 (0) (8)) + (1))) (q2)) 0 (a) (0))))))
noncomputable def s_X7_halt (S : zS) (n : Nat) (x : Int32) : zS := 
  (oel (atI 4 (x)) (S) (fun q2 => 
    (oel (gr S 2 q2 2) (S) (fun a => ((s_X2_rest (si S 7 (0) (8) ((gi S 7 (0) (8)) + (1))) (q2)))))))
set_option maxHeartbeats 4000000 in
set_option maxRecDepth 100000 in
theorem c_X7_halt {l : Launch} {D : va_G} {ar : Nat → ClassId} {A : Nat → Prop} {Z : zZ} {S : zS} {n : Nat} {x : Int32} (hV : zV n Z S.2.2)  : zMet l yX7_halt prog_1_method_8_code 4 (some .int) ({ frames := 1, cells := 0, slots := 0, locals := 21 } : Room) D ar A Z S [.ref (Z.1 7 (0)), .int (x)] rvI (zF (r_X7_halt S n x) Z (s_X7_halt S n x)) := by
  refine z_body (by decide +kernel) (Nat.le_of_ble_eq_true rfl) ?_
  intro pX eX sX mX bX methX cX ls hM hr hlk hml hin hl hW hlo
  have hM : zM pX cX mX _ sX prog_1_method_8_code RX7 D ar := hM
  have hS : va_S A sX.heap sX.heap [] := va_S.rf
  have hl : lv_has ls 4 [(0, .ref (Z.1 7 (0))), (1, .int (x))] := hl
  refine lv_aload_n hM.1 hM.2.1 dX7_halt_0 rfl (lv_at hl 0 rfl) ?_
  refine lv_iload_n hM.1 hM.2.1 dX7_halt_1 rfl (lv_at hl 1 rfl) ?_
  refine z_Vr hM (hml.trans hl.1.symm) hW hS hlo zc7 hV.d7 rfl zyX7_clientAt lm_X7_69 li_yX7_clientAt le_yX7_clientAt (As := [.int (x)]) (rest := []) (c_X7_clientAt hV) rfl rfl (Nat.le_of_ble_eq_true rfl) ⟨Nat.le_of_ble_eq_true rfl, Nat.le_of_ble_eq_true rfl⟩ ⟨Nat.le_of_ble_eq_true rfl, Nat.le_of_ble_eq_true rfl⟩ dX7_halt_2 (fun H locs hW hS => ?_)
  rcases hq_2 : atI 4 (x) with _ | q2
  ·
    refine lv_astore_nN hM.1 hM.2.1 dX7_halt_5 rfl hl (by decide) (lv' := [(2, .null), (0, .ref (Z.1 7 (0))), (1, .int (x))]) rfl (fun ls hl => ?_)
    refine lv_aload_nN hM.1 hM.2.1 dX7_halt_6 rfl (lv_at hl 0 rfl) ?_
    refine lv_ifnonnullN hM.1 hM.2.1 dX7_halt_7 ?_
    refine lv_iconst (v := (-1)) hM.1 hM.2.1 dX7_halt_10 (by decide) ?_
    exact z_iret hM hlk hr rfl hW hS (zF.of (by unfold r_X7_halt; rw [oel_n hq_2]; first | done | rfl) (by unfold s_X7_halt; rw [oel_n hq_2]; first | done | rfl)) dX7_halt_11
  ·
    obtain ⟨he_2, hb_2, hn0_2, hn1_2⟩ := atI_some (by decide) hq_2
    have hd_2 := hV.d2 hb_2
    refine lv_astore_n hM.1 hM.2.1 dX7_halt_5 rfl hl (by decide) (lv' := [(2, .ref (Z.1 2 (q2))), (0, .ref (Z.1 7 (0))), (1, .int (x))]) rfl (fun ls hl => ?_)
    refine lv_aload_n hM.1 hM.2.1 dX7_halt_6 rfl (lv_at hl 0 rfl) ?_
    refine lv_ifnonnull hM.1 hM.2.1 dX7_halt_7 (tgt := 12) (by decide) ?_
    refine lv_aload_n hM.1 hM.2.1 dX7_halt_12 rfl (lv_at hl 0 rfl) ?_
    rcases hq_13 : gr S 2 q2 2 with _ | a
    ·
      refine z_get hM hW zc2 hd_2 rfl 2 (by decide) lf_X7_105 (v := .null) (by simp [zv, zvt, zk, zrv, hq_13]) dX7_halt_13 ?_
      refine lv_astore_nN hM.1 hM.2.1 dX7_halt_16 rfl hl (by decide) (lv' := [(3, .null), (2, .ref (Z.1 2 (q2))), (0, .ref (Z.1 7 (0))), (1, .int (x))]) rfl (fun ls hl => ?_)
      refine lv_aload_nN hM.1 hM.2.1 dX7_halt_17 rfl (lv_at hl 0 rfl) ?_
      refine lv_ifnonnullN hM.1 hM.2.1 dX7_halt_18 ?_
      refine lv_iconst (v := (-1)) hM.1 hM.2.1 dX7_halt_21 (by decide) ?_
      exact z_iret hM hlk hr rfl hW hS (zF.of (by unfold r_X7_halt; rw [oel_s hq_2, oel_n hq_13]; first | done | rfl) (by unfold s_X7_halt; rw [oel_s hq_2, oel_n hq_13]; first | done | rfl)) dX7_halt_22
    ·
      refine z_getr hM hW zc2 hd_2 rfl 2 (by decide) lf_X7_105 (t := 0) (j := a) rfl hq_13 dX7_halt_13 (fun hd_13 => ?_)
      refine lv_astore_n hM.1 hM.2.1 dX7_halt_16 rfl hl (by decide) (lv' := [(3, .ref (Z.1 0 (a))), (2, .ref (Z.1 2 (q2))), (0, .ref (Z.1 7 (0))), (1, .int (x))]) rfl (fun ls hl => ?_)
      refine lv_aload_n hM.1 hM.2.1 dX7_halt_17 rfl (lv_at hl 0 rfl) ?_
      refine lv_ifnonnull hM.1 hM.2.1 dX7_halt_18 (tgt := 23) (by decide) ?_
      refine lv_aload_n hM.1 hM.2.1 dX7_halt_23 rfl (lv_at hl 2 rfl) ?_
      refine lv_dup hM.1 hM.2.1 dX7_halt_24 rfl ?_
      refine z_get hM hW zc7 hV.d7 rfl 8 (by decide) lf_X7_113 (v := .int (gi S 7 (0) (8))) rfl dX7_halt_25 ?_
      refine lv_iconst (v := 1) hM.1 hM.2.1 dX7_halt_28 (by decide) ?_
      refine lv_iadd hM.1 hM.2.1 dX7_halt_29 ?_
      refine z_puti hM hW hS zc7 hV.d7 rfl 8 (by decide) rfl lf_X7_113 (Or.inl rfl) (tyX7 8) (tyX7_ok 8 (by decide)) rfl rfl dX7_halt_30 (fun H locs hW hS => ?_)
      refine lv_aload_n hM.1 hM.2.1 dX7_halt_33 rfl (lv_at hl 1 rfl) ?_
      refine z_Vv hM (hml.trans hl.1.symm) hW hS hlo zc2 hd_2 rfl zyX2_rest lm_X7_116 li_yX2_rest le_yX2_rest (As := []) (rest := []) (c_X2_rest hd_2) rfl rfl (Nat.le_of_ble_eq_true rfl) ⟨Nat.le_of_ble_eq_true rfl, Nat.le_of_ble_eq_true rfl⟩ ⟨Nat.le_of_ble_eq_true rfl, Nat.le_of_ble_eq_true rfl⟩ dX7_halt_34 (fun H locs hW hS => ?_)
      refine lv_aload_n hM.1 hM.2.1 dX7_halt_37 rfl (lv_at hl 0 rfl) ?_
      refine z_get hM hW zc0 hd_13 rfl 0 (by decide) lf_X7_119 (v := .int (gi (s_X2_rest (si S 7 (0) (8) ((gi S 7 (0) (8)) + (1))) (q2)) 0 (a) (0))) rfl dX7_halt_38 ?_
      exact z_iret hM hlk hr rfl hW hS (zF.of (by unfold r_X7_halt; rw [oel_s hq_2, oel_s hq_13]; first | done | rfl) (by unfold s_X7_halt; rw [oel_s hq_2, oel_s hq_13]; first | done | rfl)) dX7_halt_41
