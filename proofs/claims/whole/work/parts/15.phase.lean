theorem hc0_send {S : zS} {n c a : Nat} {x : Int32} (hc0 : ¬ gi S 1 0 2 < 0) : ¬ gi (s_X7_sendRequest S n c a x) 1 0 2 < 0 := by
  unfold s_X7_sendRequest
  by_cases h : gi S 1 0 2 < 300
  · have e := inc300 hc0 h
    simp only [pif_pos h, gi_pif, s_X6_set, s_X6_put, gi_sj]
    simp only [gi_si]
    simp [pif_same, e]
  · rw [pif_neg h, gi_si]
    simp [hc0]
/-- requests to those that have not answered, from k on -/
noncomputable def lSend (n c a : Nat) : Nat → Nat → zS → Int32 → zS × Int32
  | 0, _, T, r => (T, r)
  | f + 1, k, T, r => pif ((r_X2_hasAnswerOf T (c) (nI k)) = (0)) (lSend n c a f (k + 1) (s_X7_sendRequest T n (c) (a) (nI k)) (r + 1)) (lSend n c a f (k + 1) T r)
noncomputable def s_X7_sendRequests (S : zS) (n c a : Nat) : zS := (lSend n c a n 0 S 0).1
noncomputable def r_X7_sendRequests (S : zS) (n c a : Nat) : Int32 := (lSend n c a n 0 S 0).2
theorem lSend_keep {n c a : Nat} : ∀ (f k : Nat) (T : zS) (r : Int32), (lSend n c a f k T r).1.2.2 = T.2.2 ∧ (¬ gi T 1 0 2 < 0 → ¬ gi (lSend n c a f k T r).1 1 0 2 < 0) := by
  intro f
  induction f with
  | zero => intro k T r; exact ⟨rfl, fun h => h⟩
  | succ f ih =>
    intro k T r
    by_cases h : (r_X2_hasAnswerOf T (c) (nI k)) = (0)
    · have e : lSend n c a (f + 1) k T r = lSend n c a f (k + 1) (s_X7_sendRequest T n (c) (a) (nI k)) (r + 1) := by show pif _ _ _ = _; rw [pif_pos h]
      rw [e]
      exact ⟨(ih _ _ _).1.trans k_X7_sendRequest, fun q => (ih _ _ _).2 (hc0_send q)⟩
    · have e : lSend n c a (f + 1) k T r = lSend n c a f (k + 1) T r := by show pif _ _ _ = _; rw [pif_neg h]
      rw [e]
      exact ih _ _ _
theorem k_X7_sendRequests {S : zS} {n c a : Nat} : (s_X7_sendRequests S n c a).2.2 = S.2.2 := (lSend_keep _ _ _ _).1
theorem hc0_sends {S : zS} {n c a : Nat} (h : ¬ gi S 1 0 2 < 0) : ¬ gi (s_X7_sendRequests S n c a) 1 0 2 < 0 := (lSend_keep _ _ _ _).2 h
theorem gi_obey {S : zS} {c j : Nat} {i f : Nat} : gi (s_X3_obey S c j) 1 i f = gi S 1 i f := by
  unfold s_X3_obey
  simp only [gi_pif, s_X6_set, gi_sj]
  simp only [gi_si]
  simp [pif_same]
theorem gi_obey4 {S : zS} {c j : Nat} {i f : Nat} : gi (s_X3_obey S c j) 4 i f = gi S 4 i f := by
  unfold s_X3_obey
  simp only [gi_pif, s_X6_set, gi_sj]
  simp only [gi_si]
  simp [pif_same]
theorem k_X3_obey {S : zS} {c j : Nat} : (s_X3_obey S c j).2.2 = S.2.2 := by
  unfold s_X3_obey
  simp only [pif_22, k_si, k_sj, k_X6_set, pif_same]
set_option maxHeartbeats 400000 in
set_option maxRecDepth 100000 in
theorem c_X7_sendRequests {l : Launch} {D : va_G} {ar : Nat → ClassId} {A : Nat → Prop} {Z : zZ} {S : zS} {n c a : Nat} (hV : zV n Z S.2.2) (hc : c < 4) (ha : Z.2.1 0 a) (hc0 : ¬ gi S 1 0 2 < 0) : zMet l yX7_sendRequests prog_1_method_31_code 5 (some .int) ({ frames := 2, cells := 0, slots := 0, locals := 49 } : Room) D ar A Z S [.ref (Z.1 7 (0)), .ref (Z.1 2 (c)), .ref (Z.1 0 (a))] rvI (zF (r_X7_sendRequests S n c a) Z (s_X7_sendRequests S n c a)) := by
  refine z_body (by decide +kernel) (Nat.le_of_ble_eq_true rfl) ?_
  intro pX eX sX mX bX methX cX ls hM hr hlk hml hin hl hW hlo
  have hM : zM pX cX mX _ sX prog_1_method_31_code RX7 D ar := hM
  have hS : va_S A sX.heap sX.heap [] := va_S.rf
  have hl : lv_has ls 5 [(0, .ref (Z.1 7 (0))), (1, .ref (Z.1 2 (c))), (2, .ref (Z.1 0 (a)))] := hl
  have loop : ∀ (f k : Nat) (T : zS) (r : Int32) (ls : Array Slot) (H : Heap) (locs : List Loc), k + f = n → lSend n c a f k T r = lSend n c a n 0 S 0 → T.2.2 = S.2.2 → ¬ gi T 1 0 2 < 0 → lv_has ls 5 [(4, .int (nI k)), (3, .int (r)), (0, .ref (Z.1 7 (0))), (1, .ref (Z.1 2 (c))), (2, .ref (Z.1 0 (a)))] → zW D ar A Z T H → va_S A sX.heap H locs → W pX l eX ({ frames := 2, cells := 0, slots := 0, locals := 49 } : Room) sX mX ([.ref (Z.1 7 (0)), .ref (Z.1 2 (c)), .ref (Z.1 0 (a))] : List Value).toArray bX methX cX H locs 0 0 (MQ bX (zQ D ar A rvI (zF (r_X7_sendRequests S n c a) Z (s_X7_sendRequests S n c a))) ([.ref (Z.1 7 (0)), .ref (Z.1 2 (c)), .ref (Z.1 0 (a))] : List Value).toArray sX 0 0 A) (F0 mX 5 ls []) := by
    intro f
    induction f with
    | zero =>
      intro k T r ls H locs hk hE hT hT0 hl hW hS
      have hc9 : nI n ≤ nI k := by rw [show k = n by omega]; exact Int32.le_refl _
      refine lv_iload hM.1 hM.2.1 dX7_sendRequests_5 (lv_at hl 0 rfl) ?_
      refine lv_aload_n hM.1 hM.2.1 dX7_sendRequests_7 rfl (lv_at hl 2 rfl) ?_
      refine z_getr hM hW zc7 hV.d7 rfl 0 (by decide) lf_X7_20 (t := 14) (j := 0) rfl ((gr_of hT).trans hV.r70) dX7_sendRequests_8 (fun hd1_8 => ?_)
      refine z_alen hM hW hd1_8 (by decide) rfl 5 rfl (v := nI n) (by rw [hV.l14]; rfl) dX7_sendRequests_11 ?_
      refine lv_icmp_ge hM.1 hM.2.1 dX7_sendRequests_12 (tgt := 41) (by decide) (fun _ => ?_) (fun h => absurd hc9 h)
      refine lv_iload_n hM.1 hM.2.1 dX7_sendRequests_41 rfl (lv_at hl 1 rfl) ?_
      exact z_iret hM hlk hr rfl hW hS (zF.of (by unfold r_X7_sendRequests; rw [← hE]; rfl) (by unfold s_X7_sendRequests; rw [← hE]; rfl)) dX7_sendRequests_42
    | succ f ih =>
      intro k T r ls H locs hk hE hT hT0 hl hW hS
      have hc9 : ¬ nI n ≤ nI k := nI_ge (by omega) (by have := hV.n7; omega)
      refine lv_iload hM.1 hM.2.1 dX7_sendRequests_5 (lv_at hl 0 rfl) ?_
      refine lv_aload_n hM.1 hM.2.1 dX7_sendRequests_7 rfl (lv_at hl 2 rfl) ?_
      refine z_getr hM hW zc7 hV.d7 rfl 0 (by decide) lf_X7_20 (t := 14) (j := 0) rfl ((gr_of hT).trans hV.r70) dX7_sendRequests_8 (fun hd2_8 => ?_)
      refine z_alen hM hW hd2_8 (by decide) rfl 5 rfl (v := nI n) (by rw [hV.l14]; rfl) dX7_sendRequests_11 ?_
      refine lv_icmp_ge hM.1 hM.2.1 dX7_sendRequests_12 (tgt := 41) (by decide) (fun h => absurd h hc9) (fun _ => ?_)
      refine lv_aload_n hM.1 hM.2.1 dX7_sendRequests_15 rfl (lv_at hl 3 rfl) ?_
      refine lv_iload hM.1 hM.2.1 dX7_sendRequests_16 (lv_at hl 0 rfl) ?_
      refine z_Vi hM (hml.trans hl.1.symm) hW hS hlo zc2 (hV.d2 hc) rfl zyX2_hasAnswerOf lm_X7_256 li_yX2_hasAnswerOf le_yX2_hasAnswerOf (As := [.int (nI k)]) (rest := []) (c_X2_hasAnswerOf (hV.d2 hc)) rfl rfl (Nat.le_of_ble_eq_true rfl) ⟨Nat.le_of_ble_eq_true rfl, Nat.le_of_ble_eq_true rfl⟩ ⟨Nat.le_of_ble_eq_true rfl, Nat.le_of_ble_eq_true rfl⟩ dX7_sendRequests_18 (fun H locs hW hS => ?_)
      refine lv_if_ne hM.1 hM.2.1 dX7_sendRequests_21 (tgt := 35) (by decide) (fun h_21 => ?_) (fun h_21 => ?_)
      ·
        refine lv_iinc hM.1 hM.2.1 dX7_sendRequests_35 hl (k := 0) rfl (v := nI (k + 1)) (nI_succ _).symm (by decide) (lv' := [(4, .int (nI (k + 1))), (3, .int (r)), (0, .ref (Z.1 7 (0))), (1, .ref (Z.1 2 (c))), (2, .ref (Z.1 0 (a)))]) rfl (fun ls hl => ?_)
        refine lv_goto hM.1 hM.2.1 dX7_sendRequests_38 (tgt := 5) (by decide) ?_
        exact ih (k + 1) _ _ ls H locs (by omega) (by rw [show lSend n c a (f + 1) k T r = pif _ _ _ from rfl, pif_neg h_21] at hE; exact hE) hT hT0 hl hW hS
      ·
        refine lv_aload_n hM.1 hM.2.1 dX7_sendRequests_24 rfl (lv_at hl 2 rfl) ?_
        refine lv_aload_n hM.1 hM.2.1 dX7_sendRequests_25 rfl (lv_at hl 3 rfl) ?_
        refine lv_aload_n hM.1 hM.2.1 dX7_sendRequests_26 rfl (lv_at hl 4 rfl) ?_
        refine lv_iload hM.1 hM.2.1 dX7_sendRequests_27 (lv_at hl 0 rfl) ?_
        refine z_Vv hM (hml.trans hl.1.symm) hW hS hlo zc7 hV.d7 rfl zyX7_sendRequest lm_X7_259 li_yX7_sendRequest le_yX7_sendRequest (As := [.ref (Z.1 2 (c)), .ref (Z.1 0 (a)), .int (nI k)]) (rest := []) (c_X7_sendRequest (hV.of hT) hc ha hT0) rfl rfl (Nat.le_of_ble_eq_true rfl) ⟨Nat.le_of_ble_eq_true rfl, Nat.le_of_ble_eq_true rfl⟩ ⟨Nat.le_of_ble_eq_true rfl, Nat.le_of_ble_eq_true rfl⟩ dX7_sendRequests_29 (fun H locs hW hS => ?_)
        obtain ⟨B1, hB1⟩ : ∃ B, B = (s_X7_sendRequest T n (c) (a) (nI k)) := ⟨_, rfl⟩
        rw [← hB1] at hW
        have ke_B1 : B1.2.2 = S.2.2 := by rw [hB1]; simp only [pif_22, oel_22, k_si, k_sj, pif_same, oel_same, k_X6_set, k_X6_put, k_X0_showTag, k_X4_repeat, k_X7_sendRequest, hT]
        refine lv_iinc hM.1 hM.2.1 dX7_sendRequests_32 hl (k := 1) rfl (v := r + 1) rfl (by decide) (lv' := [(3, .int (r + 1)), (4, .int (nI k)), (0, .ref (Z.1 7 (0))), (1, .ref (Z.1 2 (c))), (2, .ref (Z.1 0 (a)))]) rfl (fun ls hl => ?_)
        refine lv_iinc hM.1 hM.2.1 dX7_sendRequests_35 hl (k := 1) rfl (v := nI (k + 1)) (nI_succ _).symm (by decide) (lv' := [(4, .int (nI (k + 1))), (3, .int (r + 1)), (0, .ref (Z.1 7 (0))), (1, .ref (Z.1 2 (c))), (2, .ref (Z.1 0 (a)))]) rfl (fun ls hl => ?_)
        refine lv_goto hM.1 hM.2.1 dX7_sendRequests_38 (tgt := 5) (by decide) ?_
        exact ih (k + 1) _ _ ls H locs (by omega) (by rw [show lSend n c a (f + 1) k T r = pif _ _ _ from rfl, pif_pos h_21] at hE; rw [hB1]; exact hE) ke_B1 (by subst hB1; exact hc0_send hT0) hl hW hS
  refine lv_iconst (v := 0) hM.1 hM.2.1 dX7_sendRequests_0 (by decide) ?_
  refine lv_istore_n hM.1 hM.2.1 dX7_sendRequests_1 rfl hl (by decide) (lv' := [(3, .int (0)), (0, .ref (Z.1 7 (0))), (1, .ref (Z.1 2 (c))), (2, .ref (Z.1 0 (a)))]) rfl (fun ls hl => ?_)
  refine lv_iconst (v := 0) hM.1 hM.2.1 dX7_sendRequests_2 (by decide) ?_
  refine lv_istore hM.1 hM.2.1 dX7_sendRequests_3 hl (by decide) (lv' := [(4, .int (0)), (3, .int (0)), (0, .ref (Z.1 7 (0))), (1, .ref (Z.1 2 (c))), (2, .ref (Z.1 0 (a)))]) rfl (fun ls hl => ?_)
  exact loop n 0 S 0 ls _ _ (by omega) rfl rfl hc0 hl hW hS

noncomputable def s_X7_beginPhase (S : zS) (n : Nat) (c a : Nat) (x : Int32) : zS := 
  (pif ((x) = (5)) ((s_X7_sendRequests (si (si (si (si S 2 (c) (3) (x)) 2 (c) (4) ((gi S 2 (c) (4)) + (1))) 2 (c) (5) (0)) 2 (c) (6) (gi S 0 (a) (7))) n (c) (a))) ((s_X7_sendRequests (si (si (si S 2 (c) (3) (x)) 2 (c) (4) ((gi S 2 (c) (4)) + (1))) 2 (c) (5) (0)) n (c) (a))))
theorem k_X7_beginPhase {S : zS} {n : Nat} {c a : Nat} {x : Int32} : (s_X7_beginPhase S n c a x).2.2 = S.2.2 := by unfold s_X7_beginPhase; simp only [pif_22, oel_22, k_si, k_sj, pif_same, oel_same, k_X6_set, k_X6_put, k_X0_showTag, k_X4_repeat, k_X7_sendRequest, k_X7_sendRequests]
set_option maxHeartbeats 400000 in
set_option maxRecDepth 100000 in
theorem c_X7_beginPhase {l : Launch} {D : va_G} {ar : Nat → ClassId} {A : Nat → Prop} {Z : zZ} {S : zS} {n : Nat} {c a : Nat} {x : Int32} (hV : zV n Z S.2.2) (hc : c < 4) (ha : Z.2.1 0 a) (hc0 : ¬ gi S 1 0 2 < 0) : zMet l yX7_beginPhase prog_1_method_30_code 4 none ({ frames := 3, cells := 0, slots := 0, locals := 73 } : Room) D ar A Z S [.ref (Z.1 7 (0)), .ref (Z.1 2 (c)), .ref (Z.1 0 (a)), .int (x)] rvV (zF () Z (s_X7_beginPhase S n c a x)) := by
  refine z_body (by decide +kernel) (Nat.le_of_ble_eq_true rfl) ?_
  intro pX eX sX mX bX methX cX ls hM hr hlk hml hin hl hW hlo
  have hM : zM pX cX mX _ sX prog_1_method_30_code RX7 D ar := hM
  have hS : va_S A sX.heap sX.heap [] := va_S.rf
  have hl : lv_has ls 4 [(0, .ref (Z.1 7 (0))), (1, .ref (Z.1 2 (c))), (2, .ref (Z.1 0 (a))), (3, .int (x))] := hl
  refine lv_aload_n hM.1 hM.2.1 dX7_beginPhase_0 rfl (lv_at hl 1 rfl) ?_
  refine lv_iload_n hM.1 hM.2.1 dX7_beginPhase_1 rfl (lv_at hl 3 rfl) ?_
  refine z_puti hM hW hS zc2 (hV.d2 hc) rfl 3 (by decide) rfl lf_X7_189 (Or.inl rfl) (tyX2 3) (tyX2_ok 3 (by decide)) rfl rfl dX7_beginPhase_2 (fun H locs hW hS => ?_)
  refine lv_aload_n hM.1 hM.2.1 dX7_beginPhase_5 rfl (lv_at hl 1 rfl) ?_
  refine lv_dup hM.1 hM.2.1 dX7_beginPhase_6 rfl ?_
  refine z_get hM hW zc2 (hV.d2 hc) rfl 4 (by decide) lf_X7_246 (v := .int (gi S 2 (c) (4))) rfl dX7_beginPhase_7 ?_
  refine lv_iconst (v := 1) hM.1 hM.2.1 dX7_beginPhase_10 (by decide) ?_
  refine lv_iadd hM.1 hM.2.1 dX7_beginPhase_11 ?_
  refine z_puti hM hW hS zc2 (hV.d2 hc) rfl 4 (by decide) rfl lf_X7_246 (Or.inl rfl) (tyX2 4) (tyX2_ok 4 (by decide)) rfl rfl dX7_beginPhase_12 (fun H locs hW hS => ?_)
  refine lv_aload_n hM.1 hM.2.1 dX7_beginPhase_15 rfl (lv_at hl 1 rfl) ?_
  refine lv_iconst (v := 0) hM.1 hM.2.1 dX7_beginPhase_16 (by decide) ?_
  refine z_puti hM hW hS zc2 (hV.d2 hc) rfl 5 (by decide) rfl lf_X7_192 (Or.inl rfl) (tyX2 5) (tyX2_ok 5 (by decide)) rfl rfl dX7_beginPhase_17 (fun H locs hW hS => ?_)
  refine lv_iload_n hM.1 hM.2.1 dX7_beginPhase_20 rfl (lv_at hl 3 rfl) ?_
  refine lv_iconst (v := 5) hM.1 hM.2.1 dX7_beginPhase_21 (by decide) ?_
  refine lv_icmp_ne hM.1 hM.2.1 dX7_beginPhase_22 (tgt := 33) (by decide) (fun h_22 => ?_) (fun h_22 => ?_)
  ·
    refine lv_aload_n hM.1 hM.2.1 dX7_beginPhase_33 rfl (lv_at hl 0 rfl) ?_
    refine lv_aload_n hM.1 hM.2.1 dX7_beginPhase_34 rfl (lv_at hl 1 rfl) ?_
    refine lv_aload_n hM.1 hM.2.1 dX7_beginPhase_35 rfl (lv_at hl 2 rfl) ?_
    refine z_Vi hM (hml.trans hl.1.symm) hW hS hlo zc7 hV.d7 rfl zyX7_sendRequests lm_X7_109 li_yX7_sendRequests le_yX7_sendRequests (As := [.ref (Z.1 2 (c)), .ref (Z.1 0 (a))]) (rest := []) (c_X7_sendRequests hV hc ha hc0) rfl rfl (Nat.le_of_ble_eq_true rfl) ⟨Nat.le_of_ble_eq_true rfl, Nat.le_of_ble_eq_true rfl⟩ ⟨Nat.le_of_ble_eq_true rfl, Nat.le_of_ble_eq_true rfl⟩ dX7_beginPhase_36 (fun H locs hW hS => ?_)
    obtain ⟨B1, hB1⟩ : ∃ B, B = (s_X7_sendRequests (si (si (si S 2 (c) (3) (x)) 2 (c) (4) ((gi S 2 (c) (4)) + (1))) 2 (c) (5) (0)) n (c) (a)) := ⟨_, rfl⟩
    rw [← hB1] at hW
    have ke_B1 : B1.2.2 = S.2.2 := by rw [hB1]; simp only [pif_22, oel_22, k_si, k_sj, pif_same, oel_same, k_X6_set, k_X6_put, k_X0_showTag, k_X4_repeat, k_X7_sendRequest, k_X7_sendRequests]
    refine lv_pop hM.1 hM.2.1 dX7_beginPhase_39 rfl ?_
    exact z_vret hM hlk hr hW hS (zF.of rfl (by subst hB1; unfold s_X7_beginPhase; rw [pif_neg h_22]; first | done | rfl)) dX7_beginPhase_40
  ·
    refine lv_aload_n hM.1 hM.2.1 dX7_beginPhase_25 rfl (lv_at hl 1 rfl) ?_
    refine lv_aload_n hM.1 hM.2.1 dX7_beginPhase_26 rfl (lv_at hl 2 rfl) ?_
    refine z_get hM hW zc0 ha rfl 7 (by decide) lf_X7_226 (v := .int (gi S 0 (a) (7))) rfl dX7_beginPhase_27 ?_
    refine z_puti hM hW hS zc2 (hV.d2 hc) rfl 6 (by decide) rfl lf_X7_77 (Or.inl rfl) (tyX2 6) (tyX2_ok 6 (by decide)) rfl rfl dX7_beginPhase_30 (fun H locs hW hS => ?_)
    refine lv_aload_n hM.1 hM.2.1 dX7_beginPhase_33 rfl (lv_at hl 0 rfl) ?_
    refine lv_aload_n hM.1 hM.2.1 dX7_beginPhase_34 rfl (lv_at hl 1 rfl) ?_
    refine lv_aload_n hM.1 hM.2.1 dX7_beginPhase_35 rfl (lv_at hl 2 rfl) ?_
    refine z_Vi hM (hml.trans hl.1.symm) hW hS hlo zc7 hV.d7 rfl zyX7_sendRequests lm_X7_109 li_yX7_sendRequests le_yX7_sendRequests (As := [.ref (Z.1 2 (c)), .ref (Z.1 0 (a))]) (rest := []) (c_X7_sendRequests hV hc ha hc0) rfl rfl (Nat.le_of_ble_eq_true rfl) ⟨Nat.le_of_ble_eq_true rfl, Nat.le_of_ble_eq_true rfl⟩ ⟨Nat.le_of_ble_eq_true rfl, Nat.le_of_ble_eq_true rfl⟩ dX7_beginPhase_36 (fun H locs hW hS => ?_)
    obtain ⟨B2, hB2⟩ : ∃ B, B = (s_X7_sendRequests (si (si (si (si S 2 (c) (3) (x)) 2 (c) (4) ((gi S 2 (c) (4)) + (1))) 2 (c) (5) (0)) 2 (c) (6) (gi S 0 (a) (7))) n (c) (a)) := ⟨_, rfl⟩
    rw [← hB2] at hW
    have ke_B2 : B2.2.2 = S.2.2 := by rw [hB2]; simp only [pif_22, oel_22, k_si, k_sj, pif_same, oel_same, k_X6_set, k_X6_put, k_X0_showTag, k_X4_repeat, k_X7_sendRequest, k_X7_sendRequests]
    refine lv_pop hM.1 hM.2.1 dX7_beginPhase_39 rfl ?_
    exact z_vret hM hlk hr hW hS (zF.of rfl (by subst hB2; unfold s_X7_beginPhase; rw [pif_pos h_22]; first | done | rfl)) dX7_beginPhase_40

noncomputable def r_X7_endPhase (S : zS) (n : Nat) (c a : Nat) : Int32 := 
  (pif ((gi S 2 (c) (3)) = (1)) 
    (pif ((gi S 0 (a) (1)) = (1)) (2) (2)) 
    (pif ((gi S 2 (c) (3)) = (2)) 
      (pif ((gi S 0 (a) (1)) = (0)) (0) (0)) 
      (pif ((gi S 2 (c) (3)) = (3)) (4) 
        (pif ((gi S 2 (c) (3)) = (4)) (5) (0)))))
noncomputable def s_X7_endPhase (S : zS) (n : Nat) (c a : Nat) : zS := 
  (pif ((gi S 2 (c) (3)) = (1)) 
    (pif ((gi S 0 (a) (1)) = (1)) ((s_X0_showTag (s_X6_put S (10 + c) ((gi S 6 (10 + c) (0)) + (1)) (gi S 0 (a) (0)) (gj S 0 (a) (8))) (a) (10 + c))) (S)) 
    (pif ((gi S 2 (c) (3)) = (2)) 
      (pif ((gi S 0 (a) (1)) = (0)) ((sj (s_X0_showTag S (a) (10 + c)) 0 (a) (8) (gj (s_X0_showTag S (a) (10 + c)) 6 (10 + c) (2)))) (S)) 
      (pif ((gi S 2 (c) (3)) = (3)) ((s_X0_showTag S (a) (10 + c))) 
        (pif ((gi S 2 (c) (3)) = (4)) (S) (S)))))
theorem k_X7_endPhase {S : zS} {n : Nat} {c a : Nat} : (s_X7_endPhase S n c a).2.2 = S.2.2 := by unfold s_X7_endPhase; simp only [pif_22, oel_22, k_si, k_sj, pif_same, oel_same, k_X6_set, k_X6_put, k_X0_showTag, k_X4_repeat, k_X7_sendRequest, k_X7_sendRequests, k_X7_beginPhase]
set_option maxHeartbeats 400000 in
set_option maxRecDepth 100000 in
theorem c_X7_endPhase {l : Launch} {D : va_G} {ar : Nat → ClassId} {A : Nat → Prop} {Z : zZ} {S : zS} {n : Nat} {c a : Nat} (hV : zV n Z S.2.2) (hc : c < 4) (ha : Z.2.1 0 a) : zMet l yX7_endPhase prog_1_method_37_code 3 (some .int) ({ frames := 1, cells := 0, slots := 0, locals := 24 } : Room) D ar A Z S [.ref (Z.1 7 (0)), .ref (Z.1 2 (c)), .ref (Z.1 0 (a))] rvI (zF (r_X7_endPhase S n c a) Z (s_X7_endPhase S n c a)) := by
  refine z_body (by decide +kernel) (Nat.le_of_ble_eq_true rfl) ?_
  intro pX eX sX mX bX methX cX ls hM hr hlk hml hin hl hW hlo
  have hM : zM pX cX mX _ sX prog_1_method_37_code RX7 D ar := hM
  have hS : va_S A sX.heap sX.heap [] := va_S.rf
  have hl : lv_has ls 3 [(0, .ref (Z.1 7 (0))), (1, .ref (Z.1 2 (c))), (2, .ref (Z.1 0 (a)))] := hl
  refine lv_aload_n hM.1 hM.2.1 dX7_endPhase_0 rfl (lv_at hl 1 rfl) ?_
  refine z_get hM hW zc2 (hV.d2 hc) rfl 3 (by decide) lf_X7_189 (v := .int (gi S 2 (c) (3))) rfl dX7_endPhase_1 ?_
  by_cases h_4_1 : (gi S 2 (c) (3)) = (1)
  ·
    refine lv_tableIn hM.1 hM.2.1 dX7_endPhase_4 (by rw [h_4_1]; decide) (by rw [h_4_1]; decide) (off := 32) (by rw [h_4_1]; rfl) (tgt := 36) (by decide) ?_
    refine lv_aload_n hM.1 hM.2.1 dX7_endPhase_36 rfl (lv_at hl 2 rfl) ?_
    refine z_get hM hW zc0 ha rfl 1 (by decide) lf_X7_214 (v := .int (gi S 0 (a) (1))) rfl dX7_endPhase_37 ?_
    refine lv_iconst (v := 1) hM.1 hM.2.1 dX7_endPhase_40 (by decide) ?_
    refine lv_icmp_ne hM.1 hM.2.1 dX7_endPhase_41 (tgt := 76) (by decide) (fun h_41 => ?_) (fun h_41 => ?_)
    ·
      refine lv_iconst (v := 2) hM.1 hM.2.1 dX7_endPhase_76 (by decide) ?_
      exact z_iret hM hlk hr rfl hW hS (zF.of (by unfold r_X7_endPhase; rw [pif_pos h_4_1, pif_neg h_41]; first | done | rfl) (by unfold s_X7_endPhase; rw [pif_pos h_4_1, pif_neg h_41]; first | done | rfl)) dX7_endPhase_77
    ·
      refine lv_aload_n hM.1 hM.2.1 dX7_endPhase_44 rfl (lv_at hl 1 rfl) ?_
      refine z_getr hM hW zc2 (hV.d2 hc) rfl 1 (by decide) lf_X7_247 (t := 6) (j := 10 + c) rfl (hV.r2 hc) dX7_endPhase_45 (fun hd1_45 => ?_)
      refine lv_aload_n hM.1 hM.2.1 dX7_endPhase_48 rfl (lv_at hl 1 rfl) ?_
      refine z_getr hM hW zc2 (hV.d2 hc) rfl 1 (by decide) lf_X7_247 (t := 6) (j := 10 + c) rfl (hV.r2 hc) dX7_endPhase_49 (fun hd2_49 => ?_)
      refine z_get hM hW zc6 hd2_49 rfl 0 (by decide) lf_X7_176 (v := .int (gi S 6 (10 + c) (0))) rfl dX7_endPhase_52 ?_
      refine lv_iconst (v := 1) hM.1 hM.2.1 dX7_endPhase_55 (by decide) ?_
      refine lv_iadd hM.1 hM.2.1 dX7_endPhase_56 ?_
      refine lv_aload_n hM.1 hM.2.1 dX7_endPhase_57 rfl (lv_at hl 2 rfl) ?_
      refine z_get hM hW zc0 ha rfl 0 (by decide) lf_X7_119 (v := .int (gi S 0 (a) (0))) rfl dX7_endPhase_58 ?_
      refine lv_aload_n hM.1 hM.2.1 dX7_endPhase_61 rfl (lv_at hl 2 rfl) ?_
      refine z_get hM hW zc0 ha rfl 8 (by decide) lf_X7_101 (v := .long (gj S 0 (a) (8))) rfl dX7_endPhase_62 ?_
      refine z_Vv hM (hml.trans hl.1.symm) hW hS hlo zc6 hd1_45 rfl zyX6_put lm_X7_248 li_yX6_put le_yX6_put (As := [.int ((gi S 6 (10 + c) (0)) + (1)), .int (gi S 0 (a) (0)), .long (gj S 0 (a) (8))]) (rest := []) (c_X6_put hd1_45) rfl rfl (Nat.le_of_ble_eq_true rfl) ⟨Nat.le_of_ble_eq_true rfl, Nat.le_of_ble_eq_true rfl⟩ ⟨Nat.le_of_ble_eq_true rfl, Nat.le_of_ble_eq_true rfl⟩ dX7_endPhase_65 (fun H locs hW hS => ?_)
      obtain ⟨B1, hB1⟩ : ∃ B, B = (s_X6_put S (10 + c) ((gi S 6 (10 + c) (0)) + (1)) (gi S 0 (a) (0)) (gj S 0 (a) (8))) := ⟨_, rfl⟩
      rw [← hB1] at hW
      have ke_B1 : B1.2.2 = S.2.2 := by rw [hB1]; simp only [pif_22, oel_22, k_si, k_sj, pif_same, oel_same, k_X6_set, k_X6_put, k_X0_showTag, k_X4_repeat, k_X7_sendRequest, k_X7_sendRequests, k_X7_beginPhase]
      refine lv_aload_n hM.1 hM.2.1 dX7_endPhase_68 rfl (lv_at hl 2 rfl) ?_
      refine lv_aload_n hM.1 hM.2.1 dX7_endPhase_69 rfl (lv_at hl 1 rfl) ?_
      refine z_getr hM hW zc2 (hV.d2 hc) rfl 1 (by decide) lf_X7_247 (t := 6) (j := 10 + c) rfl ((gr_of ke_B1).trans (hV.r2 hc)) dX7_endPhase_70 (fun hd3_70 => ?_)
      refine z_Vv hM (hml.trans hl.1.symm) hW hS hlo zc0 ha rfl zyX0_showTag lm_X7_288 li_yX0_showTag le_yX0_showTag (As := [.ref (Z.1 6 (10 + c))]) (rest := []) (c_X0_showTag ha hd3_70) rfl rfl (Nat.le_of_ble_eq_true rfl) ⟨Nat.le_of_ble_eq_true rfl, Nat.le_of_ble_eq_true rfl⟩ ⟨Nat.le_of_ble_eq_true rfl, Nat.le_of_ble_eq_true rfl⟩ dX7_endPhase_73 (fun H locs hW hS => ?_)
      obtain ⟨B2, hB2⟩ : ∃ B, B = (s_X0_showTag B1 (a) (10 + c)) := ⟨_, rfl⟩
      rw [← hB2] at hW
      have ke_B2 : B2.2.2 = S.2.2 := by rw [hB2]; simp only [pif_22, oel_22, k_si, k_sj, pif_same, oel_same, k_X6_set, k_X6_put, k_X0_showTag, k_X4_repeat, k_X7_sendRequest, k_X7_sendRequests, k_X7_beginPhase, ke_B1]
      refine lv_iconst (v := 2) hM.1 hM.2.1 dX7_endPhase_76 (by decide) ?_
      exact z_iret hM hlk hr rfl hW hS (zF.of (by subst hB2; subst hB1; unfold r_X7_endPhase; rw [pif_pos h_4_1, pif_pos h_41]; first | done | rfl) (by subst hB2; subst hB1; unfold s_X7_endPhase; rw [pif_pos h_4_1, pif_pos h_41]; first | done | rfl)) dX7_endPhase_77
  by_cases h_4_2 : (gi S 2 (c) (3)) = (2)
  ·
    refine lv_tableIn hM.1 hM.2.1 dX7_endPhase_4 (by rw [h_4_2]; decide) (by rw [h_4_2]; decide) (off := 74) (by rw [h_4_2]; rfl) (tgt := 78) (by decide) ?_
    refine lv_aload_n hM.1 hM.2.1 dX7_endPhase_78 rfl (lv_at hl 2 rfl) ?_
    refine z_get hM hW zc0 ha rfl 1 (by decide) lf_X7_214 (v := .int (gi S 0 (a) (1))) rfl dX7_endPhase_79 ?_
    refine lv_if_ne hM.1 hM.2.1 dX7_endPhase_82 (tgt := 104) (by decide) (fun h_82 => ?_) (fun h_82 => ?_)
    ·
      refine lv_iconst (v := 0) hM.1 hM.2.1 dX7_endPhase_104 (by decide) ?_
      exact z_iret hM hlk hr rfl hW hS (zF.of (by unfold r_X7_endPhase; rw [pif_neg h_4_1, pif_pos h_4_2, pif_neg h_82]; first | done | rfl) (by unfold s_X7_endPhase; rw [pif_neg h_4_1, pif_pos h_4_2, pif_neg h_82]; first | done | rfl)) dX7_endPhase_105
    ·
      refine lv_aload_n hM.1 hM.2.1 dX7_endPhase_85 rfl (lv_at hl 2 rfl) ?_
      refine lv_aload_n hM.1 hM.2.1 dX7_endPhase_86 rfl (lv_at hl 1 rfl) ?_
      refine z_getr hM hW zc2 (hV.d2 hc) rfl 1 (by decide) lf_X7_247 (t := 6) (j := 10 + c) rfl (hV.r2 hc) dX7_endPhase_87 (fun hd4_87 => ?_)
      refine z_Vv hM (hml.trans hl.1.symm) hW hS hlo zc0 ha rfl zyX0_showTag lm_X7_288 li_yX0_showTag le_yX0_showTag (As := [.ref (Z.1 6 (10 + c))]) (rest := []) (c_X0_showTag ha hd4_87) rfl rfl (Nat.le_of_ble_eq_true rfl) ⟨Nat.le_of_ble_eq_true rfl, Nat.le_of_ble_eq_true rfl⟩ ⟨Nat.le_of_ble_eq_true rfl, Nat.le_of_ble_eq_true rfl⟩ dX7_endPhase_90 (fun H locs hW hS => ?_)
      obtain ⟨B3, hB3⟩ : ∃ B, B = (s_X0_showTag S (a) (10 + c)) := ⟨_, rfl⟩
      rw [← hB3] at hW
      have ke_B3 : B3.2.2 = S.2.2 := by rw [hB3]; simp only [pif_22, oel_22, k_si, k_sj, pif_same, oel_same, k_X6_set, k_X6_put, k_X0_showTag, k_X4_repeat, k_X7_sendRequest, k_X7_sendRequests, k_X7_beginPhase]
      refine lv_aload_n hM.1 hM.2.1 dX7_endPhase_93 rfl (lv_at hl 2 rfl) ?_
      refine lv_aload_n hM.1 hM.2.1 dX7_endPhase_94 rfl (lv_at hl 1 rfl) ?_
      refine z_getr hM hW zc2 (hV.d2 hc) rfl 1 (by decide) lf_X7_247 (t := 6) (j := 10 + c) rfl ((gr_of ke_B3).trans (hV.r2 hc)) dX7_endPhase_95 (fun hd5_95 => ?_)
      refine z_get hM hW zc6 hd5_95 rfl 2 (by decide) lf_X7_186 (v := .long (gj B3 6 (10 + c) (2))) rfl dX7_endPhase_98 ?_
      refine z_putl hM hW hS zc0 ha rfl 8 (by decide) rfl lf_X7_101 (Or.inl rfl) (tyX0_ok 8 (by decide)) dX7_endPhase_101 (fun H locs hW hS => ?_)
      refine lv_iconst (v := 0) hM.1 hM.2.1 dX7_endPhase_104 (by decide) ?_
      exact z_iret hM hlk hr rfl hW hS (zF.of (by subst hB3; unfold r_X7_endPhase; rw [pif_neg h_4_1, pif_pos h_4_2, pif_pos h_82]; first | done | rfl) (by subst hB3; unfold s_X7_endPhase; rw [pif_neg h_4_1, pif_pos h_4_2, pif_pos h_82]; first | done | rfl)) dX7_endPhase_105
  by_cases h_4_3 : (gi S 2 (c) (3)) = (3)
  ·
    refine lv_tableIn hM.1 hM.2.1 dX7_endPhase_4 (by rw [h_4_3]; decide) (by rw [h_4_3]; decide) (off := 102) (by rw [h_4_3]; rfl) (tgt := 106) (by decide) ?_
    refine lv_aload_n hM.1 hM.2.1 dX7_endPhase_106 rfl (lv_at hl 2 rfl) ?_
    refine lv_aload_n hM.1 hM.2.1 dX7_endPhase_107 rfl (lv_at hl 1 rfl) ?_
    refine z_getr hM hW zc2 (hV.d2 hc) rfl 1 (by decide) lf_X7_247 (t := 6) (j := 10 + c) rfl (hV.r2 hc) dX7_endPhase_108 (fun hd6_108 => ?_)
    refine z_Vv hM (hml.trans hl.1.symm) hW hS hlo zc0 ha rfl zyX0_showTag lm_X7_288 li_yX0_showTag le_yX0_showTag (As := [.ref (Z.1 6 (10 + c))]) (rest := []) (c_X0_showTag ha hd6_108) rfl rfl (Nat.le_of_ble_eq_true rfl) ⟨Nat.le_of_ble_eq_true rfl, Nat.le_of_ble_eq_true rfl⟩ ⟨Nat.le_of_ble_eq_true rfl, Nat.le_of_ble_eq_true rfl⟩ dX7_endPhase_111 (fun H locs hW hS => ?_)
    obtain ⟨B4, hB4⟩ : ∃ B, B = (s_X0_showTag S (a) (10 + c)) := ⟨_, rfl⟩
    rw [← hB4] at hW
    have ke_B4 : B4.2.2 = S.2.2 := by rw [hB4]; simp only [pif_22, oel_22, k_si, k_sj, pif_same, oel_same, k_X6_set, k_X6_put, k_X0_showTag, k_X4_repeat, k_X7_sendRequest, k_X7_sendRequests, k_X7_beginPhase]
    refine lv_iconst (v := 4) hM.1 hM.2.1 dX7_endPhase_114 (by decide) ?_
    exact z_iret hM hlk hr rfl hW hS (zF.of (by subst hB4; unfold r_X7_endPhase; rw [pif_neg h_4_1, pif_neg h_4_2, pif_pos h_4_3]; first | done | rfl) (by subst hB4; unfold s_X7_endPhase; rw [pif_neg h_4_1, pif_neg h_4_2, pif_pos h_4_3]; first | done | rfl)) dX7_endPhase_115
  by_cases h_4_4 : (gi S 2 (c) (3)) = (4)
  ·
    refine lv_tableIn hM.1 hM.2.1 dX7_endPhase_4 (by rw [h_4_4]; decide) (by rw [h_4_4]; decide) (off := 112) (by rw [h_4_4]; rfl) (tgt := 116) (by decide) ?_
    refine lv_iconst (v := 5) hM.1 hM.2.1 dX7_endPhase_116 (by decide) ?_
    exact z_iret hM hlk hr rfl hW hS (zF.of (by unfold r_X7_endPhase; rw [pif_neg h_4_1, pif_neg h_4_2, pif_neg h_4_3, pif_pos h_4_4]; first | done | rfl) (by unfold s_X7_endPhase; rw [pif_neg h_4_1, pif_neg h_4_2, pif_neg h_4_3, pif_pos h_4_4]; first | done | rfl)) dX7_endPhase_117
  refine lv_tableOut hM.1 hM.2.1 dX7_endPhase_4 (by have n1 : Int32.toInt (gi S 2 (c) (3)) ≠ 1 := fun q => h_4_1 (Int32.toInt_inj.mp (by rw [q]; rfl)); have n2 : Int32.toInt (gi S 2 (c) (3)) ≠ 2 := fun q => h_4_2 (Int32.toInt_inj.mp (by rw [q]; rfl)); have n3 : Int32.toInt (gi S 2 (c) (3)) ≠ 3 := fun q => h_4_3 (Int32.toInt_inj.mp (by rw [q]; rfl)); have n4 : Int32.toInt (gi S 2 (c) (3)) ≠ 4 := fun q => h_4_4 (Int32.toInt_inj.mp (by rw [q]; rfl)); omega) (tgt := 118) (by decide) ?_
  refine lv_iconst (v := 0) hM.1 hM.2.1 dX7_endPhase_118 (by decide) ?_
  exact z_iret hM hlk hr rfl hW hS (zF.of (by unfold r_X7_endPhase; rw [pif_neg h_4_1, pif_neg h_4_2, pif_neg h_4_3, pif_neg h_4_4]; first | done | rfl) (by unfold s_X7_endPhase; rw [pif_neg h_4_1, pif_neg h_4_2, pif_neg h_4_3, pif_neg h_4_4]; first | done | rfl)) dX7_endPhase_119

noncomputable def r_X7_again (S : zS) (n : Nat) (x : Int32) : Int32 := 
  (oel (atI 4 (x)) ((-1)) (fun q2 => 
    (oel (gr S 2 q2 2) ((-1)) (fun a => (r_X7_sendRequests S n (q2) (a))))))
noncomputable def s_X7_again (S : zS) (n : Nat) (x : Int32) : zS := 
  (oel (atI 4 (x)) (S) (fun q2 => 
    (oel (gr S 2 q2 2) (S) (fun a => ((s_X7_sendRequests S n (q2) (a)))))))
theorem k_X7_again {S : zS} {n : Nat} {x : Int32} : (s_X7_again S n x).2.2 = S.2.2 := by unfold s_X7_again; simp only [pif_22, oel_22, k_si, k_sj, pif_same, oel_same, k_X6_set, k_X6_put, k_X0_showTag, k_X4_repeat, k_X7_sendRequest, k_X7_sendRequests, k_X7_beginPhase, k_X7_endPhase]
set_option maxHeartbeats 400000 in
set_option maxRecDepth 100000 in
theorem c_X7_again {l : Launch} {D : va_G} {ar : Nat → ClassId} {A : Nat → Prop} {Z : zZ} {S : zS} {n : Nat} {x : Int32} (hV : zV n Z S.2.2) (hc0 : ¬ gi S 1 0 2 < 0) : zMet l yX7_again prog_1_method_7_code 3 (some .int) ({ frames := 3, cells := 0, slots := 0, locals := 73 } : Room) D ar A Z S [.ref (Z.1 7 (0)), .int (x)] rvI (zF (r_X7_again S n x) Z (s_X7_again S n x)) := by
  refine z_body (by decide +kernel) (Nat.le_of_ble_eq_true rfl) ?_
  intro pX eX sX mX bX methX cX ls hM hr hlk hml hin hl hW hlo
  have hM : zM pX cX mX _ sX prog_1_method_7_code RX7 D ar := hM
  have hS : va_S A sX.heap sX.heap [] := va_S.rf
  have hl : lv_has ls 3 [(0, .ref (Z.1 7 (0))), (1, .int (x))] := hl
  refine lv_aload_n hM.1 hM.2.1 dX7_again_0 rfl (lv_at hl 0 rfl) ?_
  refine lv_iload_n hM.1 hM.2.1 dX7_again_1 rfl (lv_at hl 1 rfl) ?_
  refine z_Vr hM (hml.trans hl.1.symm) hW hS hlo zc7 hV.d7 rfl zyX7_clientAt lm_X7_69 li_yX7_clientAt le_yX7_clientAt (As := [.int (x)]) (rest := []) (c_X7_clientAt hV) rfl rfl (Nat.le_of_ble_eq_true rfl) ⟨Nat.le_of_ble_eq_true rfl, Nat.le_of_ble_eq_true rfl⟩ ⟨Nat.le_of_ble_eq_true rfl, Nat.le_of_ble_eq_true rfl⟩ dX7_again_2 (fun H locs hW hS => ?_)
  rcases hq_2 : atI 4 (x) with _ | q2
  ·
    refine lv_astore_nN hM.1 hM.2.1 dX7_again_5 rfl hl (by decide) (lv' := [(2, .null), (0, .ref (Z.1 7 (0))), (1, .int (x))]) rfl (fun ls hl => ?_)
    refine lv_aload_nN hM.1 hM.2.1 dX7_again_6 rfl (lv_at hl 0 rfl) ?_
    refine lv_ifnullN hM.1 hM.2.1 dX7_again_7 (tgt := 17) (by decide) ?_
    refine lv_iconst (v := (-1)) hM.1 hM.2.1 dX7_again_17 (by decide) ?_
    exact z_iret hM hlk hr rfl hW hS (zF.of (by unfold r_X7_again; rw [oel_n hq_2]; first | done | rfl) (by unfold s_X7_again; rw [oel_n hq_2]; first | done | rfl)) dX7_again_18
  ·
    obtain ⟨he_2, hb_2, hn0_2, hn1_2⟩ := atI_some (by decide) hq_2
    have hd_2 := hV.d2 hb_2
    refine lv_astore_n hM.1 hM.2.1 dX7_again_5 rfl hl (by decide) (lv' := [(2, .ref (Z.1 2 (q2))), (0, .ref (Z.1 7 (0))), (1, .int (x))]) rfl (fun ls hl => ?_)
    refine lv_aload_n hM.1 hM.2.1 dX7_again_6 rfl (lv_at hl 0 rfl) ?_
    refine lv_ifnull hM.1 hM.2.1 dX7_again_7 ?_
    refine lv_aload_n hM.1 hM.2.1 dX7_again_10 rfl (lv_at hl 0 rfl) ?_
    rcases hq_11 : gr S 2 q2 2 with _ | a
    ·
      refine z_get hM hW zc2 hd_2 rfl 2 (by decide) lf_X7_105 (v := .null) (by simp [zv, zvt, zk, zrv, hq_11]) dX7_again_11 ?_
      refine lv_ifnonnullN hM.1 hM.2.1 dX7_again_14 ?_
      refine lv_iconst (v := (-1)) hM.1 hM.2.1 dX7_again_17 (by decide) ?_
      exact z_iret hM hlk hr rfl hW hS (zF.of (by unfold r_X7_again; rw [oel_s hq_2, oel_n hq_11]; first | done | rfl) (by unfold s_X7_again; rw [oel_s hq_2, oel_n hq_11]; first | done | rfl)) dX7_again_18
    ·
      refine z_getr hM hW zc2 hd_2 rfl 2 (by decide) lf_X7_105 (t := 0) (j := a) rfl hq_11 dX7_again_11 (fun hd_11 => ?_)
      refine lv_ifnonnull hM.1 hM.2.1 dX7_again_14 (tgt := 19) (by decide) ?_
      refine lv_aload_n hM.1 hM.2.1 dX7_again_19 rfl (lv_at hl 1 rfl) ?_
      refine lv_aload_n hM.1 hM.2.1 dX7_again_20 rfl (lv_at hl 0 rfl) ?_
      refine lv_aload_n hM.1 hM.2.1 dX7_again_21 rfl (lv_at hl 0 rfl) ?_
      refine z_getr hM hW zc2 hd_2 rfl 2 (by decide) lf_X7_105 (t := 0) (j := a) rfl hq_11 dX7_again_22 (fun hd1_22 => ?_)
      refine z_Vi hM (hml.trans hl.1.symm) hW hS hlo zc7 hV.d7 rfl zyX7_sendRequests lm_X7_109 li_yX7_sendRequests le_yX7_sendRequests (As := [.ref (Z.1 2 (q2)), .ref (Z.1 0 (a))]) (rest := []) (c_X7_sendRequests hV hb_2 hd1_22 hc0) rfl rfl (Nat.le_of_ble_eq_true rfl) ⟨Nat.le_of_ble_eq_true rfl, Nat.le_of_ble_eq_true rfl⟩ ⟨Nat.le_of_ble_eq_true rfl, Nat.le_of_ble_eq_true rfl⟩ dX7_again_25 (fun H locs hW hS => ?_)
      obtain ⟨B1, hB1⟩ : ∃ B, B = (s_X7_sendRequests S n (q2) (a)) := ⟨_, rfl⟩
      rw [← hB1] at hW
      have ke_B1 : B1.2.2 = S.2.2 := by rw [hB1]; simp only [pif_22, oel_22, k_si, k_sj, pif_same, oel_same, k_X6_set, k_X6_put, k_X0_showTag, k_X4_repeat, k_X7_sendRequest, k_X7_sendRequests, k_X7_beginPhase, k_X7_endPhase]
      exact z_iret hM hlk hr rfl hW hS (zF.of (by subst hB1; unfold r_X7_again; rw [oel_s hq_2, oel_s hq_11]; first | done | rfl) (by subst hB1; unfold s_X7_again; rw [oel_s hq_2, oel_s hq_11]; first | done | rfl)) dX7_again_28
