/-- what holds of the class's state between its calls -/
def cI (n : Nat) (Z : zZ) (S : zS) : Prop := zV n Z S.2.2 ∧ (∃ cn, cn ≤ 300 ∧ gi S 1 0 2 = nI cn) ∧ ∀ j, j < 301 → isB (gi S 4 j 1)
theorem cI.cn {n : Nat} {Z : zZ} {S : zS} (h : cI n Z S) : gi S 1 0 2 = nI (ix (gi S 1 0 2)) ∧ ix (gi S 1 0 2) ≤ 300 := by
  obtain ⟨cn, h1, h2⟩ := h.2.1
  rw [h2, ix_nI (by omega)]
  exact ⟨rfl, h1⟩
theorem cI.c0 {n : Nat} {Z : zZ} {S : zS} (h : cI n Z S) : ¬ gi S 1 0 2 < 0 := by
  obtain ⟨cn, h1, h2⟩ := h.2.1
  rw [h2]; exact nI_pos (by omega)
theorem isB_take {S : zS} {pm : Nat → Nat} {k : Int32} : isB (r_X1_take S pm k) := by
  unfold r_X1_take
  cases r_X1_at S pm k with
  | none => exact isB_0
  | some q => exact isB_1
theorem r_take_some {S : zS} {pm : Nat → Nat} {k : Int32} {q : Nat} (h : r_X1_at S pm k = some q) : r_X1_take S pm k = 1 := by unfold r_X1_take; rw [oel_s h]
noncomputable def r_X7_lose (S : zS) (n : Nat) (x : Int32) : Int32 := (r_X1_take S (pmR S.2.2) (x))
noncomputable def s_X7_lose (S : zS) (n : Nat) (x : Int32) : zS := ((s_X1_take S (pmR S.2.2) (tkR S.2.2) (ix (gi S 1 0 2)) (x)))
set_option maxHeartbeats 400000 in
set_option maxRecDepth 100000 in
theorem c_X7_lose {l : Launch} {D : va_G} {ar : Nat → ClassId} {A : Nat → Prop} {Z : zZ} {S : zS} {n : Nat} {x : Int32} (hI : cI n Z S)  : zMet l yX7_lose prog_1_method_11_code 2 (some .boolean) ({ frames := 2, cells := 0, slots := 0, locals := 44 } : Room) D ar A Z S [.ref (Z.1 7 (0)), .int (x)] rvI (zF (r_X7_lose S n x) Z (s_X7_lose S n x)) := by
  refine z_body (by decide +kernel) (Nat.le_of_ble_eq_true rfl) ?_
  intro pX eX sX mX bX methX cX ls hM hr hlk hml hin hl hW hlo
  have hM : zM pX cX mX _ sX prog_1_method_11_code RX7 D ar := hM
  have hS : va_S A sX.heap sX.heap [] := va_S.rf
  have hl : lv_has ls 2 [(0, .ref (Z.1 7 (0))), (1, .int (x))] := hl
  have hV := hI.1
  have hc0 := hI.c0
  refine lv_aload_n hM.1 hM.2.1 dX7_lose_0 rfl (lv_at hl 0 rfl) ?_
  refine z_getr hM hW zc7 hI.1.d7 rfl 4 (by decide) lf_X7_65 (t := 1) (j := 0) rfl hV.r74 dX7_lose_1 (fun hd1_1 => ?_)
  refine lv_iload_n hM.1 hM.2.1 dX7_lose_4 rfl (lv_at hl 1 rfl) ?_
  refine z_Vi hM (hml.trans hl.1.symm) hW hS hlo zc1 hd1_1 rfl zyX1_take lm_X7_130 li_yX1_take le_yX1_take (As := [.int (x)]) (rest := []) (c_X1_take hV.d1 hV.r10 hV.l15 hV.pm hV.tk hI.cn.1 hI.cn.2) rfl rfl (Nat.le_of_ble_eq_true rfl) ⟨Nat.le_of_ble_eq_true rfl, Nat.le_of_ble_eq_true rfl⟩ ⟨Nat.le_of_ble_eq_true rfl, Nat.le_of_ble_eq_true rfl⟩ dX7_lose_5 (fun H locs hW hS => ?_)
  exact z_iret hM hlk hr (narrow_isB isB_take) hW hS (zF.of (by unfold r_X7_lose; rfl) (by unfold s_X7_lose; rfl)) dX7_lose_8

noncomputable def r_X7_deliver (S : zS) (n : Nat) (x : Int32) : Int32 := 
  (oel (r_X1_at S (pmR S.2.2) (x)) (0) (fun q5 => 
    (pif ((r_X7_canPass S n (q5)) = (0)) (0) 
      (pif ((gi (s_X1_take S (pmR S.2.2) (tkR S.2.2) (ix (gi S 1 0 2)) (x)) 4 (q5) (1)) = (0)) (1) (1)))))
noncomputable def s_X7_deliver (S : zS) (n : Nat) (x : Int32) : zS := 
  (oel (r_X1_at S (pmR S.2.2) (x)) (S) (fun q5 => 
    (pif ((r_X7_canPass S n (q5)) = (0)) (S) 
      (pif ((gi (s_X1_take S (pmR S.2.2) (tkR S.2.2) (ix (gi S 1 0 2)) (x)) 4 (q5) (1)) = (0)) ((s_X7_serve (si (s_X1_take S (pmR S.2.2) (tkR S.2.2) (ix (gi S 1 0 2)) (x)) 7 (0) (8) ((gi (s_X1_take S (pmR S.2.2) (tkR S.2.2) (ix (gi S 1 0 2)) (x)) 7 (0) (8)) + (1))) n (q5))) ((s_X7_hear (si (s_X1_take S (pmR S.2.2) (tkR S.2.2) (ix (gi S 1 0 2)) (x)) 7 (0) (8) ((gi (s_X1_take S (pmR S.2.2) (tkR S.2.2) (ix (gi S 1 0 2)) (x)) 7 (0) (8)) + (1))) n (q5)))))))
set_option maxHeartbeats 400000 in
set_option maxRecDepth 100000 in
theorem c_X7_deliver {l : Launch} {D : va_G} {ar : Nat → ClassId} {A : Nat → Prop} {Z : zZ} {S : zS} {n : Nat} {x : Int32} (hI : cI n Z S)  : zMet l yX7_deliver prog_1_method_9_code 3 (some .boolean) ({ frames := 5, cells := 0, slots := 0, locals := 121 } : Room) D ar A Z S [.ref (Z.1 7 (0)), .int (x)] rvI (zF (r_X7_deliver S n x) Z (s_X7_deliver S n x)) := by
  refine z_body (by decide +kernel) (Nat.le_of_ble_eq_true rfl) ?_
  intro pX eX sX mX bX methX cX ls hM hr hlk hml hin hl hW hlo
  have hM : zM pX cX mX _ sX prog_1_method_9_code RX7 D ar := hM
  have hS : va_S A sX.heap sX.heap [] := va_S.rf
  have hl : lv_has ls 3 [(0, .ref (Z.1 7 (0))), (1, .int (x))] := hl
  have hV := hI.1
  have hc0 := hI.c0
  refine lv_aload_n hM.1 hM.2.1 dX7_deliver_0 rfl (lv_at hl 0 rfl) ?_
  refine z_getr hM hW zc7 hI.1.d7 rfl 4 (by decide) lf_X7_65 (t := 1) (j := 0) rfl hV.r74 dX7_deliver_1 (fun hd1_1 => ?_)
  refine lv_iload_n hM.1 hM.2.1 dX7_deliver_4 rfl (lv_at hl 1 rfl) ?_
  refine z_Vr hM (hml.trans hl.1.symm) hW hS hlo zc1 hd1_1 rfl zyX1_at lm_X7_122 li_yX1_at le_yX1_at (As := [.int (x)]) (rest := []) (c_X1_at hV.d1 hV.r10 hV.l15 hV.pm) rfl rfl (Nat.le_of_ble_eq_true rfl) ⟨Nat.le_of_ble_eq_true rfl, Nat.le_of_ble_eq_true rfl⟩ ⟨Nat.le_of_ble_eq_true rfl, Nat.le_of_ble_eq_true rfl⟩ dX7_deliver_5 (fun H locs hW hS => ?_)
  rcases hq_5 : r_X1_at S (pmR S.2.2) (x) with _ | q5
  ·
    refine lv_astore_nN hM.1 hM.2.1 dX7_deliver_8 rfl hl (by decide) (lv' := [(2, .null), (0, .ref (Z.1 7 (0))), (1, .int (x))]) rfl (fun ls hl => ?_)
    refine lv_aload_nN hM.1 hM.2.1 dX7_deliver_9 rfl (lv_at hl 0 rfl) ?_
    refine lv_ifnullN hM.1 hM.2.1 dX7_deliver_10 (tgt := 21) (by decide) ?_
    refine lv_iconst (v := 0) hM.1 hM.2.1 dX7_deliver_21 (by decide) ?_
    exact z_iret hM hlk hr rfl hW hS (zF.of (by unfold r_X7_deliver; rw [oel_n hq_5]; first | done | rfl) (by unfold s_X7_deliver; rw [oel_n hq_5]; first | done | rfl)) dX7_deliver_22
  ·
    obtain ⟨he_5, hb_5⟩ := rAt_some hV hq_5
    have hd_5 := hV.d4 hb_5
    refine lv_astore_n hM.1 hM.2.1 dX7_deliver_8 rfl hl (by decide) (lv' := [(2, .ref (Z.1 4 (q5))), (0, .ref (Z.1 7 (0))), (1, .int (x))]) rfl (fun ls hl => ?_)
    refine lv_aload_n hM.1 hM.2.1 dX7_deliver_9 rfl (lv_at hl 0 rfl) ?_
    refine lv_ifnull hM.1 hM.2.1 dX7_deliver_10 ?_
    refine lv_aload_n hM.1 hM.2.1 dX7_deliver_13 rfl (lv_at hl 1 rfl) ?_
    refine lv_aload_n hM.1 hM.2.1 dX7_deliver_14 rfl (lv_at hl 0 rfl) ?_
    refine z_Vi hM (hml.trans hl.1.symm) hW hS hlo zc7 hI.1.d7 rfl zyX7_canPass lm_X7_126 li_yX7_canPass le_yX7_canPass (As := [.ref (Z.1 4 (q5))]) (rest := []) (c_X7_canPass hV hd_5) rfl rfl (Nat.le_of_ble_eq_true rfl) ⟨Nat.le_of_ble_eq_true rfl, Nat.le_of_ble_eq_true rfl⟩ ⟨Nat.le_of_ble_eq_true rfl, Nat.le_of_ble_eq_true rfl⟩ dX7_deliver_15 (fun H locs hW hS => ?_)
    refine lv_if_ne hM.1 hM.2.1 dX7_deliver_18 (tgt := 23) (by decide) (fun h_18 => ?_) (fun h_18 => ?_)
    ·
      refine lv_aload_n hM.1 hM.2.1 dX7_deliver_23 rfl (lv_at hl 1 rfl) ?_
      refine z_getr hM hW zc7 hI.1.d7 rfl 4 (by decide) lf_X7_65 (t := 1) (j := 0) rfl hV.r74 dX7_deliver_24 (fun hd2_24 => ?_)
      refine lv_iload_n hM.1 hM.2.1 dX7_deliver_27 rfl (lv_at hl 2 rfl) ?_
      refine z_Vi hM (hml.trans hl.1.symm) hW hS hlo zc1 hd2_24 rfl zyX1_take lm_X7_130 li_yX1_take le_yX1_take (As := [.int (x)]) (rest := []) (c_X1_take hV.d1 hV.r10 hV.l15 hV.pm hV.tk hI.cn.1 hI.cn.2) rfl rfl (Nat.le_of_ble_eq_true rfl) ⟨Nat.le_of_ble_eq_true rfl, Nat.le_of_ble_eq_true rfl⟩ ⟨Nat.le_of_ble_eq_true rfl, Nat.le_of_ble_eq_true rfl⟩ dX7_deliver_28 (fun H locs hW hS => ?_)
      obtain ⟨B1, hB1⟩ : ∃ B, B = (s_X1_take S (pmR S.2.2) (tkR S.2.2) (ix (gi S 1 0 2)) (x)) := ⟨_, rfl⟩
      rw [← hB1] at hW
      have hV1 : zV n Z B1.2.2 := by rw [hB1]; exact (take_zV hV hq_5 hI.cn.1 hI.cn.2).1
      have g1 := take_gi (tk := tkR S.2.2) hq_5 hI.cn.1 hI.cn.2
      rw [← hB1] at g1
      have h0_B1 : ¬ gi B1 1 0 2 < 0 := by rw [g1.2.1]; exact nI_pos (by have := hI.cn.2; omega)
      refine lv_pop hM.1 hM.2.1 dX7_deliver_31 rfl ?_
      refine lv_aload_n hM.1 hM.2.1 dX7_deliver_32 rfl (lv_at hl 1 rfl) ?_
      refine lv_dup hM.1 hM.2.1 dX7_deliver_33 rfl ?_
      refine z_get hM hW zc7 hI.1.d7 rfl 8 (by decide) lf_X7_113 (v := .int (gi B1 7 (0) (8))) rfl dX7_deliver_34 ?_
      refine lv_iconst (v := 1) hM.1 hM.2.1 dX7_deliver_37 (by decide) ?_
      refine lv_iadd hM.1 hM.2.1 dX7_deliver_38 ?_
      refine z_puti hM hW hS zc7 hI.1.d7 rfl 8 (by decide) rfl lf_X7_113 (Or.inl rfl) (tyX7 8) (tyX7_ok 8 (by decide)) rfl rfl dX7_deliver_39 (fun H locs hW hS => ?_)
      refine lv_aload_n hM.1 hM.2.1 dX7_deliver_42 rfl (lv_at hl 0 rfl) ?_
      refine z_get hM hW zc4 hd_5 rfl 1 (by decide) lf_X7_134 (v := .int (gi B1 4 (q5) (1))) rfl dX7_deliver_43 ?_
      refine lv_if_eq hM.1 hM.2.1 dX7_deliver_46 (tgt := 57) (by decide) (fun h_46 => ?_) (fun h_46 => ?_)
      ·
        refine lv_aload_n hM.1 hM.2.1 dX7_deliver_57 rfl (lv_at hl 1 rfl) ?_
        refine lv_aload_n hM.1 hM.2.1 dX7_deliver_58 rfl (lv_at hl 0 rfl) ?_
        refine z_Vv hM (hml.trans hl.1.symm) hW hS hlo zc7 hI.1.d7 rfl zyX7_serve lm_X7_144 li_yX7_serve le_yX7_serve (As := [.ref (Z.1 4 (q5))]) (rest := []) (c_X7_serve hV1 hb_5 (by rw [gi_si, if_neg (by simp), g1.1 _ _ _ (by simp)]; exact hI.2.2 _ hb_5) (by show ¬ gi B1 1 0 2 < 0; exact h0_B1)) rfl rfl (Nat.le_of_ble_eq_true rfl) ⟨Nat.le_of_ble_eq_true rfl, Nat.le_of_ble_eq_true rfl⟩ ⟨Nat.le_of_ble_eq_true rfl, Nat.le_of_ble_eq_true rfl⟩ dX7_deliver_59 (fun H locs hW hS => ?_)
        refine lv_iconst (v := 1) hM.1 hM.2.1 dX7_deliver_62 (by decide) ?_
        exact z_iret hM hlk hr rfl hW hS (zF.of (by subst hB1; unfold r_X7_deliver; rw [oel_s hq_5, pif_neg h_18, pif_pos h_46]; first | done | rfl) (by subst hB1; unfold s_X7_deliver; rw [oel_s hq_5, pif_neg h_18, pif_pos h_46]; first | done | rfl)) dX7_deliver_63
      ·
        refine lv_aload_n hM.1 hM.2.1 dX7_deliver_49 rfl (lv_at hl 1 rfl) ?_
        refine lv_aload_n hM.1 hM.2.1 dX7_deliver_50 rfl (lv_at hl 0 rfl) ?_
        refine z_Vv hM (hml.trans hl.1.symm) hW hS hlo zc7 hI.1.d7 rfl zyX7_hear lm_X7_140 li_yX7_hear le_yX7_hear (As := [.ref (Z.1 4 (q5))]) (rest := []) (c_X7_hear hV1 hb_5 (by show ¬ gi B1 1 0 2 < 0; exact h0_B1)) rfl rfl (Nat.le_of_ble_eq_true rfl) ⟨Nat.le_of_ble_eq_true rfl, Nat.le_of_ble_eq_true rfl⟩ ⟨Nat.le_of_ble_eq_true rfl, Nat.le_of_ble_eq_true rfl⟩ dX7_deliver_51 (fun H locs hW hS => ?_)
        refine lv_goto hM.1 hM.2.1 dX7_deliver_54 (tgt := 62) (by decide) ?_
        refine lv_iconst (v := 1) hM.1 hM.2.1 dX7_deliver_62 (by decide) ?_
        exact z_iret hM hlk hr rfl hW hS (zF.of (by subst hB1; unfold r_X7_deliver; rw [oel_s hq_5, pif_neg h_18, pif_neg h_46]; first | done | rfl) (by subst hB1; unfold s_X7_deliver; rw [oel_s hq_5, pif_neg h_18, pif_neg h_46]; first | done | rfl)) dX7_deliver_63
    ·
      refine lv_iconst (v := 0) hM.1 hM.2.1 dX7_deliver_21 (by decide) ?_
      exact z_iret hM hlk hr rfl hW hS (zF.of (by unfold r_X7_deliver; rw [oel_s hq_5, pif_pos h_18]; first | done | rfl) (by unfold s_X7_deliver; rw [oel_s hq_5, pif_pos h_18]; first | done | rfl)) dX7_deliver_22
