noncomputable def r_X7_resume (S : zS) (n : Nat) (a : Nat) : Int32 :=
  (oel (atI 4 (0)) ((-1)) (fun q2 => 
    (pif ((r_X7_canBegin S n (q2)) = (0)) ((-1)) 
      (pif ((gi S 2 (q2) (6)) < (gi S 2 (q2) (7))) (r_X7_beginChange S n (q2) (a) (gi S 2 (q2) (7))) ((-1))))))
noncomputable def s_X7_resume (S : zS) (n : Nat) (a : Nat) : zS :=
  (oel (atI 4 (0)) (S) (fun q2 => 
    (pif ((r_X7_canBegin S n (q2)) = (0)) (S) 
      (pif ((gi S 2 (q2) (6)) < (gi S 2 (q2) (7))) ((s_X7_beginChange S n (q2) (a) (gi S 2 (q2) (7)))) (S)))))
set_option maxHeartbeats 400000 in
set_option maxRecDepth 100000 in
theorem c_X7_resume {l : Launch} {D : va_G} {ar : Nat → ClassId} {A : Nat → Prop} {Z : zZ} {S : zS} {n : Nat} {a : Nat} (hV : zV n Z S.2.2) (hac : gi S 7 0 7 = nI a) (ha0 : a ≤ 200) (hf0 : a < 200 → ¬ Z.2.1 0 a) (hc0 : ¬ gi S 1 0 2 < 0) : zMet l yX7_resume prog_1_method_4_code 2 (some .int) ({ frames := 6, cells := 1, slots := 9, locals := 142 } : Room) D ar A Z S [.ref (Z.1 7 (0))] rvI (fun r Z' S' => r = r_X7_resume S n a ∧ S' = s_X7_resume S n a ∧ ((Z' = Z ∧ S' = S) ∨ ∃ c, atI 4 0 = some c ∧ gr S 2 c 2 = none ∧ a < 200 ∧ zext Z Z' 0 a 0 ∧ S' = s_X7_beginChange S n c a (gi S 2 c 7))) := by
  refine z_body (by decide +kernel) (Nat.le_of_ble_eq_true rfl) ?_
  intro pX eX sX mX bX methX cX ls hM hr hlk hml hin hl hW hlo
  have hM : zM pX cX mX _ sX prog_1_method_4_code RX7 D ar := hM
  have hS : va_S A sX.heap sX.heap [] := va_S.rf
  have hl : lv_has ls 2 [(0, .ref (Z.1 7 (0)))] := hl
  refine lv_aload_n hM.1 hM.2.1 dX7_resume_0 rfl (lv_at hl 0 rfl) ?_
  refine lv_iconst (v := 0) hM.1 hM.2.1 dX7_resume_1 (by decide) ?_
  refine z_Vr hM (hml.trans hl.1.symm) hW hS hlo zc7 hV.d7 rfl zyX7_clientAt lm_X7_69 li_yX7_clientAt le_yX7_clientAt (As := [.int (0)]) (rest := []) (c_X7_clientAt hV) rfl rfl (Nat.le_of_ble_eq_true rfl) ⟨Nat.le_of_ble_eq_true rfl, Nat.le_of_ble_eq_true rfl⟩ ⟨Nat.le_of_ble_eq_true rfl, Nat.le_of_ble_eq_true rfl⟩ dX7_resume_2 (fun H locs hW hS => ?_)
  rcases hq_2 : atI 4 (0) with _ | q2
  ·
    refine lv_astore_nN hM.1 hM.2.1 dX7_resume_5 rfl hl (by decide) (lv' := [(1, .null), (0, .ref (Z.1 7 (0)))]) rfl (fun ls hl => ?_)
    refine lv_aload_nN hM.1 hM.2.1 dX7_resume_6 rfl (lv_at hl 0 rfl) ?_
    refine lv_ifnullN hM.1 hM.2.1 dX7_resume_7 (tgt := 29) (by decide) ?_
    refine lv_iconst (v := (-1)) hM.1 hM.2.1 dX7_resume_29 (by decide) ?_
    refine W.widen (k := 1) (n := 9) (Nat.le_of_ble_eq_true rfl) (Nat.le_of_ble_eq_true rfl) ?_
    exact z_iret hM hlk hr rfl hW hS ⟨(by unfold r_X7_resume; rw [oel_n hq_2]; first | done | rfl), (by unfold s_X7_resume; rw [oel_n hq_2]; first | done | rfl), (Or.inl ⟨rfl, rfl⟩)⟩ dX7_resume_30
  ·
    obtain ⟨he_2, hb_2, hn0_2, hn1_2⟩ := atI_some (by decide) hq_2
    have hd_2 := hV.d2 hb_2
    refine lv_astore_n hM.1 hM.2.1 dX7_resume_5 rfl hl (by decide) (lv' := [(1, .ref (Z.1 2 (q2))), (0, .ref (Z.1 7 (0)))]) rfl (fun ls hl => ?_)
    refine lv_aload_n hM.1 hM.2.1 dX7_resume_6 rfl (lv_at hl 0 rfl) ?_
    refine lv_ifnull hM.1 hM.2.1 dX7_resume_7 ?_
    refine lv_aload_n hM.1 hM.2.1 dX7_resume_10 rfl (lv_at hl 1 rfl) ?_
    refine lv_aload_n hM.1 hM.2.1 dX7_resume_11 rfl (lv_at hl 0 rfl) ?_
    refine z_Vi hM (hml.trans hl.1.symm) hW hS hlo zc7 hV.d7 rfl zyX7_canBegin lm_X7_73 li_yX7_canBegin le_yX7_canBegin (As := [.ref (Z.1 2 (q2))]) (rest := []) (c_X7_canBegin hV hd_2) rfl rfl (Nat.le_of_ble_eq_true rfl) ⟨Nat.le_of_ble_eq_true rfl, Nat.le_of_ble_eq_true rfl⟩ ⟨Nat.le_of_ble_eq_true rfl, Nat.le_of_ble_eq_true rfl⟩ dX7_resume_12 (fun H locs hW hS => ?_)
    refine lv_if_eq hM.1 hM.2.1 dX7_resume_15 (tgt := 29) (by decide) (fun h_15 => ?_) (fun h_15 => ?_)
    ·
      refine lv_iconst (v := (-1)) hM.1 hM.2.1 dX7_resume_29 (by decide) ?_
      refine W.widen (k := 1) (n := 9) (Nat.le_of_ble_eq_true rfl) (Nat.le_of_ble_eq_true rfl) ?_
      exact z_iret hM hlk hr rfl hW hS ⟨(by unfold r_X7_resume; rw [oel_s hq_2, pif_pos h_15]; first | done | rfl), (by unfold s_X7_resume; rw [oel_s hq_2, pif_pos h_15]; first | done | rfl), (Or.inl ⟨rfl, rfl⟩)⟩ dX7_resume_30
    ·
      refine lv_aload_n hM.1 hM.2.1 dX7_resume_18 rfl (lv_at hl 0 rfl) ?_
      refine z_get hM hW zc2 hd_2 rfl 6 (by decide) lf_X7_77 (v := .int (gi S 2 (q2) (6))) rfl dX7_resume_19 ?_
      refine lv_aload_n hM.1 hM.2.1 dX7_resume_22 rfl (lv_at hl 0 rfl) ?_
      refine z_get hM hW zc2 hd_2 rfl 7 (by decide) lf_X7_80 (v := .int (gi S 2 (q2) (7))) rfl dX7_resume_23 ?_
      refine lv_icmp_lt hM.1 hM.2.1 dX7_resume_26 (tgt := 31) (by decide) (fun h_26 => ?_) (fun h_26 => ?_)
      ·
        refine lv_aload_n hM.1 hM.2.1 dX7_resume_31 rfl (lv_at hl 1 rfl) ?_
        refine lv_aload_n hM.1 hM.2.1 dX7_resume_32 rfl (lv_at hl 0 rfl) ?_
        refine lv_aload_n hM.1 hM.2.1 dX7_resume_33 rfl (lv_at hl 0 rfl) ?_
        refine z_get hM hW zc2 hd_2 rfl 7 (by decide) lf_X7_80 (v := .int (gi S 2 (q2) (7))) rfl dX7_resume_34 ?_
        obtain ⟨ha2, hno⟩ := canBegin_lt hac h_15 ha0
        refine z_callV hM (hml.trans hl.1.symm) hW hS hlo zc7 hV.d7 zyX7_beginChange lm_X7_87 li_yX7_beginChange le_yX7_beginChange (As := [.ref (Z.1 2 (q2)), .int (gi S 2 (q2) (7))]) (rest := []) (c_X7_beginChange (n := n) (a := a) hV hb_2 hac ha2 (hf0 ha2) hc0) rfl rfl (Nat.le_of_ble_eq_true rfl) ⟨Nat.le_of_ble_eq_true rfl, Nat.le_of_ble_eq_true rfl⟩ ⟨Nat.le_of_ble_eq_true rfl, Nat.le_of_ble_eq_true rfl⟩ dX7_resume_37 (fun r Z9 S9 H locs hp hW hS => ?_)
        obtain ⟨e1, e2, hx9⟩ := hp
        subst e1 e2
        refine W.eq (g2 := F0 mX 40 ls [.int (r_X7_beginChange S n (q2) (a) (gi S 2 (q2) (7)))]) rfl ?_
        refine W.widen (k := 1) (n := 9) (Nat.le_of_ble_eq_true rfl) (Nat.le_of_ble_eq_true rfl) ?_
        exact z_iret hM hlk hr rfl hW hS ⟨(by unfold r_X7_resume; rw [oel_s hq_2, pif_neg h_15, pif_pos h_26]; first | done | rfl), (by unfold s_X7_resume; rw [oel_s hq_2, pif_neg h_15, pif_pos h_26]; first | done | rfl), (Or.inr ⟨q2, rfl, hno, ha2, hx9, rfl⟩)⟩ dX7_resume_40
      ·
        refine lv_iconst (v := (-1)) hM.1 hM.2.1 dX7_resume_29 (by decide) ?_
        refine W.widen (k := 1) (n := 9) (Nat.le_of_ble_eq_true rfl) (Nat.le_of_ble_eq_true rfl) ?_
        exact z_iret hM hlk hr rfl hW hS ⟨(by unfold r_X7_resume; rw [oel_s hq_2, pif_neg h_15, pif_neg h_26]; first | done | rfl), (by unfold s_X7_resume; rw [oel_s hq_2, pif_neg h_15, pif_neg h_26]; first | done | rfl), (Or.inl ⟨rfl, rfl⟩)⟩ dX7_resume_30
