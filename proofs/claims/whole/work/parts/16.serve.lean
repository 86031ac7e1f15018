noncomputable def s_X7_serve (S : zS) (n : Nat) (j : Nat) : zS := 
  (oel (atI n (gi S 4 (j) (2))) (S) (fun q5 => 
    (pif ((gi (s_X3_obey S (q5) (j)) 1 (0) (2)) < (300)) ((s_X6_set (si (si (si (s_X4_repeat (si (s_X3_obey S (q5) (j)) 1 (0) (2) ((gi (s_X3_obey S (q5) (j)) 1 (0) (2)) + 1)) (pmR S.2.2 (ix (gi (s_X3_obey S (q5) (j)) 1 (0) (2)))) (j)) 4 (pmR S.2.2 (ix (gi (s_X3_obey S (q5) (j)) 1 (0) (2)))) (1) (1)) 4 (pmR S.2.2 (ix (gi (s_X3_obey S (q5) (j)) 1 (0) (2)))) (7) (gi (s_X4_repeat (si (s_X3_obey S (q5) (j)) 1 (0) (2) ((gi (s_X3_obey S (q5) (j)) 1 (0) (2)) + 1)) (pmR S.2.2 (ix (gi (s_X3_obey S (q5) (j)) 1 (0) (2)))) (j)) 3 (q5) (1))) 4 (pmR S.2.2 (ix (gi (s_X3_obey S (q5) (j)) 1 (0) (2)))) (8) (gi (s_X4_repeat (si (s_X3_obey S (q5) (j)) 1 (0) (2) ((gi (s_X3_obey S (q5) (j)) 1 (0) (2)) + 1)) (pmR S.2.2 (ix (gi (s_X3_obey S (q5) (j)) 1 (0) (2)))) (j)) 3 (q5) (2))) (20 + (pmR S.2.2 (ix (gi (s_X3_obey S (q5) (j)) 1 (0) (2))))) (q5))) ((si (s_X3_obey S (q5) (j)) 1 (0) (3) ((gi (s_X3_obey S (q5) (j)) 1 (0) (3)) + 1))))))
theorem k_X7_serve {S : zS} {n : Nat} {j : Nat} : (s_X7_serve S n j).2.2 = S.2.2 := by unfold s_X7_serve; simp only [pif_22, oel_22, k_si, k_sj, pif_same, oel_same, k_X6_set, k_X6_put, k_X0_showTag, k_X4_repeat, k_X7_sendRequest, k_X7_sendRequests, k_X7_beginPhase, k_X7_endPhase, k_X7_again, k_X3_obey]
set_option maxHeartbeats 400000 in
set_option maxRecDepth 100000 in
theorem c_X7_serve {l : Launch} {D : va_G} {ar : Nat → ClassId} {A : Nat → Prop} {Z : zZ} {S : zS} {n : Nat} {j : Nat} (hV : zV n Z S.2.2) (hj : j < 301) (hb : isB (gi S 4 j 1)) (hc0 : ¬ gi S 1 0 2 < 0) : zMet l yX7_serve prog_1_method_34_code 4 none ({ frames := 2, cells := 0, slots := 0, locals := 42 } : Room) D ar A Z S [.ref (Z.1 7 (0)), .ref (Z.1 4 (j))] rvV (zF () Z (s_X7_serve S n j)) := by
  refine z_body (by decide +kernel) (Nat.le_of_ble_eq_true rfl) ?_
  intro pX eX sX mX bX methX cX ls hM hr hlk hml hin hl hW hlo
  have hM : zM pX cX mX _ sX prog_1_method_34_code RX7 D ar := hM
  have hS : va_S A sX.heap sX.heap [] := va_S.rf
  have hl : lv_has ls 4 [(0, .ref (Z.1 7 (0))), (1, .ref (Z.1 4 (j)))] := hl
  refine lv_aload_n hM.1 hM.2.1 dX7_serve_0 rfl (lv_at hl 0 rfl) ?_
  refine lv_aload_n hM.1 hM.2.1 dX7_serve_1 rfl (lv_at hl 1 rfl) ?_
  refine z_get hM hW zc4 (hV.d4 hj) rfl 2 (by decide) lf_X7_195 (v := .int (gi S 4 (j) (2))) rfl dX7_serve_2 ?_
  refine z_Vr hM (hml.trans hl.1.symm) hW hS hlo zc7 hV.d7 rfl zyX7_copyAt lm_X7_161 li_yX7_copyAt le_yX7_copyAt (As := [.int (gi S 4 (j) (2))]) (rest := []) (c_X7_copyAt hV) rfl rfl (Nat.le_of_ble_eq_true rfl) ⟨Nat.le_of_ble_eq_true rfl, Nat.le_of_ble_eq_true rfl⟩ ⟨Nat.le_of_ble_eq_true rfl, Nat.le_of_ble_eq_true rfl⟩ dX7_serve_5 (fun H locs hW hS => ?_)
  rcases hq_5 : atI n (gi S 4 (j) (2)) with _ | q5
  ·
    refine lv_astore_nN hM.1 hM.2.1 dX7_serve_8 rfl hl (by decide) (lv' := [(2, .null), (0, .ref (Z.1 7 (0))), (1, .ref (Z.1 4 (j)))]) rfl (fun ls hl => ?_)
    refine lv_aload_nN hM.1 hM.2.1 dX7_serve_9 rfl (lv_at hl 0 rfl) ?_
    refine lv_ifnonnullN hM.1 hM.2.1 dX7_serve_10 ?_
    exact z_vret hM hlk hr hW hS (zF.of rfl (by unfold s_X7_serve; rw [oel_n hq_5]; first | done | rfl)) dX7_serve_13
  ·
    obtain ⟨he_5, hb_5, hn0_5, hn1_5⟩ := atI_some (by have := hV.n7; omega) hq_5
    have hd_5 := hV.d3 hb_5
    refine lv_astore_n hM.1 hM.2.1 dX7_serve_8 rfl hl (by decide) (lv' := [(2, .ref (Z.1 3 (q5))), (0, .ref (Z.1 7 (0))), (1, .ref (Z.1 4 (j)))]) rfl (fun ls hl => ?_)
    refine lv_aload_n hM.1 hM.2.1 dX7_serve_9 rfl (lv_at hl 0 rfl) ?_
    refine lv_ifnonnull hM.1 hM.2.1 dX7_serve_10 (tgt := 14) (by decide) ?_
    refine lv_aload_n hM.1 hM.2.1 dX7_serve_14 rfl (lv_at hl 0 rfl) ?_
    refine lv_aload_n hM.1 hM.2.1 dX7_serve_15 rfl (lv_at hl 2 rfl) ?_
    refine z_Vv hM (hml.trans hl.1.symm) hW hS hlo zc3 hd_5 rfl zyX3_obey lm_X7_267 li_yX3_obey le_yX3_obey (As := [.ref (Z.1 4 (j))]) (rest := []) (c_X3_obey hd_5 (hV.d4 hj) (hV.r3 hb_5) (hV.r4 hj)) rfl rfl (Nat.le_of_ble_eq_true rfl) ⟨Nat.le_of_ble_eq_true rfl, Nat.le_of_ble_eq_true rfl⟩ ⟨Nat.le_of_ble_eq_true rfl, Nat.le_of_ble_eq_true rfl⟩ dX7_serve_16 (fun H locs hW hS => ?_)
    obtain ⟨B1, hB1⟩ : ∃ B, B = (s_X3_obey S (q5) (j)) := ⟨_, rfl⟩
    rw [← hB1] at hW
    have ke_B1 : B1.2.2 = S.2.2 := by rw [hB1]; simp only [pif_22, oel_22, k_si, k_sj, pif_same, oel_same, k_X6_set, k_X6_put, k_X0_showTag, k_X4_repeat, k_X7_sendRequest, k_X7_sendRequests, k_X7_beginPhase, k_X7_endPhase, k_X7_again, k_X3_obey]
    refine lv_aload_n hM.1 hM.2.1 dX7_serve_19 rfl (lv_at hl 1 rfl) ?_
    refine z_getr hM hW zc7 hV.d7 rfl 4 (by decide) lf_X7_65 (t := 1) (j := 0) rfl ((gr_of ke_B1).trans hV.r74) dX7_serve_20 (fun hd1_20 => ?_)
    refine z_Vr hM (hml.trans hl.1.symm) hW hS hlo zc1 hd1_20 rfl zyX1_next lm_X7_154 li_yX1_next le_yX1_next (As := []) (rest := []) (c_X1_next (pm := pmR S.2.2) hV.d1 ((gr_of ke_B1).trans hV.r10) hV.l15 (fun j hj => (gr_of ke_B1).trans (hV.pm j hj)) (by rw [hB1, gi_obey]; exact hc0)) rfl rfl (Nat.le_of_ble_eq_true rfl) ⟨Nat.le_of_ble_eq_true rfl, Nat.le_of_ble_eq_true rfl⟩ ⟨Nat.le_of_ble_eq_true rfl, Nat.le_of_ble_eq_true rfl⟩ dX7_serve_23 (fun H locs hW hS => ?_)
    by_cases hn_23 : (gi B1 1 (0) (2)) < (300)
    ·
      rw [r_next_pos hn_23]
      rw [s_next_pos hn_23] at hW
      have hb_23 := hV.pmlt (next_lt (by rw [hB1, gi_obey]; exact hc0) hn_23)
      have hd_23 := hV.d4 hb_23
      refine lv_astore_n hM.1 hM.2.1 dX7_serve_26 rfl hl (by decide) (lv' := [(3, .ref (Z.1 4 (pmR S.2.2 (ix (gi B1 1 (0) (2)))))), (2, .ref (Z.1 3 (q5))), (0, .ref (Z.1 7 (0))), (1, .ref (Z.1 4 (j)))]) rfl (fun ls hl => ?_)
      refine lv_aload_n hM.1 hM.2.1 dX7_serve_27 rfl (lv_at hl 0 rfl) ?_
      refine lv_ifnonnull hM.1 hM.2.1 dX7_serve_28 (tgt := 32) (by decide) ?_
      refine lv_aload_n hM.1 hM.2.1 dX7_serve_32 rfl (lv_at hl 0 rfl) ?_
      refine lv_aload_n hM.1 hM.2.1 dX7_serve_33 rfl (lv_at hl 3 rfl) ?_
      refine z_Vv hM (hml.trans hl.1.symm) hW hS hlo zc4 hd_23 rfl zyX4_repeat lm_X7_158 li_yX4_repeat le_yX4_repeat (As := [.ref (Z.1 4 (j))]) (rest := []) (c_X4_repeat hd_23 (hV.d4 hj) ((gr_of ke_B1).trans (hV.r4 hb_23)) ((gr_of ke_B1).trans (hV.r4 hj)) (by rw [gi_si, if_neg (by simp), hB1, gi_obey4]; exact hb)) rfl rfl (Nat.le_of_ble_eq_true rfl) ⟨Nat.le_of_ble_eq_true rfl, Nat.le_of_ble_eq_true rfl⟩ ⟨Nat.le_of_ble_eq_true rfl, Nat.le_of_ble_eq_true rfl⟩ dX7_serve_34 (fun H locs hW hS => ?_)
      obtain ⟨B2, hB2⟩ : ∃ B, B = (s_X4_repeat (si B1 1 (0) (2) ((gi B1 1 (0) (2)) + 1)) (pmR S.2.2 (ix (gi B1 1 (0) (2)))) (j)) := ⟨_, rfl⟩
      rw [← hB2] at hW
      have ke_B2 : B2.2.2 = S.2.2 := by rw [hB2]; simp only [pif_22, oel_22, k_si, k_sj, pif_same, oel_same, k_X6_set, k_X6_put, k_X0_showTag, k_X4_repeat, k_X7_sendRequest, k_X7_sendRequests, k_X7_beginPhase, k_X7_endPhase, k_X7_again, k_X3_obey, ke_B1]
      refine lv_aload_n hM.1 hM.2.1 dX7_serve_37 rfl (lv_at hl 0 rfl) ?_
      refine lv_iconst (v := 1) hM.1 hM.2.1 dX7_serve_38 (by decide) ?_
      refine z_puti hM hW hS zc4 hd_23 rfl 1 (by decide) rfl lf_X7_134 (Or.inl rfl) (tyX4 1) (tyX4_ok 1 (by decide)) rfl rfl dX7_serve_39 (fun H locs hW hS => ?_)
      refine lv_aload_n hM.1 hM.2.1 dX7_serve_42 rfl (lv_at hl 0 rfl) ?_
      refine lv_aload_n hM.1 hM.2.1 dX7_serve_43 rfl (lv_at hl 1 rfl) ?_
      refine z_get hM hW zc3 hd_5 rfl 1 (by decide) lf_X7_184 (v := .int (gi B2 3 (q5) (1))) rfl dX7_serve_44 ?_
      refine z_puti hM hW hS zc4 hd_23 rfl 7 (by decide) rfl lf_X7_262 (Or.inl rfl) (tyX4 7) (tyX4_ok 7 (by decide)) rfl rfl dX7_serve_47 (fun H locs hW hS => ?_)
      refine lv_aload_n hM.1 hM.2.1 dX7_serve_50 rfl (lv_at hl 0 rfl) ?_
      refine lv_aload_n hM.1 hM.2.1 dX7_serve_51 rfl (lv_at hl 1 rfl) ?_
      refine z_get hM hW zc3 hd_5 rfl 2 (by decide) lf_X7_185 (v := .int (gi B2 3 (q5) (2))) rfl dX7_serve_52 ?_
      refine z_puti hM hW hS zc4 hd_23 rfl 8 (by decide) rfl lf_X7_206 (Or.inl rfl) (tyX4 8) (tyX4_ok 8 (by decide)) rfl rfl dX7_serve_55 (fun H locs hW hS => ?_)
      refine lv_aload_n hM.1 hM.2.1 dX7_serve_58 rfl (lv_at hl 0 rfl) ?_
      refine z_getr hM hW zc4 hd_23 rfl 0 (by decide) lf_X7_205 (t := 6) (j := 20 + (pmR S.2.2 (ix (gi B1 1 (0) (2))))) rfl ((gr_of ke_B2).trans (hV.r4 hb_23)) dX7_serve_59 (fun hd2_59 => ?_)
      refine lv_aload_n hM.1 hM.2.1 dX7_serve_62 rfl (lv_at hl 1 rfl) ?_
      refine z_getr hM hW zc3 hd_5 rfl 0 (by decide) lf_X7_172 (t := 6) (j := q5) rfl ((gr_of ke_B2).trans (hV.r3 hb_5)) dX7_serve_63 (fun hd3_63 => ?_)
      refine z_Vv hM (hml.trans hl.1.symm) hW hS hlo zc6 hd2_59 rfl zyX6_set lm_X7_263 li_yX6_set le_yX6_set (As := [.ref (Z.1 6 (q5))]) (rest := []) (c_X6_set hd2_59 hd3_63) rfl rfl (Nat.le_of_ble_eq_true rfl) ⟨Nat.le_of_ble_eq_true rfl, Nat.le_of_ble_eq_true rfl⟩ ⟨Nat.le_of_ble_eq_true rfl, Nat.le_of_ble_eq_true rfl⟩ dX7_serve_66 (fun H locs hW hS => ?_)
      obtain ⟨B3, hB3⟩ : ∃ B, B = (s_X6_set (si (si (si B2 4 (pmR S.2.2 (ix (gi B1 1 (0) (2)))) (1) (1)) 4 (pmR S.2.2 (ix (gi B1 1 (0) (2)))) (7) (gi B2 3 (q5) (1))) 4 (pmR S.2.2 (ix (gi B1 1 (0) (2)))) (8) (gi B2 3 (q5) (2))) (20 + (pmR S.2.2 (ix (gi B1 1 (0) (2))))) (q5)) := ⟨_, rfl⟩
      rw [← hB3] at hW
      have ke_B3 : B3.2.2 = S.2.2 := by rw [hB3]; simp only [pif_22, oel_22, k_si, k_sj, pif_same, oel_same, k_X6_set, k_X6_put, k_X0_showTag, k_X4_repeat, k_X7_sendRequest, k_X7_sendRequests, k_X7_beginPhase, k_X7_endPhase, k_X7_again, k_X3_obey, ke_B2]
      exact z_vret hM hlk hr hW hS (zF.of rfl (by subst hB3; subst hB2; subst hB1; unfold s_X7_serve; rw [oel_s hq_5, pif_pos hn_23]; first | done | rfl)) dX7_serve_69
    ·
      rw [r_next_neg hn_23]
      rw [s_next_neg hn_23] at hW
      refine lv_astore_nN hM.1 hM.2.1 dX7_serve_26 rfl hl (by decide) (lv' := [(3, .null), (2, .ref (Z.1 3 (q5))), (0, .ref (Z.1 7 (0))), (1, .ref (Z.1 4 (j)))]) rfl (fun ls hl => ?_)
      refine lv_aload_nN hM.1 hM.2.1 dX7_serve_27 rfl (lv_at hl 0 rfl) ?_
      refine lv_ifnonnullN hM.1 hM.2.1 dX7_serve_28 ?_
      exact z_vret hM hlk hr hW hS (zF.of rfl (by subst hB1; unfold s_X7_serve; rw [oel_s hq_5, pif_neg hn_23]; first | done | rfl)) dX7_serve_31

noncomputable def r_X7_twice (S : zS) (n : Nat) (x : Int32) : Int32 := 
  (oel (r_X1_at S (pmR S.2.2) (x)) (0) (fun q5 => 
    (pif ((gi S 1 (0) (2)) < (300)) 
      (pif ((gi S 1 (0) (2)) < (300)) (1) (0)) (0))))
noncomputable def s_X7_twice (S : zS) (n : Nat) (x : Int32) : zS := 
  (oel (r_X1_at S (pmR S.2.2) (x)) (S) (fun q5 => 
    (pif ((gi S 1 (0) (2)) < (300)) 
      (pif ((gi S 1 (0) (2)) < (300)) ((s_X4_repeat (si S 1 (0) (2) ((gi S 1 (0) (2)) + 1)) (pmR S.2.2 (ix (gi S 1 (0) (2)))) (q5))) ((si S 1 (0) (3) ((gi S 1 (0) (3)) + 1)))) (S))))
theorem k_X7_twice {S : zS} {n : Nat} {x : Int32} : (s_X7_twice S n x).2.2 = S.2.2 := by unfold s_X7_twice; simp only [pif_22, oel_22, k_si, k_sj, pif_same, oel_same, k_X6_set, k_X6_put, k_X0_showTag, k_X4_repeat, k_X7_sendRequest, k_X7_sendRequests, k_X7_beginPhase, k_X7_endPhase, k_X7_again, k_X3_obey, k_X7_serve]
set_option maxHeartbeats 400000 in
set_option maxRecDepth 100000 in
theorem c_X7_twice {l : Launch} {D : va_G} {ar : Nat → ClassId} {A : Nat → Prop} {Z : zZ} {S : zS} {n : Nat} {x : Int32} (hV : zV n Z S.2.2) (hc0 : ¬ gi S 1 0 2 < 0) (hb : ∀ j, j < 301 → isB (gi S 4 j 1)) : zMet l yX7_twice prog_1_method_12_code 4 (some .boolean) ({ frames := 2, cells := 0, slots := 0, locals := 42 } : Room) D ar A Z S [.ref (Z.1 7 (0)), .int (x)] rvI (zF (r_X7_twice S n x) Z (s_X7_twice S n x)) := by
  refine z_body (by decide +kernel) (Nat.le_of_ble_eq_true rfl) ?_
  intro pX eX sX mX bX methX cX ls hM hr hlk hml hin hl hW hlo
  have hM : zM pX cX mX _ sX prog_1_method_12_code RX7 D ar := hM
  have hS : va_S A sX.heap sX.heap [] := va_S.rf
  have hl : lv_has ls 4 [(0, .ref (Z.1 7 (0))), (1, .int (x))] := hl
  refine lv_aload_n hM.1 hM.2.1 dX7_twice_0 rfl (lv_at hl 0 rfl) ?_
  refine z_getr hM hW zc7 hV.d7 rfl 4 (by decide) lf_X7_65 (t := 1) (j := 0) rfl hV.r74 dX7_twice_1 (fun hd1_1 => ?_)
  refine lv_iload_n hM.1 hM.2.1 dX7_twice_4 rfl (lv_at hl 1 rfl) ?_
  refine z_Vr hM (hml.trans hl.1.symm) hW hS hlo zc1 hd1_1 rfl zyX1_at lm_X7_122 li_yX1_at le_yX1_at (As := [.int (x)]) (rest := []) (c_X1_at hV.d1 hV.r10 hV.l15 hV.pm) rfl rfl (Nat.le_of_ble_eq_true rfl) ⟨Nat.le_of_ble_eq_true rfl, Nat.le_of_ble_eq_true rfl⟩ ⟨Nat.le_of_ble_eq_true rfl, Nat.le_of_ble_eq_true rfl⟩ dX7_twice_5 (fun H locs hW hS => ?_)
  rcases hq_5 : r_X1_at S (pmR S.2.2) (x) with _ | q5
  ·
    refine lv_astore_nN hM.1 hM.2.1 dX7_twice_8 rfl hl (by decide) (lv' := [(2, .null), (0, .ref (Z.1 7 (0))), (1, .int (x))]) rfl (fun ls hl => ?_)
    refine lv_aload_nN hM.1 hM.2.1 dX7_twice_9 rfl (lv_at hl 0 rfl) ?_
    refine lv_ifnullN hM.1 hM.2.1 dX7_twice_10 (tgt := 26) (by decide) ?_
    refine lv_iconst (v := 0) hM.1 hM.2.1 dX7_twice_26 (by decide) ?_
    exact z_iret hM hlk hr rfl hW hS (zF.of (by unfold r_X7_twice; rw [oel_n hq_5]; first | done | rfl) (by unfold s_X7_twice; rw [oel_n hq_5]; first | done | rfl)) dX7_twice_27
  ·
    obtain ⟨he_5, hb_5⟩ := rAt_some hV hq_5
    have hd_5 := hV.d4 hb_5
    refine lv_astore_n hM.1 hM.2.1 dX7_twice_8 rfl hl (by decide) (lv' := [(2, .ref (Z.1 4 (q5))), (0, .ref (Z.1 7 (0))), (1, .int (x))]) rfl (fun ls hl => ?_)
    refine lv_aload_n hM.1 hM.2.1 dX7_twice_9 rfl (lv_at hl 0 rfl) ?_
    refine lv_ifnull hM.1 hM.2.1 dX7_twice_10 ?_
    refine lv_aload_n hM.1 hM.2.1 dX7_twice_13 rfl (lv_at hl 1 rfl) ?_
    refine z_getr hM hW zc7 hV.d7 rfl 4 (by decide) lf_X7_65 (t := 1) (j := 0) rfl hV.r74 dX7_twice_14 (fun hd2_14 => ?_)
    refine z_get hM hW zc1 hd2_14 rfl 2 (by decide) lf_X7_148 (v := .int (gi S 1 (0) (2))) rfl dX7_twice_17 ?_
    refine lv_sipush (v := 300) hM.1 hM.2.1 dX7_twice_20 (by decide) ?_
    refine lv_icmp_lt hM.1 hM.2.1 dX7_twice_23 (tgt := 28) (by decide) (fun h_23 => ?_) (fun h_23 => ?_)
    ·
      refine lv_aload_n hM.1 hM.2.1 dX7_twice_28 rfl (lv_at hl 1 rfl) ?_
      refine z_getr hM hW zc7 hV.d7 rfl 4 (by decide) lf_X7_65 (t := 1) (j := 0) rfl hV.r74 dX7_twice_29 (fun hd3_29 => ?_)
      refine z_Vr hM (hml.trans hl.1.symm) hW hS hlo zc1 hd3_29 rfl zyX1_next lm_X7_154 li_yX1_next le_yX1_next (As := []) (rest := []) (c_X1_next (pm := pmR S.2.2) hV.d1 hV.r10 hV.l15 hV.pm hc0) rfl rfl (Nat.le_of_ble_eq_true rfl) ⟨Nat.le_of_ble_eq_true rfl, Nat.le_of_ble_eq_true rfl⟩ ⟨Nat.le_of_ble_eq_true rfl, Nat.le_of_ble_eq_true rfl⟩ dX7_twice_32 (fun H locs hW hS => ?_)
      by_cases hn_32 : (gi S 1 (0) (2)) < (300)
      ·
        rw [r_next_pos hn_32]
        rw [s_next_pos hn_32] at hW
        have hb_32 := hV.pmlt (next_lt hc0 hn_32)
        have hd_32 := hV.d4 hb_32
        refine lv_astore_n hM.1 hM.2.1 dX7_twice_35 rfl hl (by decide) (lv' := [(3, .ref (Z.1 4 (pmR S.2.2 (ix (gi S 1 (0) (2)))))), (2, .ref (Z.1 4 (q5))), (0, .ref (Z.1 7 (0))), (1, .int (x))]) rfl (fun ls hl => ?_)
        refine lv_aload_n hM.1 hM.2.1 dX7_twice_36 rfl (lv_at hl 0 rfl) ?_
        refine lv_ifnonnull hM.1 hM.2.1 dX7_twice_37 (tgt := 42) (by decide) ?_
        refine lv_aload_n hM.1 hM.2.1 dX7_twice_42 rfl (lv_at hl 0 rfl) ?_
        refine lv_aload_n hM.1 hM.2.1 dX7_twice_43 rfl (lv_at hl 1 rfl) ?_
        refine z_Vv hM (hml.trans hl.1.symm) hW hS hlo zc4 hd_32 rfl zyX4_repeat lm_X7_158 li_yX4_repeat le_yX4_repeat (As := [.ref (Z.1 4 (q5))]) (rest := []) (c_X4_repeat hd_32 hd_5 (hV.r4 hb_32) (hV.r4 hb_5) (hb _ hb_5)) rfl rfl (Nat.le_of_ble_eq_true rfl) ⟨Nat.le_of_ble_eq_true rfl, Nat.le_of_ble_eq_true rfl⟩ ⟨Nat.le_of_ble_eq_true rfl, Nat.le_of_ble_eq_true rfl⟩ dX7_twice_44 (fun H locs hW hS => ?_)
        obtain ⟨B1, hB1⟩ : ∃ B, B = (s_X4_repeat (si S 1 (0) (2) ((gi S 1 (0) (2)) + 1)) (pmR S.2.2 (ix (gi S 1 (0) (2)))) (q5)) := ⟨_, rfl⟩
        rw [← hB1] at hW
        have ke_B1 : B1.2.2 = S.2.2 := by rw [hB1]; simp only [pif_22, oel_22, k_si, k_sj, pif_same, oel_same, k_X6_set, k_X6_put, k_X0_showTag, k_X4_repeat, k_X7_sendRequest, k_X7_sendRequests, k_X7_beginPhase, k_X7_endPhase, k_X7_again, k_X3_obey, k_X7_serve]
        refine lv_iconst (v := 1) hM.1 hM.2.1 dX7_twice_47 (by decide) ?_
        exact z_iret hM hlk hr rfl hW hS (zF.of (by subst hB1; unfold r_X7_twice; rw [oel_s hq_5, pif_pos h_23, pif_pos hn_32]; first | done | rfl) (by subst hB1; unfold s_X7_twice; rw [oel_s hq_5, pif_pos h_23, pif_pos hn_32]; first | done | rfl)) dX7_twice_48
      ·
        rw [r_next_neg hn_32]
        rw [s_next_neg hn_32] at hW
        refine lv_astore_nN hM.1 hM.2.1 dX7_twice_35 rfl hl (by decide) (lv' := [(3, .null), (2, .ref (Z.1 4 (q5))), (0, .ref (Z.1 7 (0))), (1, .int (x))]) rfl (fun ls hl => ?_)
        refine lv_aload_nN hM.1 hM.2.1 dX7_twice_36 rfl (lv_at hl 0 rfl) ?_
        refine lv_ifnonnullN hM.1 hM.2.1 dX7_twice_37 ?_
        refine lv_iconst (v := 0) hM.1 hM.2.1 dX7_twice_40 (by decide) ?_
        exact z_iret hM hlk hr rfl hW hS (zF.of (by unfold r_X7_twice; rw [oel_s hq_5, pif_pos h_23, pif_neg hn_32]; first | done | rfl) (by unfold s_X7_twice; rw [oel_s hq_5, pif_pos h_23, pif_neg hn_32]; first | done | rfl)) dX7_twice_41
    ·
      refine lv_iconst (v := 0) hM.1 hM.2.1 dX7_twice_26 (by decide) ?_
      exact z_iret hM hlk hr rfl hW hS (zF.of (by unfold r_X7_twice; rw [oel_s hq_5, pif_neg h_23]; first | done | rfl) (by unfold s_X7_twice; rw [oel_s hq_5, pif_neg h_23]; first | done | rfl)) dX7_twice_27
