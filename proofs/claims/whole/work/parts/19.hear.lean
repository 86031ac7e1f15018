theorem gi_oel {α : Type} {o : Option α} {x : zS} {g : α → zS} {k i f : Nat} : gi (oel o x g) k i f = oel o (gi x k i f) (fun q => gi (g q) k i f) := by cases o <;> rfl
theorem gj_oel {α : Type} {o : Option α} {x : zS} {g : α → zS} {k i f : Nat} : gj (oel o x g) k i f = oel o (gj x k i f) (fun q => gj (g q) k i f) := by cases o <;> rfl
theorem gi_learn1 {S : zS} {c j : Nat} {i f : Nat} : gi (s_X2_learn S c j) 1 i f = gi S 1 i f := by
  unfold s_X2_learn
  simp only [gi_pif, s_X6_set, gi_sj]
  simp only [gi_si]
  simp [pif_same]
theorem k_X2_learn {S : zS} {c j : Nat} : (s_X2_learn S c j).2.2 = S.2.2 := by
  unfold s_X2_learn
  simp only [pif_22, k_si, k_sj, k_X6_set, pif_same]
theorem gi_end1 {S : zS} {n c a : Nat} {i f : Nat} : gi (s_X7_endPhase S n c a) 1 i f = gi S 1 i f := by
  unfold s_X7_endPhase
  simp only [gi_pif, s_X6_put, s_X0_showTag, gi_sj]
  simp only [gi_si, gi_sj]
  simp [pif_same]
theorem hc0_begin {S : zS} {n c a : Nat} {x : Int32} (h : ¬ gi S 1 0 2 < 0) : ¬ gi (s_X7_beginPhase S n c a x) 1 0 2 < 0 := by
  unfold s_X7_beginPhase
  by_cases hx : (x) = (5)
  · first | rw [pif_pos hx] | rw [pif_neg (fun q => q hx)]
    apply hc0_sends
    simp only [gi_si]
    simpa using h
  · first | rw [pif_neg hx] | rw [pif_pos hx]
    apply hc0_sends
    simp only [gi_si]
    simpa using h
noncomputable def s_X7_hear (S : zS) (n : Nat) (j : Nat) : zS := 
  (oel (atI 4 (gi S 4 (j) (3))) (S) (fun q5 => 
    (oel (gr S 2 q5 2) (S) (fun a => 
      (pif ((r_X2_counts S (q5) (j) (a)) = (0)) (S) 
        (pif ((gi S 4 (j) (7)) ≤ (gi S 2 (q5) (6))) 
          (pif ((r_X7_hasQuorum (s_X2_learn S (q5) (j)) n (q5) (a)) = (0)) ((s_X2_learn S (q5) (j))) 
            (pif ((r_X7_endPhase (s_X2_learn S (q5) (j)) n (q5) (a)) = (0)) ((s_X2_rest (si (s_X7_endPhase (s_X2_learn S (q5) (j)) n (q5) (a)) 0 (a) (4) (gi (s_X7_endPhase (s_X2_learn S (q5) (j)) n (q5) (a)) 7 (0) (8))) (q5))) ((s_X7_beginPhase (s_X7_endPhase (s_X2_learn S (q5) (j)) n (q5) (a)) n (q5) (a) (r_X7_endPhase (s_X2_learn S (q5) (j)) n (q5) (a)))))) 
          (pif ((gi (s_X2_learn S (q5) (j)) 2 (q5) (3)) = (1)) ((s_X7_beginPhase (s_X2_learn S (q5) (j)) n (q5) (a) (1))) 
            (pif ((r_X7_hasQuorum (s_X2_learn S (q5) (j)) n (q5) (a)) = (0)) ((s_X2_learn S (q5) (j))) 
              (pif ((r_X7_endPhase (s_X2_learn S (q5) (j)) n (q5) (a)) = (0)) ((s_X2_rest (si (s_X7_endPhase (s_X2_learn S (q5) (j)) n (q5) (a)) 0 (a) (4) (gi (s_X7_endPhase (s_X2_learn S (q5) (j)) n (q5) (a)) 7 (0) (8))) (q5))) ((s_X7_beginPhase (s_X7_endPhase (s_X2_learn S (q5) (j)) n (q5) (a)) n (q5) (a) (r_X7_endPhase (s_X2_learn S (q5) (j)) n (q5) (a)))))))))))))
set_option maxHeartbeats 400000 in
set_option maxRecDepth 100000 in
theorem c_X7_hear {l : Launch} {D : va_G} {ar : Nat → ClassId} {A : Nat → Prop} {Z : zZ} {S : zS} {n : Nat} {j : Nat} (hV : zV n Z S.2.2) (hj : j < 301) (hc0 : ¬ gi S 1 0 2 < 0) : zMet l yX7_hear prog_1_method_35_code 6 none ({ frames := 4, cells := 0, slots := 0, locals := 96 } : Room) D ar A Z S [.ref (Z.1 7 (0)), .ref (Z.1 4 (j))] rvV (zF () Z (s_X7_hear S n j)) := by
  refine z_body (by decide +kernel) (Nat.le_of_ble_eq_true rfl) ?_
  intro pX eX sX mX bX methX cX ls hM hr hlk hml hin hl hW hlo
  have hM : zM pX cX mX _ sX prog_1_method_35_code RX7 D ar := hM
  have hS : va_S A sX.heap sX.heap [] := va_S.rf
  have hl : lv_has ls 6 [(0, .ref (Z.1 7 (0))), (1, .ref (Z.1 4 (j)))] := hl
  refine lv_aload_n hM.1 hM.2.1 dX7_hear_0 rfl (lv_at hl 0 rfl) ?_
  refine lv_aload_n hM.1 hM.2.1 dX7_hear_1 rfl (lv_at hl 1 rfl) ?_
  refine z_get hM hW zc4 (hV.d4 hj) rfl 3 (by decide) lf_X7_198 (v := .int (gi S 4 (j) (3))) rfl dX7_hear_2 ?_
  refine z_Vr hM (hml.trans hl.1.symm) hW hS hlo zc7 hV.d7 rfl zyX7_clientAt lm_X7_69 li_yX7_clientAt le_yX7_clientAt (As := [.int (gi S 4 (j) (3))]) (rest := []) (c_X7_clientAt hV) rfl rfl (Nat.le_of_ble_eq_true rfl) ⟨Nat.le_of_ble_eq_true rfl, Nat.le_of_ble_eq_true rfl⟩ ⟨Nat.le_of_ble_eq_true rfl, Nat.le_of_ble_eq_true rfl⟩ dX7_hear_5 (fun H locs hW hS => ?_)
  rcases hq_5 : atI 4 (gi S 4 (j) (3)) with _ | q5
  ·
    refine lv_astore_nN hM.1 hM.2.1 dX7_hear_8 rfl hl (by decide) (lv' := [(2, .null), (0, .ref (Z.1 7 (0))), (1, .ref (Z.1 4 (j)))]) rfl (fun ls hl => ?_)
    refine lv_aload_nN hM.1 hM.2.1 dX7_hear_9 rfl (lv_at hl 0 rfl) ?_
    refine lv_ifnonnullN hM.1 hM.2.1 dX7_hear_10 ?_
    exact z_vret hM hlk hr hW hS (zF.of rfl (by unfold s_X7_hear; rw [oel_n hq_5]; first | done | rfl)) dX7_hear_13
  ·
    obtain ⟨he_5, hb_5, hn0_5, hn1_5⟩ := atI_some (by decide) hq_5
    have hd_5 := hV.d2 hb_5
    refine lv_astore_n hM.1 hM.2.1 dX7_hear_8 rfl hl (by decide) (lv' := [(2, .ref (Z.1 2 (q5))), (0, .ref (Z.1 7 (0))), (1, .ref (Z.1 4 (j)))]) rfl (fun ls hl => ?_)
    refine lv_aload_n hM.1 hM.2.1 dX7_hear_9 rfl (lv_at hl 0 rfl) ?_
    refine lv_ifnonnull hM.1 hM.2.1 dX7_hear_10 (tgt := 14) (by decide) ?_
    refine lv_aload_n hM.1 hM.2.1 dX7_hear_14 rfl (lv_at hl 0 rfl) ?_
    rcases hq_15 : gr S 2 q5 2 with _ | a
    ·
      refine z_get hM hW zc2 hd_5 rfl 2 (by decide) lf_X7_105 (v := .null) (by simp [zv, zvt, zk, zrv, hq_15]) dX7_hear_15 ?_
      refine lv_astore_nN hM.1 hM.2.1 dX7_hear_18 rfl hl (by decide) (lv' := [(3, .null), (2, .ref (Z.1 2 (q5))), (0, .ref (Z.1 7 (0))), (1, .ref (Z.1 4 (j)))]) rfl (fun ls hl => ?_)
      refine lv_aload_nN hM.1 hM.2.1 dX7_hear_19 rfl (lv_at hl 0 rfl) ?_
      refine lv_ifnullN hM.1 hM.2.1 dX7_hear_20 (tgt := 32) (by decide) ?_
      exact z_vret hM hlk hr hW hS (zF.of rfl (by unfold s_X7_hear; rw [oel_s hq_5, oel_n hq_15]; first | done | rfl)) dX7_hear_32
    ·
      refine z_getr hM hW zc2 hd_5 rfl 2 (by decide) lf_X7_105 (t := 0) (j := a) rfl hq_15 dX7_hear_15 (fun hd_15 => ?_)
      refine lv_astore_n hM.1 hM.2.1 dX7_hear_18 rfl hl (by decide) (lv' := [(3, .ref (Z.1 0 (a))), (2, .ref (Z.1 2 (q5))), (0, .ref (Z.1 7 (0))), (1, .ref (Z.1 4 (j)))]) rfl (fun ls hl => ?_)
      refine lv_aload_n hM.1 hM.2.1 dX7_hear_19 rfl (lv_at hl 0 rfl) ?_
      refine lv_ifnull hM.1 hM.2.1 dX7_hear_20 ?_
      refine lv_aload_n hM.1 hM.2.1 dX7_hear_23 rfl (lv_at hl 1 rfl) ?_
      refine lv_aload_n hM.1 hM.2.1 dX7_hear_24 rfl (lv_at hl 3 rfl) ?_
      refine lv_aload_n hM.1 hM.2.1 dX7_hear_25 rfl (lv_at hl 0 rfl) ?_
      refine z_Vi hM (hml.trans hl.1.symm) hW hS hlo zc2 hd_5 rfl zyX2_counts lm_X7_270 li_yX2_counts le_yX2_counts (As := [.ref (Z.1 4 (j)), .ref (Z.1 0 (a))]) (rest := []) (c_X2_counts hd_5 (hV.d4 hj) hd_15) rfl rfl (Nat.le_of_ble_eq_true rfl) ⟨Nat.le_of_ble_eq_true rfl, Nat.le_of_ble_eq_true rfl⟩ ⟨Nat.le_of_ble_eq_true rfl, Nat.le_of_ble_eq_true rfl⟩ dX7_hear_26 (fun H locs hW hS => ?_)
      refine lv_if_ne hM.1 hM.2.1 dX7_hear_29 (tgt := 33) (by decide) (fun h_29 => ?_) (fun h_29 => ?_)
      ·
        refine lv_aload_n hM.1 hM.2.1 dX7_hear_33 rfl (lv_at hl 3 rfl) ?_
        refine z_get hM hW zc4 (hV.d4 hj) rfl 7 (by decide) lf_X7_262 (v := .int (gi S 4 (j) (7))) rfl dX7_hear_34 ?_
        refine lv_aload_n hM.1 hM.2.1 dX7_hear_37 rfl (lv_at hl 1 rfl) ?_
        refine z_get hM hW zc2 hd_5 rfl 6 (by decide) lf_X7_77 (v := .int (gi S 2 (q5) (6))) rfl dX7_hear_38 ?_
        refine lv_icmp_le hM.1 hM.2.1 dX7_hear_41 (tgt := 48) (by decide) (fun h_41 => ?_) (fun h_41 => ?_)
        ·
          refine lv_iconst (v := 0) hM.1 hM.2.1 dX7_hear_48 (by decide) ?_
          refine lv_istore hM.1 hM.2.1 dX7_hear_49 hl (by decide) (lv' := [(4, .int (0)), (3, .ref (Z.1 0 (a))), (2, .ref (Z.1 2 (q5))), (0, .ref (Z.1 7 (0))), (1, .ref (Z.1 4 (j)))]) rfl (fun ls hl => ?_)
          refine lv_aload_n hM.1 hM.2.1 dX7_hear_51 rfl (lv_at hl 2 rfl) ?_
          refine lv_aload_n hM.1 hM.2.1 dX7_hear_52 rfl (lv_at hl 4 rfl) ?_
          refine z_Vv hM (hml.trans hl.1.symm) hW hS hlo zc2 hd_5 rfl zyX2_learn lm_X7_274 li_yX2_learn le_yX2_learn (As := [.ref (Z.1 4 (j))]) (rest := []) (c_X2_learn hd_5 (hV.d4 hj) (hV.r2 hb_5) (hV.r4 hj)) rfl rfl (Nat.le_of_ble_eq_true rfl) ⟨Nat.le_of_ble_eq_true rfl, Nat.le_of_ble_eq_true rfl⟩ ⟨Nat.le_of_ble_eq_true rfl, Nat.le_of_ble_eq_true rfl⟩ dX7_hear_53 (fun H locs hW hS => ?_)
          obtain ⟨B1, hB1⟩ : ∃ B, B = (s_X2_learn S (q5) (j)) := ⟨_, rfl⟩
          rw [← hB1] at hW
          have ke_B1 : B1.2.2 = S.2.2 := by rw [hB1]; simp only [pif_22, oel_22, k_si, k_sj, pif_same, oel_same, k_X6_set, k_X6_put, k_X0_showTag, k_X4_repeat, k_X7_sendRequest, k_X7_sendRequests, k_X7_beginPhase, k_X7_endPhase, k_X7_again, k_X3_obey, k_X7_serve, k_X7_twice, k_X2_learn]
          have h0_B1 : ¬ gi B1 1 0 2 < 0 := by rw [hB1, gi_learn1]; exact hc0
          refine lv_iload hM.1 hM.2.1 dX7_hear_56 (lv_at hl 0 rfl) ?_
          refine lv_if_eq hM.1 hM.2.1 dX7_hear_58 (tgt := 79) (by decide) (fun _ => ?_) (fun h => absurd (by decide) h)
          refine lv_aload_n hM.1 hM.2.1 dX7_hear_79 rfl (lv_at hl 3 rfl) ?_
          refine lv_aload_n hM.1 hM.2.1 dX7_hear_80 rfl (lv_at hl 2 rfl) ?_
          refine lv_aload_n hM.1 hM.2.1 dX7_hear_81 rfl (lv_at hl 1 rfl) ?_
          refine z_Vi hM (hml.trans hl.1.symm) hW hS hlo zc7 hV.d7 rfl zyX7_hasQuorum lm_X7_277 li_yX7_hasQuorum le_yX7_hasQuorum (As := [.ref (Z.1 2 (q5)), .ref (Z.1 0 (a))]) (rest := []) (c_X7_hasQuorum (hV.of ke_B1) hb_5 hd_15) rfl rfl (Nat.le_of_ble_eq_true rfl) ⟨Nat.le_of_ble_eq_true rfl, Nat.le_of_ble_eq_true rfl⟩ ⟨Nat.le_of_ble_eq_true rfl, Nat.le_of_ble_eq_true rfl⟩ dX7_hear_82 (fun H locs hW hS => ?_)
          refine lv_if_eq hM.1 hM.2.1 dX7_hear_85 (tgt := 124) (by decide) (fun h_85 => ?_) (fun h_85 => ?_)
          ·
            exact z_vret hM hlk hr hW hS (zF.of rfl (by subst hB1; unfold s_X7_hear; rw [oel_s hq_5, oel_s hq_15, pif_neg h_29, pif_pos h_41, pif_pos h_85]; first | done | rfl)) dX7_hear_124
          ·
            refine lv_aload_n hM.1 hM.2.1 dX7_hear_88 rfl (lv_at hl 3 rfl) ?_
            refine lv_aload_n hM.1 hM.2.1 dX7_hear_89 rfl (lv_at hl 2 rfl) ?_
            refine lv_aload_n hM.1 hM.2.1 dX7_hear_90 rfl (lv_at hl 1 rfl) ?_
            refine z_Vi hM (hml.trans hl.1.symm) hW hS hlo zc7 hV.d7 rfl zyX7_endPhase lm_X7_281 li_yX7_endPhase le_yX7_endPhase (As := [.ref (Z.1 2 (q5)), .ref (Z.1 0 (a))]) (rest := []) (c_X7_endPhase (hV.of ke_B1) hb_5 hd_15) rfl rfl (Nat.le_of_ble_eq_true rfl) ⟨Nat.le_of_ble_eq_true rfl, Nat.le_of_ble_eq_true rfl⟩ ⟨Nat.le_of_ble_eq_true rfl, Nat.le_of_ble_eq_true rfl⟩ dX7_hear_91 (fun H locs hW hS => ?_)
            obtain ⟨B2, hB2⟩ : ∃ B, B = (s_X7_endPhase B1 n (q5) (a)) := ⟨_, rfl⟩
            rw [← hB2] at hW
            have ke_B2 : B2.2.2 = S.2.2 := by rw [hB2]; simp only [pif_22, oel_22, k_si, k_sj, pif_same, oel_same, k_X6_set, k_X6_put, k_X0_showTag, k_X4_repeat, k_X7_sendRequest, k_X7_sendRequests, k_X7_beginPhase, k_X7_endPhase, k_X7_again, k_X3_obey, k_X7_serve, k_X7_twice, k_X2_learn, ke_B1]
            have h0_B2 : ¬ gi B2 1 0 2 < 0 := by rw [hB2, gi_end1]; exact h0_B1
            refine lv_istore hM.1 hM.2.1 dX7_hear_94 hl (by decide) (lv' := [(5, .int (r_X7_endPhase B1 n (q5) (a))), (4, .int (0)), (3, .ref (Z.1 0 (a))), (2, .ref (Z.1 2 (q5))), (0, .ref (Z.1 7 (0))), (1, .ref (Z.1 4 (j)))]) rfl (fun ls hl => ?_)
            refine lv_iload hM.1 hM.2.1 dX7_hear_96 (lv_at hl 0 rfl) ?_
            refine lv_if_ne hM.1 hM.2.1 dX7_hear_98 (tgt := 116) (by decide) (fun h_98 => ?_) (fun h_98 => ?_)
            ·
              refine lv_aload_n hM.1 hM.2.1 dX7_hear_116 rfl (lv_at hl 4 rfl) ?_
              refine lv_aload_n hM.1 hM.2.1 dX7_hear_117 rfl (lv_at hl 3 rfl) ?_
              refine lv_aload_n hM.1 hM.2.1 dX7_hear_118 rfl (lv_at hl 2 rfl) ?_
              refine lv_iload hM.1 hM.2.1 dX7_hear_119 (lv_at hl 0 rfl) ?_
              refine z_Vv hM (hml.trans hl.1.symm) hW hS hlo zc7 hV.d7 rfl zyX7_beginPhase lm_X7_252 li_yX7_beginPhase le_yX7_beginPhase (As := [.ref (Z.1 2 (q5)), .ref (Z.1 0 (a)), .int (r_X7_endPhase B1 n (q5) (a))]) (rest := []) (c_X7_beginPhase (hV.of ke_B2) hb_5 hd_15 h0_B2) rfl rfl (Nat.le_of_ble_eq_true rfl) ⟨Nat.le_of_ble_eq_true rfl, Nat.le_of_ble_eq_true rfl⟩ ⟨Nat.le_of_ble_eq_true rfl, Nat.le_of_ble_eq_true rfl⟩ dX7_hear_121 (fun H locs hW hS => ?_)
              obtain ⟨B3, hB3⟩ : ∃ B, B = (s_X7_beginPhase B2 n (q5) (a) (r_X7_endPhase B1 n (q5) (a))) := ⟨_, rfl⟩
              rw [← hB3] at hW
              have ke_B3 : B3.2.2 = S.2.2 := by rw [hB3]; simp only [pif_22, oel_22, k_si, k_sj, pif_same, oel_same, k_X6_set, k_X6_put, k_X0_showTag, k_X4_repeat, k_X7_sendRequest, k_X7_sendRequests, k_X7_beginPhase, k_X7_endPhase, k_X7_again, k_X3_obey, k_X7_serve, k_X7_twice, k_X2_learn, ke_B2]
              exact z_vret hM hlk hr hW hS (zF.of rfl (by subst hB3; subst hB2; subst hB1; unfold s_X7_hear; rw [oel_s hq_5, oel_s hq_15, pif_neg h_29, pif_pos h_41, pif_neg h_85, pif_neg h_98]; first | done | rfl)) dX7_hear_124
            ·
              refine lv_aload_n hM.1 hM.2.1 dX7_hear_101 rfl (lv_at hl 2 rfl) ?_
              refine lv_aload_n hM.1 hM.2.1 dX7_hear_102 rfl (lv_at hl 4 rfl) ?_
              refine z_get hM hW zc7 hV.d7 rfl 8 (by decide) lf_X7_113 (v := .int (gi B2 7 (0) (8))) rfl dX7_hear_103 ?_
              refine z_puti hM hW hS zc0 hd_15 rfl 4 (by decide) rfl lf_X7_221 (Or.inl rfl) (tyX0 4) (tyX0_ok 4 (by decide)) rfl rfl dX7_hear_106 (fun H locs hW hS => ?_)
              refine lv_aload_n hM.1 hM.2.1 dX7_hear_109 rfl (lv_at hl 3 rfl) ?_
              refine z_Vv hM (hml.trans hl.1.symm) hW hS hlo zc2 hd_5 rfl zyX2_rest lm_X7_116 li_yX2_rest le_yX2_rest (As := []) (rest := []) (c_X2_rest hd_5) rfl rfl (Nat.le_of_ble_eq_true rfl) ⟨Nat.le_of_ble_eq_true rfl, Nat.le_of_ble_eq_true rfl⟩ ⟨Nat.le_of_ble_eq_true rfl, Nat.le_of_ble_eq_true rfl⟩ dX7_hear_110 (fun H locs hW hS => ?_)
              refine lv_goto hM.1 hM.2.1 dX7_hear_113 (tgt := 124) (by decide) ?_
              exact z_vret hM hlk hr hW hS (zF.of rfl (by subst hB2; subst hB1; unfold s_X7_hear; rw [oel_s hq_5, oel_s hq_15, pif_neg h_29, pif_pos h_41, pif_neg h_85, pif_pos h_98]; first | done | rfl)) dX7_hear_124
        ·
          refine lv_iconst (v := 1) hM.1 hM.2.1 dX7_hear_44 (by decide) ?_
          refine lv_goto hM.1 hM.2.1 dX7_hear_45 (tgt := 49) (by decide) ?_
          refine lv_istore hM.1 hM.2.1 dX7_hear_49 hl (by decide) (lv' := [(4, .int (1)), (3, .ref (Z.1 0 (a))), (2, .ref (Z.1 2 (q5))), (0, .ref (Z.1 7 (0))), (1, .ref (Z.1 4 (j)))]) rfl (fun ls hl => ?_)
          refine lv_aload_n hM.1 hM.2.1 dX7_hear_51 rfl (lv_at hl 2 rfl) ?_
          refine lv_aload_n hM.1 hM.2.1 dX7_hear_52 rfl (lv_at hl 4 rfl) ?_
          refine z_Vv hM (hml.trans hl.1.symm) hW hS hlo zc2 hd_5 rfl zyX2_learn lm_X7_274 li_yX2_learn le_yX2_learn (As := [.ref (Z.1 4 (j))]) (rest := []) (c_X2_learn hd_5 (hV.d4 hj) (hV.r2 hb_5) (hV.r4 hj)) rfl rfl (Nat.le_of_ble_eq_true rfl) ⟨Nat.le_of_ble_eq_true rfl, Nat.le_of_ble_eq_true rfl⟩ ⟨Nat.le_of_ble_eq_true rfl, Nat.le_of_ble_eq_true rfl⟩ dX7_hear_53 (fun H locs hW hS => ?_)
          obtain ⟨B4, hB4⟩ : ∃ B, B = (s_X2_learn S (q5) (j)) := ⟨_, rfl⟩
          rw [← hB4] at hW
          have ke_B4 : B4.2.2 = S.2.2 := by rw [hB4]; simp only [pif_22, oel_22, k_si, k_sj, pif_same, oel_same, k_X6_set, k_X6_put, k_X0_showTag, k_X4_repeat, k_X7_sendRequest, k_X7_sendRequests, k_X7_beginPhase, k_X7_endPhase, k_X7_again, k_X3_obey, k_X7_serve, k_X7_twice, k_X2_learn]
          have h0_B4 : ¬ gi B4 1 0 2 < 0 := by rw [hB4, gi_learn1]; exact hc0
          refine lv_iload hM.1 hM.2.1 dX7_hear_56 (lv_at hl 0 rfl) ?_
          refine lv_if_eq hM.1 hM.2.1 dX7_hear_58 (tgt := 79) (by decide) (fun h => absurd h (by decide)) (fun _ => ?_)
          refine lv_aload_n hM.1 hM.2.1 dX7_hear_61 rfl (lv_at hl 2 rfl) ?_
          refine z_get hM hW zc2 hd_5 rfl 3 (by decide) lf_X7_189 (v := .int (gi B4 2 (q5) (3))) rfl dX7_hear_62 ?_
          refine lv_iconst (v := 1) hM.1 hM.2.1 dX7_hear_65 (by decide) ?_
          refine lv_icmp_ne hM.1 hM.2.1 dX7_hear_66 (tgt := 79) (by decide) (fun h_66 => ?_) (fun h_66 => ?_)
          ·
            refine lv_aload_n hM.1 hM.2.1 dX7_hear_79 rfl (lv_at hl 3 rfl) ?_
            refine lv_aload_n hM.1 hM.2.1 dX7_hear_80 rfl (lv_at hl 2 rfl) ?_
            refine lv_aload_n hM.1 hM.2.1 dX7_hear_81 rfl (lv_at hl 1 rfl) ?_
            refine z_Vi hM (hml.trans hl.1.symm) hW hS hlo zc7 hV.d7 rfl zyX7_hasQuorum lm_X7_277 li_yX7_hasQuorum le_yX7_hasQuorum (As := [.ref (Z.1 2 (q5)), .ref (Z.1 0 (a))]) (rest := []) (c_X7_hasQuorum (hV.of ke_B4) hb_5 hd_15) rfl rfl (Nat.le_of_ble_eq_true rfl) ⟨Nat.le_of_ble_eq_true rfl, Nat.le_of_ble_eq_true rfl⟩ ⟨Nat.le_of_ble_eq_true rfl, Nat.le_of_ble_eq_true rfl⟩ dX7_hear_82 (fun H locs hW hS => ?_)
            refine lv_if_eq hM.1 hM.2.1 dX7_hear_85 (tgt := 124) (by decide) (fun h_85 => ?_) (fun h_85 => ?_)
            ·
              exact z_vret hM hlk hr hW hS (zF.of rfl (by subst hB4; unfold s_X7_hear; rw [oel_s hq_5, oel_s hq_15, pif_neg h_29, pif_neg h_41, pif_neg h_66, pif_pos h_85]; first | done | rfl)) dX7_hear_124
            ·
              refine lv_aload_n hM.1 hM.2.1 dX7_hear_88 rfl (lv_at hl 3 rfl) ?_
              refine lv_aload_n hM.1 hM.2.1 dX7_hear_89 rfl (lv_at hl 2 rfl) ?_
              refine lv_aload_n hM.1 hM.2.1 dX7_hear_90 rfl (lv_at hl 1 rfl) ?_
              refine z_Vi hM (hml.trans hl.1.symm) hW hS hlo zc7 hV.d7 rfl zyX7_endPhase lm_X7_281 li_yX7_endPhase le_yX7_endPhase (As := [.ref (Z.1 2 (q5)), .ref (Z.1 0 (a))]) (rest := []) (c_X7_endPhase (hV.of ke_B4) hb_5 hd_15) rfl rfl (Nat.le_of_ble_eq_true rfl) ⟨Nat.le_of_ble_eq_true rfl, Nat.le_of_ble_eq_true rfl⟩ ⟨Nat.le_of_ble_eq_true rfl, Nat.le_of_ble_eq_true rfl⟩ dX7_hear_91 (fun H locs hW hS => ?_)
              obtain ⟨B5, hB5⟩ : ∃ B, B = (s_X7_endPhase B4 n (q5) (a)) := ⟨_, rfl⟩
              rw [← hB5] at hW
              have ke_B5 : B5.2.2 = S.2.2 := by rw [hB5]; simp only [pif_22, oel_22, k_si, k_sj, pif_same, oel_same, k_X6_set, k_X6_put, k_X0_showTag, k_X4_repeat, k_X7_sendRequest, k_X7_sendRequests, k_X7_beginPhase, k_X7_endPhase, k_X7_again, k_X3_obey, k_X7_serve, k_X7_twice, k_X2_learn, ke_B4]
              have h0_B5 : ¬ gi B5 1 0 2 < 0 := by rw [hB5, gi_end1]; exact h0_B4
              refine lv_istore hM.1 hM.2.1 dX7_hear_94 hl (by decide) (lv' := [(5, .int (r_X7_endPhase B4 n (q5) (a))), (4, .int (1)), (3, .ref (Z.1 0 (a))), (2, .ref (Z.1 2 (q5))), (0, .ref (Z.1 7 (0))), (1, .ref (Z.1 4 (j)))]) rfl (fun ls hl => ?_)
              refine lv_iload hM.1 hM.2.1 dX7_hear_96 (lv_at hl 0 rfl) ?_
              refine lv_if_ne hM.1 hM.2.1 dX7_hear_98 (tgt := 116) (by decide) (fun h_98 => ?_) (fun h_98 => ?_)
              ·
                refine lv_aload_n hM.1 hM.2.1 dX7_hear_116 rfl (lv_at hl 4 rfl) ?_
                refine lv_aload_n hM.1 hM.2.1 dX7_hear_117 rfl (lv_at hl 3 rfl) ?_
                refine lv_aload_n hM.1 hM.2.1 dX7_hear_118 rfl (lv_at hl 2 rfl) ?_
                refine lv_iload hM.1 hM.2.1 dX7_hear_119 (lv_at hl 0 rfl) ?_
                refine z_Vv hM (hml.trans hl.1.symm) hW hS hlo zc7 hV.d7 rfl zyX7_beginPhase lm_X7_252 li_yX7_beginPhase le_yX7_beginPhase (As := [.ref (Z.1 2 (q5)), .ref (Z.1 0 (a)), .int (r_X7_endPhase B4 n (q5) (a))]) (rest := []) (c_X7_beginPhase (hV.of ke_B5) hb_5 hd_15 h0_B5) rfl rfl (Nat.le_of_ble_eq_true rfl) ⟨Nat.le_of_ble_eq_true rfl, Nat.le_of_ble_eq_true rfl⟩ ⟨Nat.le_of_ble_eq_true rfl, Nat.le_of_ble_eq_true rfl⟩ dX7_hear_121 (fun H locs hW hS => ?_)
                obtain ⟨B6, hB6⟩ : ∃ B, B = (s_X7_beginPhase B5 n (q5) (a) (r_X7_endPhase B4 n (q5) (a))) := ⟨_, rfl⟩
                rw [← hB6] at hW
                have ke_B6 : B6.2.2 = S.2.2 := by rw [hB6]; simp only [pif_22, oel_22, k_si, k_sj, pif_same, oel_same, k_X6_set, k_X6_put, k_X0_showTag, k_X4_repeat, k_X7_sendRequest, k_X7_sendRequests, k_X7_beginPhase, k_X7_endPhase, k_X7_again, k_X3_obey, k_X7_serve, k_X7_twice, k_X2_learn, ke_B5]
                exact z_vret hM hlk hr hW hS (zF.of rfl (by subst hB6; subst hB5; subst hB4; unfold s_X7_hear; rw [oel_s hq_5, oel_s hq_15, pif_neg h_29, pif_neg h_41, pif_neg h_66, pif_neg h_85, pif_neg h_98]; first | done | rfl)) dX7_hear_124
              ·
                refine lv_aload_n hM.1 hM.2.1 dX7_hear_101 rfl (lv_at hl 2 rfl) ?_
                refine lv_aload_n hM.1 hM.2.1 dX7_hear_102 rfl (lv_at hl 4 rfl) ?_
                refine z_get hM hW zc7 hV.d7 rfl 8 (by decide) lf_X7_113 (v := .int (gi B5 7 (0) (8))) rfl dX7_hear_103 ?_
                refine z_puti hM hW hS zc0 hd_15 rfl 4 (by decide) rfl lf_X7_221 (Or.inl rfl) (tyX0 4) (tyX0_ok 4 (by decide)) rfl rfl dX7_hear_106 (fun H locs hW hS => ?_)
                refine lv_aload_n hM.1 hM.2.1 dX7_hear_109 rfl (lv_at hl 3 rfl) ?_
                refine z_Vv hM (hml.trans hl.1.symm) hW hS hlo zc2 hd_5 rfl zyX2_rest lm_X7_116 li_yX2_rest le_yX2_rest (As := []) (rest := []) (c_X2_rest hd_5) rfl rfl (Nat.le_of_ble_eq_true rfl) ⟨Nat.le_of_ble_eq_true rfl, Nat.le_of_ble_eq_true rfl⟩ ⟨Nat.le_of_ble_eq_true rfl, Nat.le_of_ble_eq_true rfl⟩ dX7_hear_110 (fun H locs hW hS => ?_)
                refine lv_goto hM.1 hM.2.1 dX7_hear_113 (tgt := 124) (by decide) ?_
                exact z_vret hM hlk hr hW hS (zF.of rfl (by subst hB5; subst hB4; unfold s_X7_hear; rw [oel_s hq_5, oel_s hq_15, pif_neg h_29, pif_neg h_41, pif_neg h_66, pif_neg h_85, pif_pos h_98]; first | done | rfl)) dX7_hear_124
          ·
            refine lv_aload_n hM.1 hM.2.1 dX7_hear_69 rfl (lv_at hl 3 rfl) ?_
            refine lv_aload_n hM.1 hM.2.1 dX7_hear_70 rfl (lv_at hl 2 rfl) ?_
            refine lv_aload_n hM.1 hM.2.1 dX7_hear_71 rfl (lv_at hl 1 rfl) ?_
            refine lv_iconst (v := 1) hM.1 hM.2.1 dX7_hear_72 (by decide) ?_
            refine z_Vv hM (hml.trans hl.1.symm) hW hS hlo zc7 hV.d7 rfl zyX7_beginPhase lm_X7_252 li_yX7_beginPhase le_yX7_beginPhase (As := [.ref (Z.1 2 (q5)), .ref (Z.1 0 (a)), .int (1)]) (rest := []) (c_X7_beginPhase (hV.of ke_B4) hb_5 hd_15 h0_B4) rfl rfl (Nat.le_of_ble_eq_true rfl) ⟨Nat.le_of_ble_eq_true rfl, Nat.le_of_ble_eq_true rfl⟩ ⟨Nat.le_of_ble_eq_true rfl, Nat.le_of_ble_eq_true rfl⟩ dX7_hear_73 (fun H locs hW hS => ?_)
            obtain ⟨B7, hB7⟩ : ∃ B, B = (s_X7_beginPhase B4 n (q5) (a) (1)) := ⟨_, rfl⟩
            rw [← hB7] at hW
            have ke_B7 : B7.2.2 = S.2.2 := by rw [hB7]; simp only [pif_22, oel_22, k_si, k_sj, pif_same, oel_same, k_X6_set, k_X6_put, k_X0_showTag, k_X4_repeat, k_X7_sendRequest, k_X7_sendRequests, k_X7_beginPhase, k_X7_endPhase, k_X7_again, k_X3_obey, k_X7_serve, k_X7_twice, k_X2_learn, ke_B4]
            refine lv_goto hM.1 hM.2.1 dX7_hear_76 (tgt := 124) (by decide) ?_
            exact z_vret hM hlk hr hW hS (zF.of rfl (by subst hB7; subst hB4; unfold s_X7_hear; rw [oel_s hq_5, oel_s hq_15, pif_neg h_29, pif_neg h_41, pif_pos h_66]; first | done | rfl)) dX7_hear_124
      ·
        exact z_vret hM hlk hr hW hS (zF.of rfl (by unfold s_X7_hear; rw [oel_s hq_5, oel_s hq_15, pif_pos h_29]; first | done | rfl)) dX7_hear_32
