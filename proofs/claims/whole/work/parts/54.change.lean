theorem zV.newTab {n tc : Nat} {Z Z1 Z2 : zZ} {R R' : zR} (h : zV n Z R) (hx1 : zext Z Z1 5 tc 0) (hx2 : zext Z1 Z2 9 (1 + tc) n) (he : ∀ k i f, ¬ (k = 5 ∧ i = tc) → ¬ (k = 9 ∧ i = 1 + tc) → ¬ (k = 16 ∧ i = 0 ∧ f = tc) → R' k i f = R k i f) (h5 : R' 5 tc 0 = some (1 + tc)) (h16 : R' 16 0 tc = some tc) : zV n Z2 R' := by
  have d : ∀ k i, Z.2.1 k i → Z2.2.1 k i := fun k i q => (hx2.2.1 k i).mpr (Or.inl ((hx1.2.1 k i).mpr (Or.inl q)))
  have g : ∀ k i, ¬ (k = 5 ∧ i = tc) → ¬ (k = 9 ∧ i = 1 + tc) → Z2.2.2 k i = Z.2.2 k i := fun k i q1 q2 => (hx2.1 k i q2).2.trans (hx1.1 k i q1).2
  have ep : ∀ j, pmR R' j = pmR R j := fun j => by unfold pmR; rw [he _ _ _ (by omega) (by omega) (by omega)]
  have et : tkR R' = tkR R := by unfold tkR; rw [he _ _ _ (by omega) (by omega) (by omega)]
  obtain ⟨⟨⟨a1, a2, a3, a4, a5, a6, a7⟩, b1, b2, b3, b4, b5, b6⟩, ⟨c1, c2, c3, c4⟩, d3, ⟨f1, f2, f3, f4, f5, f6⟩, g5, g6, g7⟩ := h
  refine ⟨⟨⟨d _ _ a1, ?_, ?_, ?_, ?_, ?_, ?_⟩, d _ _ b1, ?_, ?_, ?_, ?_, ?_⟩, ⟨c1, ?_, ?_, fun c hc => ?_⟩, fun c hc => ?_, ⟨fun j hj => ?_, fun j hj => ?_, ?_, ?_, fun i j hi hj e => ?_, fun j hj => ?_⟩, fun t ht => ?_, fun b hb => ?_, fun c hc => ?_⟩
  · rw [he _ _ _ (by omega) (by omega) (by omega)]; exact a2
  · rw [he _ _ _ (by omega) (by omega) (by omega)]; exact a3
  · rw [he _ _ _ (by omega) (by omega) (by omega)]; exact a4
  · rw [he _ _ _ (by omega) (by omega) (by omega)]; exact a5
  · rw [he _ _ _ (by omega) (by omega) (by omega)]; exact a6
  · rw [he _ _ _ (by omega) (by omega) (by omega)]; exact a7
  · rw [he _ _ _ (by omega) (by omega) (by omega)]; exact b2
  · rw [g _ _ (by omega) (by omega)]; exact b3
  · rw [g _ _ (by omega) (by omega)]; exact b4
  · rw [g _ _ (by omega) (by omega)]; exact b5
  · rw [g _ _ (by omega) (by omega)]; exact b6
  · rw [g _ _ (by omega) (by omega)]; exact c2
  · rw [g _ _ (by omega) (by omega)]; exact c3
  · rw [he _ _ _ (by omega) (by omega) (by omega), he _ _ _ (by omega) (by omega) (by omega)]; exact ⟨d _ _ (c4 c hc).1, (c4 c hc).2⟩
  · rw [he _ _ _ (by omega) (by omega) (by omega), he _ _ _ (by omega) (by omega) (by omega)]; exact ⟨d _ _ (d3 c hc).1, (d3 c hc).2⟩
  · rw [he _ _ _ (by omega) (by omega) (by omega)]; exact ⟨d _ _ (f1 j hj).1, (f1 j hj).2⟩
  · rw [he _ _ _ (by omega) (by omega) (by omega), ep]; exact f2 j hj
  · rw [he _ _ _ (by omega) (by omega) (by omega), et]; exact f3
  · rw [et]; exact f4
  · rw [ep, ep] at e; exact f5 i j hi hj e
  · rw [ep, et]; exact f6 j hj
  · by_cases htt : t = tc
    · subst htt
      exact Or.inr ⟨h16, (hx2.2.1 _ _).mpr (Or.inl ((hx1.2.1 _ _).mpr (Or.inr ⟨rfl, rfl⟩))), h5, hx2.2.2⟩
    · rw [he 16 0 t (by omega) (by omega) (by omega), he 5 t 0 (by omega) (by omega) (by omega), g 9 (1 + t) (by omega) (by omega)]
      rcases g5 t ht with q | ⟨q1, q2, q3, q4⟩
      · exact Or.inl q
      · exact Or.inr ⟨q1, d _ _ q2, q3, q4⟩
  · rw [he _ _ _ (by omega) (by omega) (by omega)]
    rcases g6 b hb with q | ⟨q1, q2⟩
    · exact Or.inl q
    · exact Or.inr ⟨q1, d _ _ q2⟩
  · rcases g7 c hc with q | ⟨b, q1, q2, q3⟩
    · exact Or.inl (by rw [he _ _ _ (by omega) (by omega) (by omega)]; exact q)
    · exact Or.inr ⟨b, q1, by rw [he _ _ _ (by omega) (by omega) (by omega)]; exact q2, by rw [he _ _ _ (by omega) (by omega) (by omega)]; exact q3⟩
theorem initT {S : zS} {tc : Nat} {x y : Int32} : (∀ k i f, k ≠ 5 → k ≠ 9 → gi (s_X5_init (scp (sz S 5 tc) (1 + tc) 0) tc (1 + tc) x y) k i f = gi S k i f) ∧ (∀ k i f, ¬ (k = 5 ∧ i = tc) → ¬ (k = 9 ∧ i = 1 + tc) → gr (s_X5_init (scp (sz S 5 tc) (1 + tc) 0) tc (1 + tc) x y) k i f = gr S k i f) ∧ gr (s_X5_init (scp (sz S 5 tc) (1 + tc) 0) tc (1 + tc) x y) 5 tc 0 = some (1 + tc) := by
  refine ⟨fun k i f h1 h2 => ?_, fun k i f h1 h2 => ?_, ?_⟩
  · unfold s_X5_init
    simp only [gi_si, gi_sr, gi_scp, gi_sz]
    simp [h1, h2]
  · unfold s_X5_init
    simp only [gr_si, gr_sr, gr_scp, gr_sz]
    rw [if_neg (by omega), if_neg (by omega), if_neg (by omega)]
  · unfold s_X5_init
    simp only [gr_si, gr_sr]
    simp
noncomputable def r_X7_change (S : zS) (n : Nat) (a tc : Nat) (x y : Int32) : Int32 :=
  (oel (atI 4 (0)) ((-1)) (fun q2 => 
    (pif ((r_X7_canBegin S n (q2)) = (0)) ((-1)) 
      (pif ((gi S 2 (q2) (7)) ≤ (gi S 2 (q2) (6))) 
        (pif ((16) ≤ (nI tc)) ((-1)) 
          (pif ((r_X5_canBe S n (0) (x) (y)) = (0)) ((-1)) (r_X7_beginChange (si (sr (s_X5_init (scp (sz S 5 tc) (1 + tc) 0) tc (1 + tc) (x) (y)) 16 (0) (ix (nI tc)) (some (tc))) 7 (0) (6) ((gi (s_X5_init (scp (sz S 5 tc) (1 + tc) 0) tc (1 + tc) (x) (y)) 7 (0) (6)) + (1))) n (q2) (a) (nI tc)))) ((-1))))))
noncomputable def s_X7_change (S : zS) (n : Nat) (a tc : Nat) (x y : Int32) : zS :=
  (oel (atI 4 (0)) (S) (fun q2 => 
    (pif ((r_X7_canBegin S n (q2)) = (0)) (S) 
      (pif ((gi S 2 (q2) (7)) ≤ (gi S 2 (q2) (6))) 
        (pif ((16) ≤ (nI tc)) (S) 
          (pif ((r_X5_canBe S n (0) (x) (y)) = (0)) (S) ((s_X7_beginChange (si (sr (s_X5_init (scp (sz S 5 tc) (1 + tc) 0) tc (1 + tc) (x) (y)) 16 (0) (ix (nI tc)) (some (tc))) 7 (0) (6) ((gi (s_X5_init (scp (sz S 5 tc) (1 + tc) 0) tc (1 + tc) (x) (y)) 7 (0) (6)) + (1))) n (q2) (a) (nI tc))))) (S)))))
set_option maxHeartbeats 400000 in
set_option maxRecDepth 100000 in
theorem c_X7_change {l : Launch} {D : va_G} {ar : Nat → ClassId} {A : Nat → Prop} {Z : zZ} {S : zS} {n : Nat} {a tc : Nat} {x y : Int32} (hV : zV n Z S.2.2) (hac : gi S 7 0 7 = nI a) (ha0 : a ≤ 200) (hf0 : a < 200 → ¬ Z.2.1 0 a) (hc0 : ¬ gi S 1 0 2 < 0) (htc : gi S 7 0 6 = nI tc) (ht0 : tc ≤ 16) (hft : tc < 16 → ¬ Z.2.1 5 tc ∧ ¬ Z.2.1 9 (1 + tc)) : zMet l yX7_change prog_1_method_3_code 5 (some .int) ({ frames := 6, cells := 3, slots := 19, locals := 142 } : Room) D ar A Z S [.ref (Z.1 7 (0)), .int (x), .int (y)] rvI (fun r Z' S' => r = r_X7_change S n a tc x y ∧ S' = s_X7_change S n a tc x y ∧ ((Z' = Z ∧ S' = S) ∨ ∃ c, atI 4 0 = some c ∧ gr S 2 c 2 = none ∧ a < 200 ∧ tc < 16 ∧ S' = (s_X7_beginChange (si (sr (s_X5_init (scp (sz S 5 tc) (1 + tc) 0) tc (1 + tc) (x) (y)) 16 (0) (ix (nI tc)) (some (tc))) 7 (0) (6) ((gi (s_X5_init (scp (sz S 5 tc) (1 + tc) 0) tc (1 + tc) (x) (y)) 7 (0) (6)) + (1))) n (c) (a) (nI tc)) ∧ ∃ Z1 Z2, zext Z Z1 5 tc 0 ∧ zext Z1 Z2 9 (1 + tc) n ∧ zext Z2 Z' 0 a 0)) := by
  refine z_body (by decide +kernel) (Nat.le_of_ble_eq_true rfl) ?_
  intro pX eX sX mX bX methX cX ls hM hr hlk hml hin hl hW hlo
  have hM : zM pX cX mX _ sX prog_1_method_3_code RX7 D ar := hM
  have hS : va_S A sX.heap sX.heap [] := va_S.rf
  have hl : lv_has ls 5 [(0, .ref (Z.1 7 (0))), (1, .int (x)), (2, .int (y))] := hl
  refine lv_aload_n hM.1 hM.2.1 dX7_change_0 rfl (lv_at hl 0 rfl) ?_
  refine lv_iconst (v := 0) hM.1 hM.2.1 dX7_change_1 (by decide) ?_
  refine z_Vr hM (hml.trans hl.1.symm) hW hS hlo zc7 hV.d7 rfl zyX7_clientAt lm_X7_69 li_yX7_clientAt le_yX7_clientAt (As := [.int (0)]) (rest := []) (c_X7_clientAt hV) rfl rfl (Nat.le_of_ble_eq_true rfl) ⟨Nat.le_of_ble_eq_true rfl, Nat.le_of_ble_eq_true rfl⟩ ⟨Nat.le_of_ble_eq_true rfl, Nat.le_of_ble_eq_true rfl⟩ dX7_change_2 (fun H locs hW hS => ?_)
  rcases hq_2 : atI 4 (0) with _ | q2
  ·
    refine lv_astore_nN hM.1 hM.2.1 dX7_change_5 rfl hl (by decide) (lv' := [(3, .null), (0, .ref (Z.1 7 (0))), (1, .int (x)), (2, .int (y))]) rfl (fun ls hl => ?_)
    refine lv_aload_nN hM.1 hM.2.1 dX7_change_6 rfl (lv_at hl 0 rfl) ?_
    refine lv_ifnullN hM.1 hM.2.1 dX7_change_7 (tgt := 29) (by decide) ?_
    refine lv_iconst (v := (-1)) hM.1 hM.2.1 dX7_change_29 (by decide) ?_
    refine W.widen (k := 3) (n := 19) (Nat.le_of_ble_eq_true rfl) (Nat.le_of_ble_eq_true rfl) ?_
    exact z_iret hM hlk hr rfl hW hS ⟨(by unfold r_X7_change; rw [oel_n hq_2]; first | done | rfl), (by unfold s_X7_change; rw [oel_n hq_2]; first | done | rfl), (Or.inl ⟨rfl, rfl⟩)⟩ dX7_change_30
  ·
    obtain ⟨he_2, hb_2, hn0_2, hn1_2⟩ := atI_some (by decide) hq_2
    have hd_2 := hV.d2 hb_2
    refine lv_astore_n hM.1 hM.2.1 dX7_change_5 rfl hl (by decide) (lv' := [(3, .ref (Z.1 2 (q2))), (0, .ref (Z.1 7 (0))), (1, .int (x)), (2, .int (y))]) rfl (fun ls hl => ?_)
    refine lv_aload_n hM.1 hM.2.1 dX7_change_6 rfl (lv_at hl 0 rfl) ?_
    refine lv_ifnull hM.1 hM.2.1 dX7_change_7 ?_
    refine lv_aload_n hM.1 hM.2.1 dX7_change_10 rfl (lv_at hl 1 rfl) ?_
    refine lv_aload_n hM.1 hM.2.1 dX7_change_11 rfl (lv_at hl 0 rfl) ?_
    refine z_Vi hM (hml.trans hl.1.symm) hW hS hlo zc7 hV.d7 rfl zyX7_canBegin lm_X7_73 li_yX7_canBegin le_yX7_canBegin (As := [.ref (Z.1 2 (q2))]) (rest := []) (c_X7_canBegin hV hd_2) rfl rfl (Nat.le_of_ble_eq_true rfl) ⟨Nat.le_of_ble_eq_true rfl, Nat.le_of_ble_eq_true rfl⟩ ⟨Nat.le_of_ble_eq_true rfl, Nat.le_of_ble_eq_true rfl⟩ dX7_change_12 (fun H locs hW hS => ?_)
    refine lv_if_eq hM.1 hM.2.1 dX7_change_15 (tgt := 29) (by decide) (fun h_15 => ?_) (fun h_15 => ?_)
    ·
      refine lv_iconst (v := (-1)) hM.1 hM.2.1 dX7_change_29 (by decide) ?_
      refine W.widen (k := 3) (n := 19) (Nat.le_of_ble_eq_true rfl) (Nat.le_of_ble_eq_true rfl) ?_
      exact z_iret hM hlk hr rfl hW hS ⟨(by unfold r_X7_change; rw [oel_s hq_2, pif_pos h_15]; first | done | rfl), (by unfold s_X7_change; rw [oel_s hq_2, pif_pos h_15]; first | done | rfl), (Or.inl ⟨rfl, rfl⟩)⟩ dX7_change_30
    ·
      refine lv_aload_n hM.1 hM.2.1 dX7_change_18 rfl (lv_at hl 0 rfl) ?_
      refine z_get hM hW zc2 hd_2 rfl 6 (by decide) lf_X7_77 (v := .int (gi S 2 (q2) (6))) rfl dX7_change_19 ?_
      refine lv_aload_n hM.1 hM.2.1 dX7_change_22 rfl (lv_at hl 0 rfl) ?_
      refine z_get hM hW zc2 hd_2 rfl 7 (by decide) lf_X7_80 (v := .int (gi S 2 (q2) (7))) rfl dX7_change_23 ?_
      refine lv_icmp_ge hM.1 hM.2.1 dX7_change_26 (tgt := 31) (by decide) (fun h_26 => ?_) (fun h_26 => ?_)
      ·
        refine lv_aload_n hM.1 hM.2.1 dX7_change_31 rfl (lv_at hl 1 rfl) ?_
        refine z_get hM hW zc7 hV.d7 rfl 6 (by decide) lf_X7_52 (v := .int (nI tc)) (congrArg Value.int (show gi S 7 (0) (6) = nI tc from htc)) dX7_change_32 ?_
        refine lv_aload_n hM.1 hM.2.1 dX7_change_35 rfl (lv_at hl 1 rfl) ?_
        refine z_getr hM hW zc7 hV.d7 rfl 2 (by decide) lf_X7_40 (t := 16) (j := 0) rfl hV.r72 dX7_change_36 (fun hd1_36 => ?_)
        refine z_alen hM hW hd1_36 (by decide) rfl 7 rfl (v := 16) (by rw [hV.l16]; rfl) dX7_change_39 ?_
        refine lv_icmp_ge hM.1 hM.2.1 dX7_change_40 (tgt := 55) (by decide) (fun h_40 => ?_) (fun h_40 => ?_)
        ·
          refine lv_iconst (v := (-1)) hM.1 hM.2.1 dX7_change_55 (by decide) ?_
          refine W.widen (k := 3) (n := 19) (Nat.le_of_ble_eq_true rfl) (Nat.le_of_ble_eq_true rfl) ?_
          exact z_iret hM hlk hr rfl hW hS ⟨(by unfold r_X7_change; rw [oel_s hq_2, pif_neg h_15, pif_pos h_26, pif_pos h_40]; first | done | rfl), (by unfold s_X7_change; rw [oel_s hq_2, pif_neg h_15, pif_pos h_26, pif_pos h_40]; first | done | rfl), (Or.inl ⟨rfl, rfl⟩)⟩ dX7_change_56
        ·
          refine lv_aload_n hM.1 hM.2.1 dX7_change_43 rfl (lv_at hl 1 rfl) ?_
          refine z_getr hM hW zc7 hV.d7 rfl 5 (by decide) lf_X7_24 (t := 9) (j := 0) rfl hV.r75 dX7_change_44 (fun hd2_44 => ?_)
          refine lv_iload_n hM.1 hM.2.1 dX7_change_47 rfl (lv_at hl 2 rfl) ?_
          refine lv_iload_n hM.1 hM.2.1 dX7_change_48 rfl (lv_at hl 3 rfl) ?_
          refine z_Si hM (hml.trans hl.1.symm) hW hS hlo zyX5_canBe lm_X7_83 ls_yX5_canBe (As := [.ref (Z.1 9 (0)), .int (x), .int (y)]) (rest := []) (c_X5_canBe (n := n) hd2_44 hV.l9 hV.n7) rfl rfl (Nat.le_of_ble_eq_true rfl) ⟨Nat.le_of_ble_eq_true rfl, Nat.le_of_ble_eq_true rfl⟩ ⟨Nat.le_of_ble_eq_true rfl, Nat.le_of_ble_eq_true rfl⟩ dX7_change_49 (fun H locs hW hS => ?_)
          refine lv_if_ne hM.1 hM.2.1 dX7_change_52 (tgt := 57) (by decide) (fun h_52 => ?_) (fun h_52 => ?_)
          ·
            refine lv_aload_n hM.1 hM.2.1 dX7_change_57 rfl (lv_at hl 1 rfl) ?_
            refine z_get hM hW zc7 hV.d7 rfl 6 (by decide) lf_X7_52 (v := .int (nI tc)) (congrArg Value.int (show gi S 7 (0) (6) = nI tc from htc)) dX7_change_58 ?_
            refine lv_istore hM.1 hM.2.1 dX7_change_61 hl (by decide) (lv' := [(4, .int (nI tc)), (3, .ref (Z.1 2 (q2))), (0, .ref (Z.1 7 (0))), (1, .int (x)), (2, .int (y))]) rfl (fun ls hl => ?_)
            refine lv_aload_n hM.1 hM.2.1 dX7_change_63 rfl (lv_at hl 2 rfl) ?_
            refine z_getr hM hW zc7 hV.d7 rfl 2 (by decide) lf_X7_40 (t := 16) (j := 0) rfl hV.r72 dX7_change_64 (fun hd3_64 => ?_)
            refine lv_iload hM.1 hM.2.1 dX7_change_67 (lv_at hl 0 rfl) ?_
            obtain ⟨ha2, hno⟩ := canBegin_lt hac h_15 ha0
            have ht2 : tc < 16 := by
              rcases Nat.lt_or_ge tc 16 with q | q
              · exact q
              · exact absurd (nI_le (a := 16) (b := tc) q (by omega)) h_40
            obtain ⟨hf5, hf9⟩ := hft ht2
            refine z_new hM hW hS hlo zc5 tc hf5 lk_X7_38 lt_X5 lz_X5 (Nat.le_of_ble_eq_true rfl) (Nat.le_of_ble_eq_true rfl) dX7_change_69 (fun Z1 H hx1 hW hS => ?_)
            have dm1_0 : Z1.2.1 2 (q2) := (hx1.2.1 _ _).mpr (Or.inl hd_2)
            have ha1_0 : Z1.1 2 (q2) = Z.1 2 (q2) := (hx1.1 _ _ ((by omega))).1.trans rfl
            have dm1_1 : Z1.2.1 7 (0) := (hx1.2.1 _ _).mpr (Or.inl hV.d7)
            have ha1_1 : Z1.1 7 (0) = Z.1 7 (0) := (hx1.1 _ _ ((by omega))).1.trans rfl
            have dm1_2 : Z1.2.1 16 (0) := (hx1.2.1 _ _).mpr (Or.inl hd3_64)
            have ha1_2 : Z1.1 16 (0) = Z.1 16 (0) := (hx1.1 _ _ ((by omega))).1.trans rfl
            have hdt : Z1.2.1 5 tc := (hx1.2.1 _ _).mpr (Or.inr ⟨rfl, rfl⟩)
            refine lv_dup hM.1 hM.2.1 dX7_change_72 rfl ?_
            refine lv_aload_n hM.1 hM.2.1 dX7_change_73 rfl (lv_at hl 2 rfl) ?_
            refine z_getr hM hW zc7 dm1_1 ha1_1 5 (by decide) lf_X7_24 (t := 9) (j := 0) rfl (by rw [gr_sz, if_neg (by omega)]; exact hV.r75) dX7_change_74 (fun hd4_74 => ?_)
            have hz9 : Z1.2.2 9 0 = n := ((hx1.1 _ _ (by omega)).2).trans hV.l9
            refine z_clone hM (hml.trans hl.1.symm) hW hS hlo hd4_74 rfl (1 + tc) (fun q => ((hx1.2.1 _ _).mp q).elim hf9 (by omega)) lm_X7_44 (Nat.le_of_ble_eq_true rfl) (Nat.le_of_ble_eq_true rfl) (Nat.le_of_ble_eq_true rfl) (by show 0 + 3 + Z1.2.2 9 0 ≤ 19; rw [hz9]; have := hV.n7; omega) dX7_change_77 (fun Z2 H hx2 hW hS => ?_)
            refine W.widen (k := 2) (n := 10) (Nat.le_of_ble_eq_true rfl) (by show 0 + 3 + Z1.2.2 9 0 ≤ 10; rw [hz9]; have := hV.n7; omega) ?_
            rw [hz9] at hx2
            have dm2_0 : Z2.2.1 2 (q2) := (hx2.2.1 _ _).mpr (Or.inl dm1_0)
            have ha2_0 : Z2.1 2 (q2) = Z.1 2 (q2) := (hx2.1 _ _ ((by omega))).1.trans ha1_0
            have dm2_1 : Z2.2.1 7 (0) := (hx2.2.1 _ _).mpr (Or.inl dm1_1)
            have ha2_1 : Z2.1 7 (0) = Z.1 7 (0) := (hx2.1 _ _ ((by omega))).1.trans ha1_1
            have dm2_2 : Z2.2.1 5 (tc) := (hx2.2.1 _ _).mpr (Or.inl hdt)
            have ha2_2 : Z2.1 5 (tc) = Z1.1 5 tc := (hx2.1 _ _ ((by omega))).1.trans rfl
            have dm2_3 : Z2.2.1 16 (0) := (hx2.2.1 _ _).mpr (Or.inl dm1_2)
            have ha2_3 : Z2.1 16 (0) = Z.1 16 (0) := (hx2.1 _ _ ((by omega))).1.trans ha1_2
            have hdq : Z2.2.1 9 (1 + tc) := (hx2.2.1 _ _).mpr (Or.inr ⟨rfl, rfl⟩)
            refine z_cast hM hW hdq rfl lk_X7_45 dX7_change_80 ?_
            refine lv_iload_n hM.1 hM.2.1 dX7_change_83 rfl (lv_at hl 3 rfl) ?_
            refine lv_iload_n hM.1 hM.2.1 dX7_change_84 rfl (lv_at hl 4 rfl) ?_
            refine z_IFv hM (hml.trans hl.1.symm) hW hS hlo zyX5_init rfl lm_X7_49 li_yX5_init (a := Z2.1 5 tc) (As := [.ref (Z2.1 9 (1 + tc)), .int (x), .int (y)]) (rest := [.ref (Z1.1 5 tc), .int (nI tc), .ref (Z.1 16 (0))]) (c_X5_init dm2_2 hdq) rfl (by rw [ha2_2]; rfl) (Nat.le_of_ble_eq_true rfl) ⟨Nat.le_of_ble_eq_true rfl, Nat.le_of_ble_eq_true rfl⟩ ⟨Nat.le_of_ble_eq_true rfl, Nat.le_of_ble_eq_true rfl⟩ dX7_change_85 (fun H locs hW hS => ?_)
            obtain ⟨B1, hB1⟩ : ∃ B, B = (s_X5_init (scp (sz S 5 tc) (1 + tc) 0) tc (1 + tc) (x) (y)) := ⟨_, rfl⟩
            rw [← hB1] at hW
            have gT := @initT S tc (x) (y)
            rw [← hB1] at gT
            have hl16 : Z2.2.2 16 0 = 16 := ((hx2.1 _ _ (by omega)).2).trans (((hx1.1 _ _ (by omega)).2).trans hV.l16)
            refine z_aast hM hW hS dm2_3 (by decide) ha2_3 7 rfl (t := 5) (q := tc) (fun _ => rfl) zc5 dm2_2 ha2_2 (by rw [hl16]; exact nI_in ht2 (by decide)) dX7_change_88 (fun H locs hW hS => ?_)
            refine lv_aload_n hM.1 hM.2.1 dX7_change_89 rfl (lv_at hl 2 rfl) ?_
            refine lv_dup hM.1 hM.2.1 dX7_change_90 rfl ?_
            refine z_get hM hW zc7 dm2_1 ha2_1 6 (by decide) lf_X7_52 (v := .int (gi B1 7 (0) (6))) rfl dX7_change_91 ?_
            refine lv_iconst (v := 1) hM.1 hM.2.1 dX7_change_94 (by decide) ?_
            refine lv_iadd hM.1 hM.2.1 dX7_change_95 ?_
            refine z_puti hM hW hS zc7 dm2_1 ha2_1 6 (by decide) rfl lf_X7_52 (Or.inl rfl) (tyX7 6) (tyX7_ok 6 (by decide)) rfl rfl dX7_change_96 (fun H locs hW hS => ?_)
            refine lv_aload_n hM.1 hM.2.1 dX7_change_99 rfl (lv_at hl 2 rfl) ?_
            refine lv_aload_n hM.1 hM.2.1 dX7_change_100 rfl (lv_at hl 1 rfl) ?_
            refine lv_iload hM.1 hM.2.1 dX7_change_101 (lv_at hl 0 rfl) ?_
            have gR : ∀ k i f, ¬ (k = 5 ∧ i = tc) → ¬ (k = 9 ∧ i = 1 + tc) → ¬ (k = 16 ∧ i = 0 ∧ f = tc) → gr (si (sr B1 16 (0) (ix (nI tc)) (some (tc))) 7 (0) (6) ((gi B1 7 (0) (6)) + (1))) k i f = gr S k i f := fun k i f q1 q2 q3 => by rw [gr_si, gr_sr, if_neg (by rw [ix_nI (by omega)]; exact q3)]; exact gT.2.1 k i f q1 q2
            have hV2 : zV n Z2 (si (sr B1 16 (0) (ix (nI tc)) (some (tc))) 7 (0) (6) ((gi B1 7 (0) (6)) + (1))).2.2 := hV.newTab hx1 hx2 gR (by show gr (si (sr B1 16 (0) (ix (nI tc)) (some (tc))) 7 (0) (6) ((gi B1 7 (0) (6)) + (1))) 5 tc 0 = _; rw [gr_si, gr_sr, if_neg (by omega)]; exact gT.2.2) (by show gr (si (sr B1 16 (0) (ix (nI tc)) (some (tc))) 7 (0) (6) ((gi B1 7 (0) (6)) + (1))) 16 0 tc = _; rw [gr_si, gr_sr, if_pos (by rw [ix_nI (by omega)]; exact ⟨rfl, rfl, rfl⟩)])
            refine z_callV hM (hml.trans hl.1.symm) hW hS hlo zc7 dm2_1 zyX7_beginChange lm_X7_87 li_yX7_beginChange le_yX7_beginChange (As := [.ref (Z2.1 2 (q2)), .int (nI tc)]) (rest := []) (c_X7_beginChange (n := n) (a := a) hV2 hb_2 (by show gi B1 7 0 7 = nI a; rw [gT.1 _ _ _ (by decide) (by decide)]; exact hac) ha2 (fun q => ((hx2.2.1 _ _).mp q).elim (fun q => ((hx1.2.1 _ _).mp q).elim (hf0 ha2) (by omega)) (by omega)) (by show ¬ gi B1 1 0 2 < 0; rw [gT.1 _ _ _ (by decide) (by decide)]; exact hc0)) rfl (by rw [ha2_0, ha2_1]; rfl) (Nat.le_of_ble_eq_true rfl) ⟨Nat.le_of_ble_eq_true rfl, Nat.le_of_ble_eq_true rfl⟩ ⟨Nat.le_of_ble_eq_true rfl, Nat.le_of_ble_eq_true rfl⟩ dX7_change_103 (fun r Z9 S9 H locs hp hW hS => ?_)
            obtain ⟨e1, e2, hx9⟩ := hp
            subst e1 e2
            refine W.eq (g2 := F0 mX 106 ls [.int (r_X7_beginChange (si (sr B1 16 (0) (ix (nI tc)) (some (tc))) 7 (0) (6) ((gi B1 7 (0) (6)) + (1))) n (q2) (a) (nI tc))]) rfl ?_
            refine W.widen (k := 3) (n := 19) (Nat.le_of_ble_eq_true rfl) (Nat.le_of_ble_eq_true rfl) ?_
            exact z_iret hM hlk hr rfl hW hS ⟨(by subst hB1; unfold r_X7_change; rw [oel_s hq_2, pif_neg h_15, pif_pos h_26, pif_neg h_40, pif_neg h_52]; first | done | rfl), (by subst hB1; unfold s_X7_change; rw [oel_s hq_2, pif_neg h_15, pif_pos h_26, pif_neg h_40, pif_neg h_52]; first | done | rfl), (Or.inr ⟨q2, rfl, hno, ha2, ht2, by subst hB1; rfl, Z1, Z2, hx1, hx2, hx9⟩)⟩ dX7_change_106
          ·
            refine lv_iconst (v := (-1)) hM.1 hM.2.1 dX7_change_55 (by decide) ?_
            refine W.widen (k := 3) (n := 19) (Nat.le_of_ble_eq_true rfl) (Nat.le_of_ble_eq_true rfl) ?_
            exact z_iret hM hlk hr rfl hW hS ⟨(by unfold r_X7_change; rw [oel_s hq_2, pif_neg h_15, pif_pos h_26, pif_neg h_40, pif_pos h_52]; first | done | rfl), (by unfold s_X7_change; rw [oel_s hq_2, pif_neg h_15, pif_pos h_26, pif_neg h_40, pif_pos h_52]; first | done | rfl), (Or.inl ⟨rfl, rfl⟩)⟩ dX7_change_56
      ·
        refine lv_iconst (v := (-1)) hM.1 hM.2.1 dX7_change_29 (by decide) ?_
        refine W.widen (k := 3) (n := 19) (Nat.le_of_ble_eq_true rfl) (Nat.le_of_ble_eq_true rfl) ?_
        exact z_iret hM hlk hr rfl hW hS ⟨(by unfold r_X7_change; rw [oel_s hq_2, pif_neg h_15, pif_neg h_26]; first | done | rfl), (by unfold s_X7_change; rw [oel_s hq_2, pif_neg h_15, pif_neg h_26]; first | done | rfl), (Or.inl ⟨rfl, rfl⟩)⟩ dX7_change_30
