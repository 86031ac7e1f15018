/-- quorums in the tables from t to 'to' -/
noncomputable def lQuo (S : zS) (n c : Nat) (to : Int32) : Nat → Int32 → Int32
  | 0, _ => 0
  | f + 1, t => pif ((to) < (t)) 1 (oel (tbAt S (t)) 0 (fun q => pif ((gi S 2 (c) (3)) = (1)) (pif ((gi S 5 (q) (1)) ≤ (lSum S (1 + q) (gi S 2 (c) (5)) n 0 0)) (lQuo S n c to f (t + 1)) 0) (pif ((gi S 5 (q) (2)) ≤ (lSum S (1 + q) (gi S 2 (c) (5)) n 0 0)) (lQuo S n c to f (t + 1)) 0)))
theorem tb_lt {S : zS} {t : Int32} {q : Nat} (h : tbAt S t = some q) : ix (t + 1) = ix t + 1 ∧ ix t < 16 := by
  unfold tbAt at h
  by_cases h0 : t < 0
  · rw [pif_pos h0] at h; cases h
  · rw [pif_neg h0] at h
    by_cases h1 : 16 ≤ t
    · rw [pif_pos h1] at h; cases h
    · have e1 : (1 : Int32).toInt = 1 := rfl
      have e3 : (16 : Int32).toInt = 16 := rfl
      rw [Int32.lt_iff_toInt_lt, Int32.toInt_zero] at h0
      rw [Int32.le_iff_toInt_le, e3] at h1
      have e : (t + 1).toInt = t.toInt + 1 := by rw [Int32.toInt_add, e1, Int.bmod_eq_of_le (by omega) (by omega)]
      refine ⟨?_, ?_⟩
      · show (t + 1).toInt.toNat = t.toInt.toNat + 1
        omega
      · show t.toInt.toNat < 16
        omega
noncomputable def r_X7_hasQuorum (S : zS) (n c a : Nat) : Int32 :=
  (pif ((gi S 2 (c) (3)) = (3)) (lQuo S n c ((gi S 0 (a) (7)) - (1)) 18 (gi S 2 (c) (6))) 
    (pif ((gi S 2 (c) (3)) = (4)) (lQuo S n c (gi S 0 (a) (7)) 18 (gi S 0 (a) (7))) 
      (pif ((gi S 2 (c) (3)) = (5)) (lQuo S n c (gi S 0 (a) (7)) 18 (gi S 0 (a) (7))) (lQuo S n c (gi S 2 (c) (7)) 18 (gi S 2 (c) (6))))))
set_option maxHeartbeats 400000 in
set_option maxRecDepth 100000 in
theorem c_X7_hasQuorum {l : Launch} {D : va_G} {ar : Nat → ClassId} {A : Nat → Prop} {Z : zZ} {S : zS} {n c a : Nat} (hV : zV n Z S.2.2) (hc : c < 4) (ha : Z.2.1 0 a) : zMet l yX7_hasQuorum prog_1_method_36_code 8 (some .boolean) ({ frames := 1, cells := 0, slots := 0, locals := 23 } : Room) D ar A Z S [.ref (Z.1 7 (0)), .ref (Z.1 2 (c)), .ref (Z.1 0 (a))] rvI (zF (r_X7_hasQuorum S n c a) Z S) := by
  refine z_body (by decide +kernel) (Nat.le_of_ble_eq_true rfl) ?_
  intro pX eX sX mX bX methX cX ls hM hr hlk hml hin hl hW hlo
  have hM : zM pX cX mX _ sX prog_1_method_36_code RX7 D ar := hM
  have hS : va_S A sX.heap sX.heap [] := va_S.rf
  have hl : lv_has ls 8 [(0, .ref (Z.1 7 (0))), (1, .ref (Z.1 2 (c))), (2, .ref (Z.1 0 (a)))] := hl
  have loop : ∀ (f : Nat) (t to fr : Int32) (ls : Array Slot) (H : Heap) (locs : List Loc), 17 ≤ f + ix t → (ix t ≤ 16 ∨ f = 18) → lQuo S n c to f t = r_X7_hasQuorum S n c a → lv_has ls 8 [(5, .int (t)), (4, .int (to)), (3, .int (fr)), (0, .ref (Z.1 7 (0))), (1, .ref (Z.1 2 (c))), (2, .ref (Z.1 0 (a)))] → zW D ar A Z S H → va_S A sX.heap H locs → W pX l eX ({ frames := 1, cells := 0, slots := 0, locals := 23 } : Room) sX mX ([.ref (Z.1 7 (0)), .ref (Z.1 2 (c)), .ref (Z.1 0 (a))] : List Value).toArray bX methX cX H locs 0 0 (MQ bX (zQ D ar A rvI (zF (r_X7_hasQuorum S n c a) Z S)) ([.ref (Z.1 7 (0)), .ref (Z.1 2 (c)), .ref (Z.1 0 (a))] : List Value).toArray sX 0 0 A) (F0 mX 60 ls []) := by
    intro f
    induction f with
    | zero =>
      intro t to fr ls H locs hf hg hE hl hW hS
      exfalso
      omega
    | succ f ih =>
      intro t to fr ls H locs hf hg hE hl hW hS
      refine lv_iload hM.1 hM.2.1 dX7_hasQuorum_60 (lv_at hl 0 rfl) ?_
      refine lv_iload hM.1 hM.2.1 dX7_hasQuorum_62 (lv_at hl 1 rfl) ?_
      refine lv_icmp_gt hM.1 hM.2.1 dX7_hasQuorum_64 (tgt := 130) (by decide) (fun h_64 => ?_) (fun h_64 => ?_)
      ·
        refine lv_iconst (v := 1) hM.1 hM.2.1 dX7_hasQuorum_130 (by decide) ?_
        exact z_iret hM hlk hr rfl hW hS (zF.of (by rw [show lQuo S n c to (f + 1) t = pif _ _ _ from rfl, pif_pos h_64] at hE; exact hE) rfl) dX7_hasQuorum_131
      ·
        refine lv_aload_n hM.1 hM.2.1 dX7_hasQuorum_67 rfl (lv_at hl 3 rfl) ?_
        refine lv_iload hM.1 hM.2.1 dX7_hasQuorum_68 (lv_at hl 0 rfl) ?_
        refine z_Vr hM (hml.trans hl.1.symm) hW hS hlo zc7 hV.d7 rfl zyX7_tableAt lm_X7_229 li_yX7_tableAt le_yX7_tableAt (As := [.int (t)]) (rest := []) (c_X7_tableAt hV) rfl rfl (Nat.le_of_ble_eq_true rfl) ⟨Nat.le_of_ble_eq_true rfl, Nat.le_of_ble_eq_true rfl⟩ ⟨Nat.le_of_ble_eq_true rfl, Nat.le_of_ble_eq_true rfl⟩ dX7_hasQuorum_70 (fun H locs hW hS => ?_)
        rcases hq_70 : tbAt S (t) with _ | q70
        ·
          refine lv_astoreN hM.1 hM.2.1 dX7_hasQuorum_73 hl (by decide) (lv' := [(6, .null), (5, .int (t)), (4, .int (to)), (3, .int (fr)), (0, .ref (Z.1 7 (0))), (1, .ref (Z.1 2 (c))), (2, .ref (Z.1 0 (a)))]) rfl (fun ls hl => ?_)
          refine lv_aloadN hM.1 hM.2.1 dX7_hasQuorum_75 (lv_at hl 0 rfl) ?_
          refine lv_ifnonnullN hM.1 hM.2.1 dX7_hasQuorum_77 ?_
          refine lv_iconst (v := 0) hM.1 hM.2.1 dX7_hasQuorum_80 (by decide) ?_
          exact z_iret hM hlk hr rfl hW hS (zF.of (by rw [show lQuo S n c to (f + 1) t = pif _ _ _ from rfl, pif_neg h_64, oel_n hq_70] at hE; exact hE) rfl) dX7_hasQuorum_81
        ·
          obtain ⟨he_70, hb_70, hd_70, hr5_70, hl9_70⟩ := tbAt_some hV hq_70
          refine lv_astore hM.1 hM.2.1 dX7_hasQuorum_73 hl (by decide) (lv' := [(6, .ref (Z.1 5 (q70))), (5, .int (t)), (4, .int (to)), (3, .int (fr)), (0, .ref (Z.1 7 (0))), (1, .ref (Z.1 2 (c))), (2, .ref (Z.1 0 (a)))]) rfl (fun ls hl => ?_)
          refine lv_aload hM.1 hM.2.1 dX7_hasQuorum_75 (lv_at hl 0 rfl) ?_
          refine lv_ifnonnull hM.1 hM.2.1 dX7_hasQuorum_77 (tgt := 82) (by decide) ?_
          refine lv_aload_n hM.1 hM.2.1 dX7_hasQuorum_82 rfl (lv_at hl 5 rfl) ?_
          refine z_get hM hW zc2 (hV.d2 hc) rfl 3 (by decide) lf_X7_189 (v := .int (gi S 2 (c) (3))) rfl dX7_hasQuorum_83 ?_
          refine lv_iconst (v := 1) hM.1 hM.2.1 dX7_hasQuorum_86 (by decide) ?_
          refine lv_icmp_ne hM.1 hM.2.1 dX7_hasQuorum_87 (tgt := 98) (by decide) (fun h_87 => ?_) (fun h_87 => ?_)
          ·
            refine lv_aload hM.1 hM.2.1 dX7_hasQuorum_98 (lv_at hl 0 rfl) ?_
            refine z_get hM hW zc5 hd_70 rfl 2 (by decide) lf_X7_239 (v := .int (gi S 5 (q70) (2))) rfl dX7_hasQuorum_100 ?_
            refine lv_istore hM.1 hM.2.1 dX7_hasQuorum_103 hl (by decide) (lv' := [(7, .int (gi S 5 (q70) (2))), (6, .ref (Z.1 5 (q70))), (5, .int (t)), (4, .int (to)), (3, .int (fr)), (0, .ref (Z.1 7 (0))), (1, .ref (Z.1 2 (c))), (2, .ref (Z.1 0 (a)))]) rfl (fun ls hl => ?_)
            refine lv_aload hM.1 hM.2.1 dX7_hasQuorum_105 (lv_at hl 1 rfl) ?_
            refine z_getr hM hW zc5 hd_70 rfl 0 (by decide) lf_X7_233 (t := 9) (j := 1 + q70) rfl hr5_70 dX7_hasQuorum_107 (fun hd1_107 => ?_)
            refine lv_aload_n hM.1 hM.2.1 dX7_hasQuorum_110 rfl (lv_at hl 6 rfl) ?_
            refine z_get hM hW zc2 (hV.d2 hc) rfl 5 (by decide) lf_X7_192 (v := .int (gi S 2 (c) (5))) rfl dX7_hasQuorum_111 ?_
            refine z_Si hM (hml.trans hl.1.symm) hW hS hlo zyX5_sum lm_X7_284 ls_yX5_sum (As := [.ref (Z.1 9 (1 + q70)), .int (gi S 2 (c) (5))]) (rest := []) (c_X5_sum (n := n) hd1_107 hl9_70 hV.n7) rfl rfl (Nat.le_of_ble_eq_true rfl) ⟨Nat.le_of_ble_eq_true rfl, Nat.le_of_ble_eq_true rfl⟩ ⟨Nat.le_of_ble_eq_true rfl, Nat.le_of_ble_eq_true rfl⟩ dX7_hasQuorum_114 (fun H locs hW hS => ?_)
            refine lv_iload hM.1 hM.2.1 dX7_hasQuorum_117 (lv_at hl 0 rfl) ?_
            refine lv_icmp_ge hM.1 hM.2.1 dX7_hasQuorum_119 (tgt := 124) (by decide) (fun h_119 => ?_) (fun h_119 => ?_)
            ·
              refine lv_iinc hM.1 hM.2.1 dX7_hasQuorum_124 hl (k := 2) rfl (v := t + 1) rfl (by decide) (lv' := [(5, .int (t + 1)), (7, .int (gi S 5 (q70) (2))), (6, .ref (Z.1 5 (q70))), (4, .int (to)), (3, .int (fr)), (0, .ref (Z.1 7 (0))), (1, .ref (Z.1 2 (c))), (2, .ref (Z.1 0 (a)))]) rfl (fun ls hl => ?_)
              refine lv_goto hM.1 hM.2.1 dX7_hasQuorum_127 (tgt := 60) (by decide) ?_
              exact ih (t + 1) to fr ls H locs (by have := tb_lt hq_70; omega) (by have := tb_lt hq_70; omega) (by rw [show lQuo S n c to (f + 1) t = pif _ _ _ from rfl, pif_neg h_64, oel_s hq_70, pif_neg h_87, pif_pos h_119] at hE; exact hE) (lv_sub hl [0, 3, 4, 5, 6, 7] rfl) hW hS
            ·
              refine lv_iconst (v := 0) hM.1 hM.2.1 dX7_hasQuorum_122 (by decide) ?_
              exact z_iret hM hlk hr rfl hW hS (zF.of (by rw [show lQuo S n c to (f + 1) t = pif _ _ _ from rfl, pif_neg h_64, oel_s hq_70, pif_neg h_87, pif_neg h_119] at hE; exact hE) rfl) dX7_hasQuorum_123
          ·
            refine lv_aload hM.1 hM.2.1 dX7_hasQuorum_90 (lv_at hl 0 rfl) ?_
            refine z_get hM hW zc5 hd_70 rfl 1 (by decide) lf_X7_236 (v := .int (gi S 5 (q70) (1))) rfl dX7_hasQuorum_92 ?_
            refine lv_goto hM.1 hM.2.1 dX7_hasQuorum_95 (tgt := 103) (by decide) ?_
            refine lv_istore hM.1 hM.2.1 dX7_hasQuorum_103 hl (by decide) (lv' := [(7, .int (gi S 5 (q70) (1))), (6, .ref (Z.1 5 (q70))), (5, .int (t)), (4, .int (to)), (3, .int (fr)), (0, .ref (Z.1 7 (0))), (1, .ref (Z.1 2 (c))), (2, .ref (Z.1 0 (a)))]) rfl (fun ls hl => ?_)
            refine lv_aload hM.1 hM.2.1 dX7_hasQuorum_105 (lv_at hl 1 rfl) ?_
            refine z_getr hM hW zc5 hd_70 rfl 0 (by decide) lf_X7_233 (t := 9) (j := 1 + q70) rfl hr5_70 dX7_hasQuorum_107 (fun hd2_107 => ?_)
            refine lv_aload_n hM.1 hM.2.1 dX7_hasQuorum_110 rfl (lv_at hl 6 rfl) ?_
            refine z_get hM hW zc2 (hV.d2 hc) rfl 5 (by decide) lf_X7_192 (v := .int (gi S 2 (c) (5))) rfl dX7_hasQuorum_111 ?_
            refine z_Si hM (hml.trans hl.1.symm) hW hS hlo zyX5_sum lm_X7_284 ls_yX5_sum (As := [.ref (Z.1 9 (1 + q70)), .int (gi S 2 (c) (5))]) (rest := []) (c_X5_sum (n := n) hd2_107 hl9_70 hV.n7) rfl rfl (Nat.le_of_ble_eq_true rfl) ⟨Nat.le_of_ble_eq_true rfl, Nat.le_of_ble_eq_true rfl⟩ ⟨Nat.le_of_ble_eq_true rfl, Nat.le_of_ble_eq_true rfl⟩ dX7_hasQuorum_114 (fun H locs hW hS => ?_)
            refine lv_iload hM.1 hM.2.1 dX7_hasQuorum_117 (lv_at hl 0 rfl) ?_
            refine lv_icmp_ge hM.1 hM.2.1 dX7_hasQuorum_119 (tgt := 124) (by decide) (fun h_119 => ?_) (fun h_119 => ?_)
            ·
              refine lv_iinc hM.1 hM.2.1 dX7_hasQuorum_124 hl (k := 2) rfl (v := t + 1) rfl (by decide) (lv' := [(5, .int (t + 1)), (7, .int (gi S 5 (q70) (1))), (6, .ref (Z.1 5 (q70))), (4, .int (to)), (3, .int (fr)), (0, .ref (Z.1 7 (0))), (1, .ref (Z.1 2 (c))), (2, .ref (Z.1 0 (a)))]) rfl (fun ls hl => ?_)
              refine lv_goto hM.1 hM.2.1 dX7_hasQuorum_127 (tgt := 60) (by decide) ?_
              exact ih (t + 1) to fr ls H locs (by have := tb_lt hq_70; omega) (by have := tb_lt hq_70; omega) (by rw [show lQuo S n c to (f + 1) t = pif _ _ _ from rfl, pif_neg h_64, oel_s hq_70, pif_pos h_87, pif_pos h_119] at hE; exact hE) (lv_sub hl [0, 3, 4, 5, 6, 7] rfl) hW hS
            ·
              refine lv_iconst (v := 0) hM.1 hM.2.1 dX7_hasQuorum_122 (by decide) ?_
              exact z_iret hM hlk hr rfl hW hS (zF.of (by rw [show lQuo S n c to (f + 1) t = pif _ _ _ from rfl, pif_neg h_64, oel_s hq_70, pif_pos h_87, pif_neg h_119] at hE; exact hE) rfl) dX7_hasQuorum_123
  refine lv_aload_n hM.1 hM.2.1 dX7_hasQuorum_0 rfl (lv_at hl 1 rfl) ?_
  refine z_get hM hW zc2 (hV.d2 hc) rfl 6 (by decide) lf_X7_77 (v := .int (gi S 2 (c) (6))) rfl dX7_hasQuorum_1 ?_
  refine lv_istore_n hM.1 hM.2.1 dX7_hasQuorum_4 rfl hl (by decide) (lv' := [(3, .int (gi S 2 (c) (6))), (0, .ref (Z.1 7 (0))), (1, .ref (Z.1 2 (c))), (2, .ref (Z.1 0 (a)))]) rfl (fun ls hl => ?_)
  refine lv_aload_n hM.1 hM.2.1 dX7_hasQuorum_5 rfl (lv_at hl 2 rfl) ?_
  refine z_get hM hW zc2 (hV.d2 hc) rfl 7 (by decide) lf_X7_80 (v := .int (gi S 2 (c) (7))) rfl dX7_hasQuorum_6 ?_
  refine lv_istore hM.1 hM.2.1 dX7_hasQuorum_9 hl (by decide) (lv' := [(4, .int (gi S 2 (c) (7))), (3, .int (gi S 2 (c) (6))), (0, .ref (Z.1 7 (0))), (1, .ref (Z.1 2 (c))), (2, .ref (Z.1 0 (a)))]) rfl (fun ls hl => ?_)
  refine lv_aload_n hM.1 hM.2.1 dX7_hasQuorum_11 rfl (lv_at hl 3 rfl) ?_
  refine z_get hM hW zc2 (hV.d2 hc) rfl 3 (by decide) lf_X7_189 (v := .int (gi S 2 (c) (3))) rfl dX7_hasQuorum_12 ?_
  refine lv_iconst (v := 3) hM.1 hM.2.1 dX7_hasQuorum_15 (by decide) ?_
  refine lv_icmp_ne hM.1 hM.2.1 dX7_hasQuorum_16 (tgt := 30) (by decide) (fun h_16 => ?_) (fun h_16 => ?_)
  ·
    refine lv_aload_n hM.1 hM.2.1 dX7_hasQuorum_30 rfl (lv_at hl 3 rfl) ?_
    refine z_get hM hW zc2 (hV.d2 hc) rfl 3 (by decide) lf_X7_189 (v := .int (gi S 2 (c) (3))) rfl dX7_hasQuorum_31 ?_
    refine lv_iconst (v := 4) hM.1 hM.2.1 dX7_hasQuorum_34 (by decide) ?_
    refine lv_icmp_eq hM.1 hM.2.1 dX7_hasQuorum_35 (tgt := 46) (by decide) (fun h_35 => ?_) (fun h_35 => ?_)
    ·
      refine lv_aload_n hM.1 hM.2.1 dX7_hasQuorum_46 rfl (lv_at hl 4 rfl) ?_
      refine z_get hM hW zc0 ha rfl 7 (by decide) lf_X7_226 (v := .int (gi S 0 (a) (7))) rfl dX7_hasQuorum_47 ?_
      refine lv_istore_n hM.1 hM.2.1 dX7_hasQuorum_50 rfl hl (by decide) (lv' := [(3, .int (gi S 0 (a) (7))), (4, .int (gi S 2 (c) (7))), (0, .ref (Z.1 7 (0))), (1, .ref (Z.1 2 (c))), (2, .ref (Z.1 0 (a)))]) rfl (fun ls hl => ?_)
      refine lv_aload_n hM.1 hM.2.1 dX7_hasQuorum_51 rfl (lv_at hl 4 rfl) ?_
      refine z_get hM hW zc0 ha rfl 7 (by decide) lf_X7_226 (v := .int (gi S 0 (a) (7))) rfl dX7_hasQuorum_52 ?_
      refine lv_istore hM.1 hM.2.1 dX7_hasQuorum_55 hl (by decide) (lv' := [(4, .int (gi S 0 (a) (7))), (3, .int (gi S 0 (a) (7))), (0, .ref (Z.1 7 (0))), (1, .ref (Z.1 2 (c))), (2, .ref (Z.1 0 (a)))]) rfl (fun ls hl => ?_)
      refine lv_iload_n hM.1 hM.2.1 dX7_hasQuorum_57 rfl (lv_at hl 1 rfl) ?_
      refine lv_istore hM.1 hM.2.1 dX7_hasQuorum_58 hl (by decide) (lv' := [(5, .int (gi S 0 (a) (7))), (4, .int (gi S 0 (a) (7))), (3, .int (gi S 0 (a) (7))), (0, .ref (Z.1 7 (0))), (1, .ref (Z.1 2 (c))), (2, .ref (Z.1 0 (a)))]) rfl (fun ls hl => ?_)
      exact loop 18 _ _ _ ls _ _ (by omega) (Or.inr rfl) (by unfold r_X7_hasQuorum; rw [pif_neg h_16, pif_pos h_35]) (lv_sub hl [0, 1, 2, 3, 4, 5] rfl) hW hS
    ·
      refine lv_aload_n hM.1 hM.2.1 dX7_hasQuorum_38 rfl (lv_at hl 3 rfl) ?_
      refine z_get hM hW zc2 (hV.d2 hc) rfl 3 (by decide) lf_X7_189 (v := .int (gi S 2 (c) (3))) rfl dX7_hasQuorum_39 ?_
      refine lv_iconst (v := 5) hM.1 hM.2.1 dX7_hasQuorum_42 (by decide) ?_
      refine lv_icmp_ne hM.1 hM.2.1 dX7_hasQuorum_43 (tgt := 57) (by decide) (fun h_43 => ?_) (fun h_43 => ?_)
      ·
        refine lv_iload_n hM.1 hM.2.1 dX7_hasQuorum_57 rfl (lv_at hl 1 rfl) ?_
        refine lv_istore hM.1 hM.2.1 dX7_hasQuorum_58 hl (by decide) (lv' := [(5, .int (gi S 2 (c) (6))), (4, .int (gi S 2 (c) (7))), (3, .int (gi S 2 (c) (6))), (0, .ref (Z.1 7 (0))), (1, .ref (Z.1 2 (c))), (2, .ref (Z.1 0 (a)))]) rfl (fun ls hl => ?_)
        exact loop 18 _ _ _ ls _ _ (by omega) (Or.inr rfl) (by unfold r_X7_hasQuorum; rw [pif_neg h_16, pif_neg h_35, pif_neg h_43]) (lv_sub hl [0, 1, 2, 3, 4, 5] rfl) hW hS
      ·
        refine lv_aload_n hM.1 hM.2.1 dX7_hasQuorum_46 rfl (lv_at hl 4 rfl) ?_
        refine z_get hM hW zc0 ha rfl 7 (by decide) lf_X7_226 (v := .int (gi S 0 (a) (7))) rfl dX7_hasQuorum_47 ?_
        refine lv_istore_n hM.1 hM.2.1 dX7_hasQuorum_50 rfl hl (by decide) (lv' := [(3, .int (gi S 0 (a) (7))), (4, .int (gi S 2 (c) (7))), (0, .ref (Z.1 7 (0))), (1, .ref (Z.1 2 (c))), (2, .ref (Z.1 0 (a)))]) rfl (fun ls hl => ?_)
        refine lv_aload_n hM.1 hM.2.1 dX7_hasQuorum_51 rfl (lv_at hl 4 rfl) ?_
        refine z_get hM hW zc0 ha rfl 7 (by decide) lf_X7_226 (v := .int (gi S 0 (a) (7))) rfl dX7_hasQuorum_52 ?_
        refine lv_istore hM.1 hM.2.1 dX7_hasQuorum_55 hl (by decide) (lv' := [(4, .int (gi S 0 (a) (7))), (3, .int (gi S 0 (a) (7))), (0, .ref (Z.1 7 (0))), (1, .ref (Z.1 2 (c))), (2, .ref (Z.1 0 (a)))]) rfl (fun ls hl => ?_)
        refine lv_iload_n hM.1 hM.2.1 dX7_hasQuorum_57 rfl (lv_at hl 1 rfl) ?_
        refine lv_istore hM.1 hM.2.1 dX7_hasQuorum_58 hl (by decide) (lv' := [(5, .int (gi S 0 (a) (7))), (4, .int (gi S 0 (a) (7))), (3, .int (gi S 0 (a) (7))), (0, .ref (Z.1 7 (0))), (1, .ref (Z.1 2 (c))), (2, .ref (Z.1 0 (a)))]) rfl (fun ls hl => ?_)
        exact loop 18 _ _ _ ls _ _ (by omega) (Or.inr rfl) (by unfold r_X7_hasQuorum; rw [pif_neg h_16, pif_neg h_35, pif_pos h_43]) (lv_sub hl [0, 1, 2, 3, 4, 5] rfl) hW hS
  ·
    refine lv_aload_n hM.1 hM.2.1 dX7_hasQuorum_19 rfl (lv_at hl 4 rfl) ?_
    refine z_get hM hW zc0 ha rfl 7 (by decide) lf_X7_226 (v := .int (gi S 0 (a) (7))) rfl dX7_hasQuorum_20 ?_
    refine lv_iconst (v := 1) hM.1 hM.2.1 dX7_hasQuorum_23 (by decide) ?_
    refine lv_isub hM.1 hM.2.1 dX7_hasQuorum_24 ?_
    refine lv_istore hM.1 hM.2.1 dX7_hasQuorum_25 hl (by decide) (lv' := [(4, .int ((gi S 0 (a) (7)) - (1))), (3, .int (gi S 2 (c) (6))), (0, .ref (Z.1 7 (0))), (1, .ref (Z.1 2 (c))), (2, .ref (Z.1 0 (a)))]) rfl (fun ls hl => ?_)
    refine lv_goto hM.1 hM.2.1 dX7_hasQuorum_27 (tgt := 57) (by decide) ?_
    refine lv_iload_n hM.1 hM.2.1 dX7_hasQuorum_57 rfl (lv_at hl 1 rfl) ?_
    refine lv_istore hM.1 hM.2.1 dX7_hasQuorum_58 hl (by decide) (lv' := [(5, .int (gi S 2 (c) (6))), (4, .int ((gi S 0 (a) (7)) - (1))), (3, .int (gi S 2 (c) (6))), (0, .ref (Z.1 7 (0))), (1, .ref (Z.1 2 (c))), (2, .ref (Z.1 0 (a)))]) rfl (fun ls hl => ?_)
    exact loop 18 _ _ _ ls _ _ (by omega) (Or.inr rfl) (by unfold r_X7_hasQuorum; rw [pif_pos h_16]) (lv_sub hl [0, 1, 2, 3, 4, 5] rfl) hW hS
