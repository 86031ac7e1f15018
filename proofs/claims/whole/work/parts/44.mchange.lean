/-- the votes of the next table together, from k on -/
def lNx (S : zS) : Nat → Nat → Int32 → Int32
  | 0, _, r => r
  | f + 1, k, r => lNx S f (k + 1) (r + gi S 9 (109) (k))
/-- the votes of the new table, from k on -/
def lTb (tc : Nat) : Nat → Nat → zS → zS
  | 0, _, T => T
  | f + 1, k, T => lTb tc f (k + 1) (si T 9 (108) (9 * tc + k) (gi T 9 (109) (k)))
noncomputable def chR (n tc ac : Nat) (x y : Int32) (T : zS) : Int32 := r_X8_beginAct (si (si (si T 9 (108) (9 * tc + 7) (x)) 9 (108) (9 * tc + 8) (y)) 8 (0) (10) (nI (tc + 1))) n ac (0) (2) (0) (nI (tc + 1 - 1))
noncomputable def chS (n tc ac : Nat) (x y : Int32) (T : zS) : zS := s_X8_beginAct (si (si (si T 9 (108) (9 * tc + 7) (x)) 9 (108) (9 * tc + 8) (y)) 8 (0) (10) (nI (tc + 1))) n ac (0) (2) (0) (nI (tc + 1 - 1))
noncomputable def r_X8_change (S : zS) (n tc ac : Nat) (x y : Int32) : Int32 := 
  (pif ((x) < (1)) ((-1)) 
    (pif ((y) < (1)) ((-1)) 
      (pif ((lNx S n 0 0) < (x)) ((-1)) 
        (pif ((lNx S n 0 0) < (y)) ((-1)) 
          (pif (((x) + (y)) ≤ (lNx S n 0 0)) ((-1)) 
            (pif (((2) * (y)) ≤ (lNx S n 0 0)) ((-1)) 
              (pif ((nI tc) = (16)) ((-1)) 
                (pif ((nI ac) = (200)) ((-1)) 
                  (pif ((0) ≤ (gi S 9 (111) (0))) ((-1)) 
                    (pif ((gi S 9 (115) (0)) ≤ (gi S 9 (114) (0))) (chR n tc ac x y (lTb tc n 0 S)) ((-1))))))))))))
noncomputable def s_X8_change (S : zS) (n tc ac : Nat) (x y : Int32) : zS := 
  (pif ((x) < (1)) (S) 
    (pif ((y) < (1)) (S) 
      (pif ((lNx S n 0 0) < (x)) (S) 
        (pif ((lNx S n 0 0) < (y)) (S) 
          (pif (((x) + (y)) ≤ (lNx S n 0 0)) (S) 
            (pif (((2) * (y)) ≤ (lNx S n 0 0)) (S) 
              (pif ((nI tc) = (16)) (S) 
                (pif ((nI ac) = (200)) (S) 
                  (pif ((0) ≤ (gi S 9 (111) (0))) (S) 
                    (pif ((gi S 9 (115) (0)) ≤ (gi S 9 (114) (0))) (chS n tc ac x y (lTb tc n 0 S)) (S)))))))))))
theorem mT16 {tc : Nat} (h : ¬ nI tc = 16) (ht : tc ≤ 16) : tc < 16 := by
  rcases Nat.lt_or_eq_of_le ht with q | q
  · exact q
  · subst q; exact absurd rfl h

/-- all but the tables' rows is as in S -/
def mTb (S T : zS) : Prop := T.2 = S.2 ∧ ∀ K I x, ¬ (K = 9 ∧ I = 108) → gi T K I x = gi S K I x
theorem mTb.st {S T : zS} {f : Nat} {v : Int32} (h : mTb S T) : mTb S (si T 9 108 f v) := ⟨h.1, fun K I x q => by rw [gi_si, if_neg (fun r => q ⟨r.1, r.2.1⟩)]; exact h.2 K I x q⟩
set_option maxHeartbeats 400000 in
set_option maxRecDepth 100000 in
theorem c_X8_change {l : Launch} {D : va_G} {ar : Nat → ClassId} {A : Nat → Prop} {Z : zZ} {S : zS} {n tc ac : Nat} {x y : Int32} (hI : mI n Z S) (htc : gi S 8 0 10 = nI tc) (ht16 : tc ≤ 16) (hac : gi S 8 0 29 = nI ac) (ha200 : ac ≤ 200) : zMet l yX8_change prog_10_method_10_code 6 (some .int) ({ frames := 4, cells := 0, slots := 0, locals := 110 } : Room) D ar A Z S [.ref (Z.1 8 (0)), .int (x), .int (y)] rvI (zF (r_X8_change S n tc ac x y) Z (s_X8_change S n tc ac x y)) := by
  refine z_body (by decide +kernel) (Nat.le_of_ble_eq_true rfl) ?_
  intro pX eX sX mX bX methX cX ls hM hr hlk hml hin hl hW hlo
  have hM : zM pX cX mX _ sX prog_10_method_10_code RX8 D ar := hM
  have hS : va_S A sX.heap sX.heap [] := va_S.rf
  have hl : lv_has ls 6 [(0, .ref (Z.1 8 (0))), (1, .int (x)), (2, .int (y))] := hl
  have hO := hI.O
  have hn := hI.n
  have h7 := hI.n7
  have loop2 : ac < 200 → tc < 16 → ∀ (f k : Nat) (T : zS) (ls : Array Slot) (H : Heap) (locs : List Loc), k + f = n → mTb S T → chR n tc ac x y (lTb tc f k T) = r_X8_change S n tc ac x y → chS n tc ac x y (lTb tc f k T) = s_X8_change S n tc ac x y → lv_has ls 6 [(5, .int (nI k)), (0, .ref (Z.1 8 (0))), (1, .int (x)), (2, .int (y))] → zW D ar A Z T H → va_S A sX.heap H locs → W pX l eX ({ frames := 4, cells := 0, slots := 0, locals := 110 } : Room) sX mX ([.ref (Z.1 8 (0)), .int (x), .int (y)] : List Value).toArray bX methX cX H locs 0 0 (MQ bX (zQ D ar A rvI (zF (r_X8_change S n tc ac x y) Z (s_X8_change S n tc ac x y))) ([.ref (Z.1 8 (0)), .int (x), .int (y)] : List Value).toArray sX 0 0 A) (F0 mX 124 ls []) := by
    intro ha2 ht2 f
    induction f with
    | zero =>
      intro k T ls H locs hk hT hE1 hE2 hl hW hS
      have hTn : gi T 8 0 0 = nI n := by rw [hT.2 _ _ _ (by decide)]; exact hn
      have hTt : gi T 8 0 10 = nI tc := by rw [hT.2 _ _ _ (by decide)]; exact htc
      have hTk : T.2.2 = S.2.2 := by rw [hT.1]
      have hc9 : nI n ≤ nI k := by rw [show k = n by omega]; exact Int32.le_refl _
      refine lv_iload hM.1 hM.2.1 dX8_change_124 (lv_at hl 0 rfl) ?_
      refine lv_aload_n hM.1 hM.2.1 dX8_change_126 rfl (lv_at hl 1 rfl) ?_
      refine z_get hM hW zc8 hI.O.1 rfl 0 (by decide) lf_X8_129 (v := .int (nI n)) (congrArg Value.int (show gi T 8 (0) (0) = nI n from hTn)) dX8_change_127 ?_
      refine lv_icmp_ge hM.1 hM.2.1 dX8_change_130 (tgt := 161) (by decide) (fun _ => ?_) (fun h => absurd hc9 h)
      refine lv_aload_n hM.1 hM.2.1 dX8_change_161 rfl (lv_at hl 1 rfl) ?_
      refine z_getr hM hW zc8 hI.O.1 rfl 8 (by decide) lf_X8_33 (t := 9) (j := 108) rfl ((gr_of hTk).trans (hO.r 8 (by decide) (by decide))) dX8_change_162 (fun hd1_162 => ?_)
      refine lv_bipush (v := 9) hM.1 hM.2.1 dX8_change_165 (by decide) ?_
      refine lv_aload_n hM.1 hM.2.1 dX8_change_167 rfl (lv_at hl 1 rfl) ?_
      refine z_get hM hW zc8 hI.O.1 rfl 10 (by decide) lf_X8_133 (v := .int (nI tc)) (congrArg Value.int (show gi T 8 (0) (10) = nI tc from hTt)) dX8_change_168 ?_
      refine lv_imul hM.1 hM.2.1 dX8_change_171 ?_
      rw [nI_m9]
      refine lv_bipush (v := 7) hM.1 hM.2.1 dX8_change_172 (by decide) ?_
      refine lv_iadd hM.1 hM.2.1 dX8_change_174 ?_
      rw [nI_add7]
      refine lv_iload_n hM.1 hM.2.1 dX8_change_175 rfl (lv_at hl 2 rfl) ?_
      refine z_iast hM hW hS hd1_162 rfl (vin_nI (hO.l 8 (by decide) (by decide)) (by have : mlen 8 = 144 := rfl; omega) (by decide)) dX8_change_176 (fun H locs hW hS => ?_)
      rw [nI_clamp (by omega)] at hW
      refine lv_aload_n hM.1 hM.2.1 dX8_change_177 rfl (lv_at hl 1 rfl) ?_
      refine z_getr hM hW zc8 hI.O.1 rfl 8 (by decide) lf_X8_33 (t := 9) (j := 108) rfl ((gr_of hTk).trans (hO.r 8 (by decide) (by decide))) dX8_change_178 (fun hd2_178 => ?_)
      refine lv_bipush (v := 9) hM.1 hM.2.1 dX8_change_181 (by decide) ?_
      refine lv_aload_n hM.1 hM.2.1 dX8_change_183 rfl (lv_at hl 1 rfl) ?_
      refine z_get hM hW zc8 hI.O.1 rfl 10 (by decide) lf_X8_133 (v := .int (nI tc)) (congrArg Value.int (show gi (si T 9 (108) (9 * tc + 7) (x)) 8 (0) (10) = nI tc from hTt)) dX8_change_184 ?_
      refine lv_imul hM.1 hM.2.1 dX8_change_187 ?_
      rw [nI_m9]
      refine lv_bipush (v := 8) hM.1 hM.2.1 dX8_change_188 (by decide) ?_
      refine lv_iadd hM.1 hM.2.1 dX8_change_190 ?_
      rw [nI_add8]
      refine lv_iload_n hM.1 hM.2.1 dX8_change_191 rfl (lv_at hl 3 rfl) ?_
      refine z_iast hM hW hS hd2_178 rfl (vin_nI (hO.l 8 (by decide) (by decide)) (by have : mlen 8 = 144 := rfl; omega) (by decide)) dX8_change_192 (fun H locs hW hS => ?_)
      rw [nI_clamp (by omega)] at hW
      refine lv_aload_n hM.1 hM.2.1 dX8_change_193 rfl (lv_at hl 1 rfl) ?_
      refine lv_dup hM.1 hM.2.1 dX8_change_194 rfl ?_
      refine z_get hM hW zc8 hI.O.1 rfl 10 (by decide) lf_X8_133 (v := .int (nI tc)) (congrArg Value.int (show gi (si (si T 9 (108) (9 * tc + 7) (x)) 9 (108) (9 * tc + 8) (y)) 8 (0) (10) = nI tc from hTt)) dX8_change_195 ?_
      refine lv_iconst (v := 1) hM.1 hM.2.1 dX8_change_198 (by decide) ?_
      refine lv_iadd hM.1 hM.2.1 dX8_change_199 ?_
      rw [← nI_succ]
      refine z_puti hM hW hS zc8 hI.O.1 rfl 10 (by decide) rfl lf_X8_133 (Or.inl rfl) (tyX8 10) (tyX8_ok 10 (by decide)) rfl rfl dX8_change_200 (fun H locs hW hS => ?_)
      refine lv_aload_n hM.1 hM.2.1 dX8_change_203 rfl (lv_at hl 1 rfl) ?_
      refine lv_iconst (v := 0) hM.1 hM.2.1 dX8_change_204 (by decide) ?_
      refine lv_iconst (v := 2) hM.1 hM.2.1 dX8_change_205 (by decide) ?_
      refine lv_lconst (v := 0) hM.1 hM.2.1 dX8_change_206 (by decide) ?_
      refine lv_aload_n hM.1 hM.2.1 dX8_change_207 rfl (lv_at hl 1 rfl) ?_
      refine z_get hM hW zc8 hI.O.1 rfl 10 (by decide) lf_X8_133 (v := .int (nI (tc + 1))) rfl dX8_change_208 ?_
      refine lv_iconst (v := 1) hM.1 hM.2.1 dX8_change_211 (by decide) ?_
      refine lv_isub hM.1 hM.2.1 dX8_change_212 ?_
      rw [nI_sub1 (by omega) (by omega)]
      refine z_Vi hM (hml.trans hl.1.symm) hW hS hlo zc8 hI.O.1 rfl zyX8_beginAct lm_X8_163 li_yX8_beginAct le_yX8_beginAct (As := [.int (0), .int (2), .long (0), .int (nI (tc + 1 - 1))]) (rest := []) (c_X8_beginAct (n := n) (ac := ac) (hO.of hTk) hTn h7 vin0 (by show gi T 8 0 29 = _; rw [hT.2 _ _ _ (by decide)]; exact hac) ha2 (by show gi T 8 0 44 = nI (ix (gi T 8 0 44)); rw [hT.2 _ _ _ (by decide)]; exact hI.cn) (by show ix (gi T 8 0 44) ≤ 300; rw [hT.2 _ _ _ (by decide)]; exact hI.cm)) rfl rfl (Nat.le_of_ble_eq_true rfl) ⟨Nat.le_of_ble_eq_true rfl, Nat.le_of_ble_eq_true rfl⟩ ⟨Nat.le_of_ble_eq_true rfl, Nat.le_of_ble_eq_true rfl⟩ dX8_change_213 (fun H locs hW hS => ?_)
      exact z_iret hM hlk hr rfl hW hS (zF.of hE1 hE2) dX8_change_216
    | succ f ih =>
      intro k T ls H locs hk hT hE1 hE2 hl hW hS
      have hTn : gi T 8 0 0 = nI n := by rw [hT.2 _ _ _ (by decide)]; exact hn
      have hTt : gi T 8 0 10 = nI tc := by rw [hT.2 _ _ _ (by decide)]; exact htc
      have hTk : T.2.2 = S.2.2 := by rw [hT.1]
      have hc9 : ¬ nI n ≤ nI k := nI_ge (by omega) (by omega)
      refine lv_iload hM.1 hM.2.1 dX8_change_124 (lv_at hl 0 rfl) ?_
      refine lv_aload_n hM.1 hM.2.1 dX8_change_126 rfl (lv_at hl 1 rfl) ?_
      refine z_get hM hW zc8 hI.O.1 rfl 0 (by decide) lf_X8_129 (v := .int (nI n)) (congrArg Value.int (show gi T 8 (0) (0) = nI n from hTn)) dX8_change_127 ?_
      refine lv_icmp_ge hM.1 hM.2.1 dX8_change_130 (tgt := 161) (by decide) (fun h => absurd h hc9) (fun _ => ?_)
      refine lv_aload_n hM.1 hM.2.1 dX8_change_133 rfl (lv_at hl 1 rfl) ?_
      refine z_getr hM hW zc8 hI.O.1 rfl 8 (by decide) lf_X8_33 (t := 9) (j := 108) rfl ((gr_of hTk).trans (hO.r 8 (by decide) (by decide))) dX8_change_134 (fun hd3_134 => ?_)
      refine lv_bipush (v := 9) hM.1 hM.2.1 dX8_change_137 (by decide) ?_
      refine lv_aload_n hM.1 hM.2.1 dX8_change_139 rfl (lv_at hl 1 rfl) ?_
      refine z_get hM hW zc8 hI.O.1 rfl 10 (by decide) lf_X8_133 (v := .int (nI tc)) (congrArg Value.int (show gi T 8 (0) (10) = nI tc from hTt)) dX8_change_140 ?_
      refine lv_imul hM.1 hM.2.1 dX8_change_143 ?_
      rw [nI_m9]
      refine lv_iload hM.1 hM.2.1 dX8_change_144 (lv_at hl 0 rfl) ?_
      refine lv_iadd hM.1 hM.2.1 dX8_change_146 ?_
      rw [← nI_ad]
      refine lv_aload_n hM.1 hM.2.1 dX8_change_147 rfl (lv_at hl 1 rfl) ?_
      refine z_getr hM hW zc8 hI.O.1 rfl 9 (by decide) lf_X8_36 (t := 9) (j := 109) rfl ((gr_of hTk).trans (hO.r 9 (by decide) (by decide))) dX8_change_148 (fun hd4_148 => ?_)
      refine lv_iload hM.1 hM.2.1 dX8_change_151 (lv_at hl 0 rfl) ?_
      refine z_iald hM hW hd4_148 rfl (vin_nI (hO.l 9 (by decide) (by decide)) (by have : mlen 9 = 7 := rfl; omega) (by decide)) (v := gi T 9 (109) (k)) ((congrArg (gi T 9 (109)) (nI_clamp (by omega))).trans rfl) dX8_change_153 ?_
      refine z_iast hM hW hS hd3_134 rfl (vin_nI (hO.l 8 (by decide) (by decide)) (by have : mlen 8 = 144 := rfl; omega) (by decide)) dX8_change_154 (fun H locs hW hS => ?_)
      rw [nI_clamp (by omega)] at hW
      refine lv_iinc hM.1 hM.2.1 dX8_change_155 hl (k := 0) rfl (v := nI (k + 1)) (nI_succ _).symm (by decide) (lv' := [(5, .int (nI (k + 1))), (0, .ref (Z.1 8 (0))), (1, .int (x)), (2, .int (y))]) rfl (fun ls hl => ?_)
      refine lv_goto hM.1 hM.2.1 dX8_change_158 (tgt := 124) (by decide) ?_
      exact ih (k + 1) _ ls H locs (by omega) hT.st hE1 hE2 (lv_sub hl [0, 1, 2, 3] rfl) hW hS
  have loop1 : ∀ (f k : Nat) (sm : Int32) (ls : Array Slot) (H : Heap) (locs : List Loc), k + f = n → lNx S f k sm = lNx S n 0 0 → lv_has ls 6 [(4, .int (nI k)), (3, .int (sm)), (0, .ref (Z.1 8 (0))), (1, .int (x)), (2, .int (y))] → zW D ar A Z S H → va_S A sX.heap H locs → W pX l eX ({ frames := 4, cells := 0, slots := 0, locals := 110 } : Room) sX mX ([.ref (Z.1 8 (0)), .int (x), .int (y)] : List Value).toArray bX methX cX H locs 0 0 (MQ bX (zQ D ar A rvI (zF (r_X8_change S n tc ac x y) Z (s_X8_change S n tc ac x y))) ([.ref (Z.1 8 (0)), .int (x), .int (y)] : List Value).toArray sX 0 0 A) (F0 mX 5 ls []) := by
    intro f
    induction f with
    | zero =>
      intro k sm ls H locs hk hE hl hW hS
      have hc9 : nI n ≤ nI k := by rw [show k = n by omega]; exact Int32.le_refl _
      have hE : sm = lNx S n 0 0 := hE
      subst hE
      refine lv_iload hM.1 hM.2.1 dX8_change_5 (lv_at hl 0 rfl) ?_
      refine lv_aload_n hM.1 hM.2.1 dX8_change_7 rfl (lv_at hl 2 rfl) ?_
      refine z_get hM hW zc8 hI.O.1 rfl 0 (by decide) lf_X8_129 (v := .int (nI n)) (congrArg Value.int (show gi S 8 (0) (0) = nI n from hn)) dX8_change_8 ?_
      refine lv_icmp_ge hM.1 hM.2.1 dX8_change_11 (tgt := 30) (by decide) (fun _ => ?_) (fun h => absurd hc9 h)
      refine lv_iload_n hM.1 hM.2.1 dX8_change_30 rfl (lv_at hl 3 rfl) ?_
      refine lv_iconst (v := 1) hM.1 hM.2.1 dX8_change_31 (by decide) ?_
      refine lv_icmp_lt hM.1 hM.2.1 dX8_change_32 (tgt := 68) (by decide) (fun h_32 => ?_) (fun h_32 => ?_)
      ·
        refine lv_iconst (v := 0) hM.1 hM.2.1 dX8_change_68 (by decide) ?_
        refine lv_istore hM.1 hM.2.1 dX8_change_69 hl (by decide) (lv' := [(4, .int (0)), (3, .int (lNx S n 0 0)), (0, .ref (Z.1 8 (0))), (1, .int (x)), (2, .int (y))]) rfl (fun ls hl => ?_)
        refine lv_iload hM.1 hM.2.1 dX8_change_71 (lv_at hl 0 rfl) ?_
        refine lv_if_eq hM.1 hM.2.1 dX8_change_73 (tgt := 119) (by decide) (fun _ => ?_) (fun h => absurd (by decide) h)
        refine lv_iconst (v := (-1)) hM.1 hM.2.1 dX8_change_119 (by decide) ?_
        exact z_iret hM hlk hr rfl hW hS (zF.of (by unfold r_X8_change; rw [pif_pos h_32]) (by unfold s_X8_change; rw [pif_pos h_32])) dX8_change_120
      ·
        refine lv_iload_n hM.1 hM.2.1 dX8_change_35 rfl (lv_at hl 4 rfl) ?_
        refine lv_iconst (v := 1) hM.1 hM.2.1 dX8_change_36 (by decide) ?_
        refine lv_icmp_lt hM.1 hM.2.1 dX8_change_37 (tgt := 68) (by decide) (fun h_37 => ?_) (fun h_37 => ?_)
        ·
          refine lv_iconst (v := 0) hM.1 hM.2.1 dX8_change_68 (by decide) ?_
          refine lv_istore hM.1 hM.2.1 dX8_change_69 hl (by decide) (lv' := [(4, .int (0)), (3, .int (lNx S n 0 0)), (0, .ref (Z.1 8 (0))), (1, .int (x)), (2, .int (y))]) rfl (fun ls hl => ?_)
          refine lv_iload hM.1 hM.2.1 dX8_change_71 (lv_at hl 0 rfl) ?_
          refine lv_if_eq hM.1 hM.2.1 dX8_change_73 (tgt := 119) (by decide) (fun _ => ?_) (fun h => absurd (by decide) h)
          refine lv_iconst (v := (-1)) hM.1 hM.2.1 dX8_change_119 (by decide) ?_
          exact z_iret hM hlk hr rfl hW hS (zF.of (by unfold r_X8_change; rw [pif_neg h_32, pif_pos h_37]) (by unfold s_X8_change; rw [pif_neg h_32, pif_pos h_37])) dX8_change_120
        ·
          refine lv_iload_n hM.1 hM.2.1 dX8_change_40 rfl (lv_at hl 3 rfl) ?_
          refine lv_iload_n hM.1 hM.2.1 dX8_change_41 rfl (lv_at hl 1 rfl) ?_
          refine lv_icmp_gt hM.1 hM.2.1 dX8_change_42 (tgt := 68) (by decide) (fun h_42 => ?_) (fun h_42 => ?_)
          ·
            refine lv_iconst (v := 0) hM.1 hM.2.1 dX8_change_68 (by decide) ?_
            refine lv_istore hM.1 hM.2.1 dX8_change_69 hl (by decide) (lv' := [(4, .int (0)), (3, .int (lNx S n 0 0)), (0, .ref (Z.1 8 (0))), (1, .int (x)), (2, .int (y))]) rfl (fun ls hl => ?_)
            refine lv_iload hM.1 hM.2.1 dX8_change_71 (lv_at hl 0 rfl) ?_
            refine lv_if_eq hM.1 hM.2.1 dX8_change_73 (tgt := 119) (by decide) (fun _ => ?_) (fun h => absurd (by decide) h)
            refine lv_iconst (v := (-1)) hM.1 hM.2.1 dX8_change_119 (by decide) ?_
            exact z_iret hM hlk hr rfl hW hS (zF.of (by unfold r_X8_change; rw [pif_neg h_32, pif_neg h_37, pif_pos h_42]) (by unfold s_X8_change; rw [pif_neg h_32, pif_neg h_37, pif_pos h_42])) dX8_change_120
          ·
            refine lv_iload_n hM.1 hM.2.1 dX8_change_45 rfl (lv_at hl 4 rfl) ?_
            refine lv_iload_n hM.1 hM.2.1 dX8_change_46 rfl (lv_at hl 1 rfl) ?_
            refine lv_icmp_gt hM.1 hM.2.1 dX8_change_47 (tgt := 68) (by decide) (fun h_47 => ?_) (fun h_47 => ?_)
            ·
              refine lv_iconst (v := 0) hM.1 hM.2.1 dX8_change_68 (by decide) ?_
              refine lv_istore hM.1 hM.2.1 dX8_change_69 hl (by decide) (lv' := [(4, .int (0)), (3, .int (lNx S n 0 0)), (0, .ref (Z.1 8 (0))), (1, .int (x)), (2, .int (y))]) rfl (fun ls hl => ?_)
              refine lv_iload hM.1 hM.2.1 dX8_change_71 (lv_at hl 0 rfl) ?_
              refine lv_if_eq hM.1 hM.2.1 dX8_change_73 (tgt := 119) (by decide) (fun _ => ?_) (fun h => absurd (by decide) h)
              refine lv_iconst (v := (-1)) hM.1 hM.2.1 dX8_change_119 (by decide) ?_
              exact z_iret hM hlk hr rfl hW hS (zF.of (by unfold r_X8_change; rw [pif_neg h_32, pif_neg h_37, pif_neg h_42, pif_pos h_47]) (by unfold s_X8_change; rw [pif_neg h_32, pif_neg h_37, pif_neg h_42, pif_pos h_47])) dX8_change_120
            ·
              refine lv_iload_n hM.1 hM.2.1 dX8_change_50 rfl (lv_at hl 3 rfl) ?_
              refine lv_iload_n hM.1 hM.2.1 dX8_change_51 rfl (lv_at hl 4 rfl) ?_
              refine lv_iadd hM.1 hM.2.1 dX8_change_52 ?_
              refine lv_iload_n hM.1 hM.2.1 dX8_change_53 rfl (lv_at hl 1 rfl) ?_
              refine lv_icmp_le hM.1 hM.2.1 dX8_change_54 (tgt := 68) (by decide) (fun h_54 => ?_) (fun h_54 => ?_)
              ·
                refine lv_iconst (v := 0) hM.1 hM.2.1 dX8_change_68 (by decide) ?_
                refine lv_istore hM.1 hM.2.1 dX8_change_69 hl (by decide) (lv' := [(4, .int (0)), (3, .int (lNx S n 0 0)), (0, .ref (Z.1 8 (0))), (1, .int (x)), (2, .int (y))]) rfl (fun ls hl => ?_)
                refine lv_iload hM.1 hM.2.1 dX8_change_71 (lv_at hl 0 rfl) ?_
                refine lv_if_eq hM.1 hM.2.1 dX8_change_73 (tgt := 119) (by decide) (fun _ => ?_) (fun h => absurd (by decide) h)
                refine lv_iconst (v := (-1)) hM.1 hM.2.1 dX8_change_119 (by decide) ?_
                exact z_iret hM hlk hr rfl hW hS (zF.of (by unfold r_X8_change; rw [pif_neg h_32, pif_neg h_37, pif_neg h_42, pif_neg h_47, pif_pos h_54]) (by unfold s_X8_change; rw [pif_neg h_32, pif_neg h_37, pif_neg h_42, pif_neg h_47, pif_pos h_54])) dX8_change_120
              ·
                refine lv_iconst (v := 2) hM.1 hM.2.1 dX8_change_57 (by decide) ?_
                refine lv_iload_n hM.1 hM.2.1 dX8_change_58 rfl (lv_at hl 4 rfl) ?_
                refine lv_imul hM.1 hM.2.1 dX8_change_59 ?_
                refine lv_iload_n hM.1 hM.2.1 dX8_change_60 rfl (lv_at hl 1 rfl) ?_
                refine lv_icmp_le hM.1 hM.2.1 dX8_change_61 (tgt := 68) (by decide) (fun h_61 => ?_) (fun h_61 => ?_)
                ·
                  refine lv_iconst (v := 0) hM.1 hM.2.1 dX8_change_68 (by decide) ?_
                  refine lv_istore hM.1 hM.2.1 dX8_change_69 hl (by decide) (lv' := [(4, .int (0)), (3, .int (lNx S n 0 0)), (0, .ref (Z.1 8 (0))), (1, .int (x)), (2, .int (y))]) rfl (fun ls hl => ?_)
                  refine lv_iload hM.1 hM.2.1 dX8_change_71 (lv_at hl 0 rfl) ?_
                  refine lv_if_eq hM.1 hM.2.1 dX8_change_73 (tgt := 119) (by decide) (fun _ => ?_) (fun h => absurd (by decide) h)
                  refine lv_iconst (v := (-1)) hM.1 hM.2.1 dX8_change_119 (by decide) ?_
                  exact z_iret hM hlk hr rfl hW hS (zF.of (by unfold r_X8_change; rw [pif_neg h_32, pif_neg h_37, pif_neg h_42, pif_neg h_47, pif_neg h_54, pif_pos h_61]) (by unfold s_X8_change; rw [pif_neg h_32, pif_neg h_37, pif_neg h_42, pif_neg h_47, pif_neg h_54, pif_pos h_61])) dX8_change_120
                ·
                  refine lv_iconst (v := 1) hM.1 hM.2.1 dX8_change_64 (by decide) ?_
                  refine lv_goto hM.1 hM.2.1 dX8_change_65 (tgt := 69) (by decide) ?_
                  refine lv_istore hM.1 hM.2.1 dX8_change_69 hl (by decide) (lv' := [(4, .int (1)), (3, .int (lNx S n 0 0)), (0, .ref (Z.1 8 (0))), (1, .int (x)), (2, .int (y))]) rfl (fun ls hl => ?_)
                  refine lv_iload hM.1 hM.2.1 dX8_change_71 (lv_at hl 0 rfl) ?_
                  refine lv_if_eq hM.1 hM.2.1 dX8_change_73 (tgt := 119) (by decide) (fun h => absurd h (by decide)) (fun _ => ?_)
                  refine lv_aload_n hM.1 hM.2.1 dX8_change_76 rfl (lv_at hl 2 rfl) ?_
                  refine z_get hM hW zc8 hI.O.1 rfl 10 (by decide) lf_X8_133 (v := .int (nI tc)) (congrArg Value.int (show gi S 8 (0) (10) = nI tc from htc)) dX8_change_77 ?_
                  refine lv_bipush (v := 16) hM.1 hM.2.1 dX8_change_80 (by decide) ?_
                  refine lv_icmp_eq hM.1 hM.2.1 dX8_change_82 (tgt := 119) (by decide) (fun h_82 => ?_) (fun h_82 => ?_)
                  ·
                    refine lv_iconst (v := (-1)) hM.1 hM.2.1 dX8_change_119 (by decide) ?_
                    exact z_iret hM hlk hr rfl hW hS (zF.of (by unfold r_X8_change; rw [pif_neg h_32, pif_neg h_37, pif_neg h_42, pif_neg h_47, pif_neg h_54, pif_neg h_61, pif_pos h_82]) (by unfold s_X8_change; rw [pif_neg h_32, pif_neg h_37, pif_neg h_42, pif_neg h_47, pif_neg h_54, pif_neg h_61, pif_pos h_82])) dX8_change_120
                  ·
                    refine lv_aload_n hM.1 hM.2.1 dX8_change_85 rfl (lv_at hl 2 rfl) ?_
                    refine z_get hM hW zc8 hI.O.1 rfl 29 (by decide) lf_X8_154 (v := .int (nI ac)) (congrArg Value.int (show gi S 8 (0) (29) = nI ac from hac)) dX8_change_86 ?_
                    refine lv_sipush (v := 200) hM.1 hM.2.1 dX8_change_89 (by decide) ?_
                    refine lv_icmp_eq hM.1 hM.2.1 dX8_change_92 (tgt := 119) (by decide) (fun h_92 => ?_) (fun h_92 => ?_)
                    ·
                      refine lv_iconst (v := (-1)) hM.1 hM.2.1 dX8_change_119 (by decide) ?_
                      exact z_iret hM hlk hr rfl hW hS (zF.of (by unfold r_X8_change; rw [pif_neg h_32, pif_neg h_37, pif_neg h_42, pif_neg h_47, pif_neg h_54, pif_neg h_61, pif_neg h_82, pif_pos h_92]) (by unfold s_X8_change; rw [pif_neg h_32, pif_neg h_37, pif_neg h_42, pif_neg h_47, pif_neg h_54, pif_neg h_61, pif_neg h_82, pif_pos h_92])) dX8_change_120
                    ·
                      refine lv_aload_n hM.1 hM.2.1 dX8_change_95 rfl (lv_at hl 2 rfl) ?_
                      refine z_getr hM hW zc8 hI.O.1 rfl 11 (by decide) lf_X8_39 (t := 9) (j := 111) rfl (hO.r 11 (by decide) (by decide)) dX8_change_96 (fun hd5_96 => ?_)
                      refine lv_iconst (v := 0) hM.1 hM.2.1 dX8_change_99 (by decide) ?_
                      refine z_iald hM hW hd5_96 rfl (vin_nI (X := 0) (hO.l 11 (by decide) (by decide)) (by decide) (by decide)) (v := gi S 9 (111) (0)) rfl dX8_change_100 ?_
                      refine lv_if_ge hM.1 hM.2.1 dX8_change_101 (tgt := 119) (by decide) (fun h_101 => ?_) (fun h_101 => ?_)
                      ·
                        refine lv_iconst (v := (-1)) hM.1 hM.2.1 dX8_change_119 (by decide) ?_
                        exact z_iret hM hlk hr rfl hW hS (zF.of (by unfold r_X8_change; rw [pif_neg h_32, pif_neg h_37, pif_neg h_42, pif_neg h_47, pif_neg h_54, pif_neg h_61, pif_neg h_82, pif_neg h_92, pif_pos h_101]) (by unfold s_X8_change; rw [pif_neg h_32, pif_neg h_37, pif_neg h_42, pif_neg h_47, pif_neg h_54, pif_neg h_61, pif_neg h_82, pif_neg h_92, pif_pos h_101])) dX8_change_120
                      ·
                        refine lv_aload_n hM.1 hM.2.1 dX8_change_104 rfl (lv_at hl 2 rfl) ?_
                        refine z_getr hM hW zc8 hI.O.1 rfl 14 (by decide) lf_X8_48 (t := 9) (j := 114) rfl (hO.r 14 (by decide) (by decide)) dX8_change_105 (fun hd6_105 => ?_)
                        refine lv_iconst (v := 0) hM.1 hM.2.1 dX8_change_108 (by decide) ?_
                        refine z_iald hM hW hd6_105 rfl (vin_nI (X := 0) (hO.l 14 (by decide) (by decide)) (by decide) (by decide)) (v := gi S 9 (114) (0)) rfl dX8_change_109 ?_
                        refine lv_aload_n hM.1 hM.2.1 dX8_change_110 rfl (lv_at hl 2 rfl) ?_
                        refine z_getr hM hW zc8 hI.O.1 rfl 15 (by decide) lf_X8_51 (t := 9) (j := 115) rfl (hO.r 15 (by decide) (by decide)) dX8_change_111 (fun hd7_111 => ?_)
                        refine lv_iconst (v := 0) hM.1 hM.2.1 dX8_change_114 (by decide) ?_
                        refine z_iald hM hW hd7_111 rfl (vin_nI (X := 0) (hO.l 15 (by decide) (by decide)) (by decide) (by decide)) (v := gi S 9 (115) (0)) rfl dX8_change_115 ?_
                        refine lv_icmp_ge hM.1 hM.2.1 dX8_change_116 (tgt := 121) (by decide) (fun h_116 => ?_) (fun h_116 => ?_)
                        ·
                          refine lv_iconst (v := 0) hM.1 hM.2.1 dX8_change_121 (by decide) ?_
                          refine lv_istore hM.1 hM.2.1 dX8_change_122 hl (by decide) (lv' := [(5, .int (0)), (4, .int (1)), (3, .int (lNx S n 0 0)), (0, .ref (Z.1 8 (0))), (1, .int (x)), (2, .int (y))]) rfl (fun ls hl => ?_)
                          exact loop2 (mAc200 h_92 rfl ha200) (mT16 h_82 ht16) n 0 S ls _ _ (by omega) ⟨rfl, fun _ _ _ _ => rfl⟩ (by unfold r_X8_change; rw [pif_neg h_32, pif_neg h_37, pif_neg h_42, pif_neg h_47, pif_neg h_54, pif_neg h_61, pif_neg h_82, pif_neg h_92, pif_neg h_101, pif_pos h_116]) (by unfold s_X8_change; rw [pif_neg h_32, pif_neg h_37, pif_neg h_42, pif_neg h_47, pif_neg h_54, pif_neg h_61, pif_neg h_82, pif_neg h_92, pif_neg h_101, pif_pos h_116]) (lv_sub hl [0, 3, 4, 5] rfl) hW hS
                        ·
                          refine lv_iconst (v := (-1)) hM.1 hM.2.1 dX8_change_119 (by decide) ?_
                          exact z_iret hM hlk hr rfl hW hS (zF.of (by unfold r_X8_change; rw [pif_neg h_32, pif_neg h_37, pif_neg h_42, pif_neg h_47, pif_neg h_54, pif_neg h_61, pif_neg h_82, pif_neg h_92, pif_neg h_101, pif_neg h_116]) (by unfold s_X8_change; rw [pif_neg h_32, pif_neg h_37, pif_neg h_42, pif_neg h_47, pif_neg h_54, pif_neg h_61, pif_neg h_82, pif_neg h_92, pif_neg h_101, pif_neg h_116])) dX8_change_120
    | succ f ih =>
      intro k sm ls H locs hk hE hl hW hS
      have hc9 : ¬ nI n ≤ nI k := nI_ge (by omega) (by omega)
      refine lv_iload hM.1 hM.2.1 dX8_change_5 (lv_at hl 0 rfl) ?_
      refine lv_aload_n hM.1 hM.2.1 dX8_change_7 rfl (lv_at hl 2 rfl) ?_
      refine z_get hM hW zc8 hI.O.1 rfl 0 (by decide) lf_X8_129 (v := .int (nI n)) (congrArg Value.int (show gi S 8 (0) (0) = nI n from hn)) dX8_change_8 ?_
      refine lv_icmp_ge hM.1 hM.2.1 dX8_change_11 (tgt := 30) (by decide) (fun h => absurd h hc9) (fun _ => ?_)
      refine lv_iload_n hM.1 hM.2.1 dX8_change_14 rfl (lv_at hl 1 rfl) ?_
      refine lv_aload_n hM.1 hM.2.1 dX8_change_15 rfl (lv_at hl 2 rfl) ?_
      refine z_getr hM hW zc8 hI.O.1 rfl 9 (by decide) lf_X8_36 (t := 9) (j := 109) rfl (hO.r 9 (by decide) (by decide)) dX8_change_16 (fun hd8_16 => ?_)
      refine lv_iload hM.1 hM.2.1 dX8_change_19 (lv_at hl 0 rfl) ?_
      refine z_iald hM hW hd8_16 rfl (vin_nI (hO.l 9 (by decide) (by decide)) (by have : mlen 9 = 7 := rfl; omega) (by decide)) (v := gi S 9 (109) (k)) ((congrArg (gi S 9 (109)) (nI_clamp (by omega))).trans rfl) dX8_change_21 ?_
      refine lv_iadd hM.1 hM.2.1 dX8_change_22 ?_
      refine lv_istore_n hM.1 hM.2.1 dX8_change_23 rfl hl (by decide) (lv' := [(3, .int ((sm) + (gi S 9 (109) (k)))), (4, .int (nI k)), (0, .ref (Z.1 8 (0))), (1, .int (x)), (2, .int (y))]) rfl (fun ls hl => ?_)
      refine lv_iinc hM.1 hM.2.1 dX8_change_24 hl (k := 1) rfl (v := nI (k + 1)) (nI_succ _).symm (by decide) (lv' := [(4, .int (nI (k + 1))), (3, .int ((sm) + (gi S 9 (109) (k)))), (0, .ref (Z.1 8 (0))), (1, .int (x)), (2, .int (y))]) rfl (fun ls hl => ?_)
      refine lv_goto hM.1 hM.2.1 dX8_change_27 (tgt := 5) (by decide) ?_
      exact ih (k + 1) _ ls H locs (by omega) hE (lv_sub hl [0, 1, 2, 3, 4] rfl) hW hS
  refine lv_iconst (v := 0) hM.1 hM.2.1 dX8_change_0 (by decide) ?_
  refine lv_istore_n hM.1 hM.2.1 dX8_change_1 rfl hl (by decide) (lv' := [(3, .int (0)), (0, .ref (Z.1 8 (0))), (1, .int (x)), (2, .int (y))]) rfl (fun ls hl => ?_)
  refine lv_iconst (v := 0) hM.1 hM.2.1 dX8_change_2 (by decide) ?_
  refine lv_istore hM.1 hM.2.1 dX8_change_3 hl (by decide) (lv' := [(4, .int (0)), (3, .int (0)), (0, .ref (Z.1 8 (0))), (1, .int (x)), (2, .int (y))]) rfl (fun ls hl => ?_)
  exact loop1 n 0 0 ls _ _ (by omega) rfl (lv_sub hl [0, 1, 2, 3, 4] rfl) hW hS
