theorem rAt_cases {S : zS} {pm : Nat → Nat} {x : Int32} {q : Nat} (h : r_X1_at S pm x = some q) : q = pm (ix x) ∧ ¬ x < 0 ∧ ¬ gi S 1 0 2 ≤ x ∧ ¬ 300 ≤ x := by
  unfold r_X1_at at h
  by_cases h0 : x < 0
  · rw [pif_pos h0] at h; cases h
  · rw [pif_neg h0] at h
    by_cases h1 : gi S 1 0 2 ≤ x
    · rw [pif_pos h1] at h; cases h
    · rw [pif_neg h1] at h
      by_cases h2 : 300 ≤ x
      · rw [pif_pos h2] at h; cases h
      · rw [pif_neg h2] at h
        cases h
        exact ⟨rfl, h0, h1, h2⟩
theorem ix_nI {j : Nat} (h : j < 2 ^ 31) : ix (nI j) = j := nI_clamp h
theorem nI_ix {x : Int32} (h : ¬ x < 0) : nI (ix x) = x := by
  rw [Int32.lt_iff_toInt_lt, Int32.toInt_zero] at h
  apply Int32.toInt_inj.mp
  have hx := Int32.toInt_lt x
  have : ix x = x.toInt.toNat := rfl
  rw [nI_toInt (by omega), this]
  omega
theorem ix_lt_nI {x : Int32} {n : Nat} (h0 : ¬ x < 0) (h1 : ¬ nI n ≤ x) (hn : n < 2 ^ 31) : ix x < n := vin_lt (vin_of h0 h1 hn rfl) rfl
theorem nI_sub1 {j : Nat} (h : 1 ≤ j) (hj : j < 2 ^ 31) : nI j - 1 = nI (j - 1) := by
  apply Int32.toInt_inj.mp
  have e1 : (1 : Int32).toInt = 1 := rfl
  rw [Int32.toInt_sub, e1, nI_toInt hj, nI_toInt (by omega), Int.bmod_eq_of_le (by omega) (by omega)]
  omega
/-- the rows from j on moved down by one -/
def lTk (pm : Nat → Nat) : Nat → Nat → zS → zS
  | 0, _, T => T
  | f + 1, j, T => lTk pm f (j + 1) (sr T 15 (0) (ix ((nI j) - (1))) (some (pm j)))
def fTk (tk : Nat) (T : zS) (q : Nat) : zS := sr (sr (si T 1 (0) (2) ((gi T 1 (0) (2)) - (1))) 15 (0) (ix ((gi T 1 (0) (2)) - (1))) (some (tk))) 1 (0) (1) (some (q))
noncomputable def s_X1_take (S : zS) (pm : Nat → Nat) (tk cn : Nat) (k : Int32) : zS := oel (r_X1_at S pm k) S (fun q => fTk tk (lTk pm (cn - (ix k + 1)) (ix k + 1) S) q)
noncomputable def r_X1_take (S : zS) (pm : Nat → Nat) (k : Int32) : Int32 := oel (r_X1_at S pm k) 0 (fun _ => 1)
set_option maxHeartbeats 400000 in
set_option maxRecDepth 100000 in
theorem c_X1_take {l : Launch} {D : va_G} {ar : Nat → ClassId} {A : Nat → Prop} {Z : zZ} {S : zS} {pm : Nat → Nat} {tk cn : Nat} {k : Int32} (hi : Z.2.1 1 0) (hrw : gr S 1 0 0 = some 0) (hz : Z.2.2 15 0 = 300) (hpm : ∀ j, j < 300 → gr S 15 0 j = some (pm j)) (htk : gr S 1 0 1 = some tk) (hcn : gi S 1 0 2 = nI cn) (hcm : cn ≤ 300) : zMet l yX1_take prog_3_method_4_code 4 (some .boolean) ({ frames := 1, cells := 0, slots := 0, locals := 21 } : Room) D ar A Z S [.ref (Z.1 1 (0)), .int (k)] rvI (zF (r_X1_take S pm k) Z (s_X1_take S pm tk cn k)) := by
  refine z_body (by decide +kernel) (Nat.le_of_ble_eq_true rfl) ?_
  intro pX eX sX mX bX methX cX ls hM hr hlk hml hin hl hW hlo
  have hM : zM pX cX mX _ sX prog_3_method_4_code RX1 D ar := hM
  have hS : va_S A sX.heap sX.heap [] := va_S.rf
  have hl : lv_has ls 4 [(0, .ref (Z.1 1 (0))), (1, .int (k))] := hl
  have loop : ∀ (f j q : Nat) (T : zS) (ls : Array Slot) (H : Heap) (locs : List Loc), Z.2.1 4 q → 1 ≤ j → j + f = cn → T.1 = S.1 → gr T 1 0 0 = some 0 → gr T 1 0 1 = some tk → (∀ i, j ≤ i → i < 300 → gr T 15 0 i = some (pm i)) → fTk tk (lTk pm f j T) q = s_X1_take S pm tk cn k → 1 = r_X1_take S pm k → lv_has ls 4 [(3, .int (nI j)), (2, .ref (Z.1 4 (q))), (0, .ref (Z.1 1 (0))), (1, .int (k))] → zW D ar A Z T H → va_S A sX.heap H locs → W pX l eX ({ frames := 1, cells := 0, slots := 0, locals := 21 } : Room) sX mX ([.ref (Z.1 1 (0)), .int (k)] : List Value).toArray bX methX cX H locs 0 0 (MQ bX (zQ D ar A rvI (zF (r_X1_take S pm k) Z (s_X1_take S pm tk cn k))) ([.ref (Z.1 1 (0)), .int (k)] : List Value).toArray sX 0 0 A) (F0 mX 16 ls []) := by
    intro f
    induction f with
    | zero =>
      intro j q T ls H locs hdq hj hf hT1 hTa hTb hTr hE hE1 hl hW hS
      have hcT : gi T 1 0 2 = nI cn := by rw [← hcn]; unfold gi; rw [hT1]
      have hc9 : gi T 1 0 2 ≤ nI j := by rw [hcT, show j = cn by omega]; exact Int32.le_refl _
      have hix : vp_in (gi T 1 0 2 - 1) (Z.2.2 15 0) := by rw [hz, hcT, nI_sub1 (by omega) (by omega)]; exact nI_in (by omega) (by omega)
      refine lv_iload_n hM.1 hM.2.1 dX1_take_16 rfl (lv_at hl 0 rfl) ?_
      refine lv_aload_n hM.1 hM.2.1 dX1_take_17 rfl (lv_at hl 2 rfl) ?_
      refine z_get hM hW zc1 hi rfl 2 (by decide) lf_X1_22 (v := .int (gi T 1 (0) (2))) rfl dX1_take_18 ?_
      refine lv_icmp_ge hM.1 hM.2.1 dX1_take_21 (tgt := 53) (by decide) (fun _ => ?_) (fun h => absurd hc9 h)
      refine lv_aload_n hM.1 hM.2.1 dX1_take_53 rfl (lv_at hl 2 rfl) ?_
      refine lv_dup hM.1 hM.2.1 dX1_take_54 rfl ?_
      refine z_get hM hW zc1 hi rfl 2 (by decide) lf_X1_22 (v := .int (gi T 1 (0) (2))) rfl dX1_take_55 ?_
      refine lv_iconst (v := 1) hM.1 hM.2.1 dX1_take_58 (by decide) ?_
      refine lv_isub hM.1 hM.2.1 dX1_take_59 ?_
      refine z_puti hM hW hS zc1 hi rfl 2 (by decide) rfl lf_X1_22 (Or.inl rfl) (tyX1 2) (tyX1_ok 2 (by decide)) rfl rfl dX1_take_60 (fun H locs hW hS => ?_)
      refine lv_aload_n hM.1 hM.2.1 dX1_take_63 rfl (lv_at hl 2 rfl) ?_
      refine z_getr hM hW zc1 hi rfl 0 (by decide) lf_X1_11 (t := 15) (j := 0) rfl hTa dX1_take_64 (fun hd1_64 => ?_)
      refine lv_aload_n hM.1 hM.2.1 dX1_take_67 rfl (lv_at hl 2 rfl) ?_
      refine z_get hM hW zc1 hi rfl 2 (by decide) lf_X1_22 (v := .int ((gi T 1 (0) (2)) - (1))) rfl dX1_take_68 ?_
      refine lv_aload_n hM.1 hM.2.1 dX1_take_71 rfl (lv_at hl 2 rfl) ?_
      refine z_getr hM hW zc1 hi rfl 1 (by decide) lf_X1_18 (t := 4) (j := tk) rfl hTb dX1_take_72 (fun hd2_72 => ?_)
      refine z_aast hM hW hS hd1_64 (by decide) rfl 6 rfl (t := 4) (q := tk) (fun _ => rfl) zc4 hd2_72 rfl hix dX1_take_75 (fun H locs hW hS => ?_)
      refine lv_aload_n hM.1 hM.2.1 dX1_take_76 rfl (lv_at hl 2 rfl) ?_
      refine lv_aload_n hM.1 hM.2.1 dX1_take_77 rfl (lv_at hl 1 rfl) ?_
      refine z_putr hM hW hS zc1 hi rfl 1 (by decide) (t := 4) (j := q) rfl hdq lf_X1_18 (Or.inl rfl) (tyX1 1) (tyX1_ok 1 (by decide)) (fun _ => rfl) (fun _ => rfl) dX1_take_78 (fun H locs hW hS => ?_)
      refine lv_iconst (v := 1) hM.1 hM.2.1 dX1_take_81 (by decide) ?_
      exact z_iret hM hlk hr rfl hW hS (zF.of hE1 hE) dX1_take_82
    | succ f ih =>
      intro j q T ls H locs hdq hj hf hT1 hTa hTb hTr hE hE1 hl hW hS
      have hcT : gi T 1 0 2 = nI cn := by rw [← hcn]; unfold gi; rw [hT1]
      have hc9 : ¬ gi T 1 0 2 ≤ nI j := by rw [hcT]; exact nI_ge (by omega) (by omega)
      have hc8 : ¬ 300 ≤ nI j := nI_ge (a := j) (b := 300) (by omega) (by omega)
      have hix : vp_in (nI j) (Z.2.2 15 0) := by rw [hz]; exact nI_in (by omega) (by omega)
      have hix2 : vp_in (nI j - 1) (Z.2.2 15 0) := by rw [hz, nI_sub1 (by omega) (by omega)]; exact nI_in (by omega) (by omega)
      refine lv_iload_n hM.1 hM.2.1 dX1_take_16 rfl (lv_at hl 0 rfl) ?_
      refine lv_aload_n hM.1 hM.2.1 dX1_take_17 rfl (lv_at hl 2 rfl) ?_
      refine z_get hM hW zc1 hi rfl 2 (by decide) lf_X1_22 (v := .int (gi T 1 (0) (2))) rfl dX1_take_18 ?_
      refine lv_icmp_ge hM.1 hM.2.1 dX1_take_21 (tgt := 53) (by decide) (fun h => absurd h hc9) (fun _ => ?_)
      refine lv_iload_n hM.1 hM.2.1 dX1_take_24 rfl (lv_at hl 0 rfl) ?_
      refine lv_aload_n hM.1 hM.2.1 dX1_take_25 rfl (lv_at hl 2 rfl) ?_
      refine z_getr hM hW zc1 hi rfl 0 (by decide) lf_X1_11 (t := 15) (j := 0) rfl hTa dX1_take_26 (fun hd3_26 => ?_)
      refine z_alen hM hW hd3_26 (by decide) rfl 6 rfl (v := 300) (by rw [hz]; rfl) dX1_take_29 ?_
      refine lv_icmp_ge hM.1 hM.2.1 dX1_take_30 (tgt := 53) (by decide) (fun h => absurd h hc8) (fun _ => ?_)
      refine lv_aload_n hM.1 hM.2.1 dX1_take_33 rfl (lv_at hl 2 rfl) ?_
      refine z_getr hM hW zc1 hi rfl 0 (by decide) lf_X1_11 (t := 15) (j := 0) rfl hTa dX1_take_34 (fun hd4_34 => ?_)
      refine lv_iload_n hM.1 hM.2.1 dX1_take_37 rfl (lv_at hl 0 rfl) ?_
      refine lv_iconst (v := 1) hM.1 hM.2.1 dX1_take_38 (by decide) ?_
      refine lv_isub hM.1 hM.2.1 dX1_take_39 ?_
      refine lv_aload_n hM.1 hM.2.1 dX1_take_40 rfl (lv_at hl 2 rfl) ?_
      refine z_getr hM hW zc1 hi rfl 0 (by decide) lf_X1_11 (t := 15) (j := 0) rfl hTa dX1_take_41 (fun hd5_41 => ?_)
      refine lv_iload_n hM.1 hM.2.1 dX1_take_44 rfl (lv_at hl 0 rfl) ?_
      refine z_aaldr hM hW hd5_41 (by decide) rfl 6 rfl hix (t := 4) (q := pm j) rfl (by rw [nI_clamp (by omega)]; exact hTr j (by omega) (by omega)) dX1_take_45 (fun hd6_45 => ?_)
      refine z_aast hM hW hS hd4_34 (by decide) rfl 6 rfl (t := 4) (q := pm j) (fun _ => rfl) zc4 hd6_45 rfl hix2 dX1_take_46 (fun H locs hW hS => ?_)
      refine lv_iinc hM.1 hM.2.1 dX1_take_47 hl (k := 0) rfl (v := nI (j + 1)) (nI_succ _).symm (by decide) (lv' := [(3, .int (nI (j + 1))), (2, .ref (Z.1 4 (q))), (0, .ref (Z.1 1 (0))), (1, .int (k))]) rfl (fun ls hl => ?_)
      refine lv_goto hM.1 hM.2.1 dX1_take_50 (tgt := 16) (by decide) ?_
      exact ih (j + 1) q (sr T 15 (0) (ix ((nI j) - (1))) (some (pm j))) ls H locs hdq (by omega) (by omega) hT1 ((gr_sr _ _ _ _ _ _ _ _).trans ((if_neg (by simp)).trans hTa)) ((gr_sr _ _ _ _ _ _ _ _).trans ((if_neg (by simp)).trans hTb)) (fun i hi hi3 => (gr_sr _ _ _ _ _ _ _ _).trans ((if_neg (by rw [nI_sub1 (by omega) (by omega), ix_nI (by omega)]; omega)).trans (hTr i (by omega) hi3))) hE hE1 (lv_sub hl [0, 1, 2, 3] rfl) hW hS
  refine lv_aload_n hM.1 hM.2.1 dX1_take_0 rfl (lv_at hl 0 rfl) ?_
  refine lv_iload_n hM.1 hM.2.1 dX1_take_1 rfl (lv_at hl 1 rfl) ?_
  refine z_Vr hM (hml.trans hl.1.symm) hW hS hlo zc1 hi rfl zyX1_at lm_X1_29 li_yX1_at le_yX1_at (As := [.int (k)]) (rest := []) (c_X1_at hi hrw hz hpm) rfl rfl (Nat.le_of_ble_eq_true rfl) ⟨Nat.le_of_ble_eq_true rfl, Nat.le_of_ble_eq_true rfl⟩ ⟨Nat.le_of_ble_eq_true rfl, Nat.le_of_ble_eq_true rfl⟩ dX1_take_2 (fun H locs hW hS => ?_)
  rcases hq_2 : r_X1_at S pm (k) with _ | q
  ·
    refine lv_astore_nN hM.1 hM.2.1 dX1_take_5 rfl hl (by decide) (lv' := [(2, .null), (0, .ref (Z.1 1 (0))), (1, .int (k))]) rfl (fun ls hl => ?_)
    refine lv_aload_nN hM.1 hM.2.1 dX1_take_6 rfl (lv_at hl 0 rfl) ?_
    refine lv_ifnonnullN hM.1 hM.2.1 dX1_take_7 ?_
    refine lv_iconst (v := 0) hM.1 hM.2.1 dX1_take_10 (by decide) ?_
    exact z_iret hM hlk hr rfl hW hS (zF.of (by unfold r_X1_take; rw [oel_n hq_2]) (by unfold s_X1_take; rw [oel_n hq_2])) dX1_take_11
  ·
    obtain ⟨he, hk0, hk1, hk2⟩ := rAt_cases hq_2
    rw [hcn] at hk1
    have hkn : ix k < cn := ix_lt_nI hk0 hk1 (by omega)
    have hkk : k + 1 = nI (ix k + 1) := by rw [nI_succ, nI_ix hk0]
    have hdq : Z.2.1 4 q := by rw [he]; exact hW.2.2 15 0 (ix k) 4 _ (hW.2.2 1 0 0 15 0 hi (show 0 < 4 by decide) rfl hrw) (by show _ < Z.2.2 15 0; omega) rfl (hpm _ (by omega))
    refine lv_astore_n hM.1 hM.2.1 dX1_take_5 rfl hl (by decide) (lv' := [(2, .ref (Z.1 4 (q))), (0, .ref (Z.1 1 (0))), (1, .int (k))]) rfl (fun ls hl => ?_)
    refine lv_aload_n hM.1 hM.2.1 dX1_take_6 rfl (lv_at hl 0 rfl) ?_
    refine lv_ifnonnull hM.1 hM.2.1 dX1_take_7 (tgt := 12) (by decide) ?_
    refine lv_iload_n hM.1 hM.2.1 dX1_take_12 rfl (lv_at hl 2 rfl) ?_
    refine lv_iconst (v := 1) hM.1 hM.2.1 dX1_take_13 (by decide) ?_
    refine lv_iadd hM.1 hM.2.1 dX1_take_14 ?_
    refine lv_istore_n hM.1 hM.2.1 dX1_take_15 rfl hl (by decide) (lv' := [(3, .int ((k) + (1))), (2, .ref (Z.1 4 (q))), (0, .ref (Z.1 1 (0))), (1, .int (k))]) rfl (fun ls hl => ?_)
    exact loop (cn - (ix k + 1)) (ix k + 1) q S ls _ _ hdq (by omega) (by omega) rfl hrw htk (fun i _ h => hpm i h) (by unfold s_X1_take; rw [oel_s hq_2]) (by unfold r_X1_take; rw [oel_s hq_2]) (by rw [← hkk]; exact (lv_sub hl [0, 1, 2, 3] rfl)) hW hS
