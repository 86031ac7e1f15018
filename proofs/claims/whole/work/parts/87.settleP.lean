set_option maxHeartbeats 400000 in
set_option maxRecDepth 100000 in
theorem c_X7_settleP {l : Launch} {D : va_G} {ar : Nat → ClassId} {A : Nat → Prop} {Z : zZ} {S : zS} {n : Nat} {x : Int32} {P : zS → Prop} (hP : ∀ T, P T → cI n Z T) (hI0 : P S) (hD : ∀ T y, P T → P (s_X7_deliver T n y)) : zMet l yX7_settle prog_1_method_10_code 5 (some .int) ({ frames := 6, cells := 0, slots := 0, locals := 143 } : Room) D ar A Z S [.ref (Z.1 7 (0)), .int (x)] rvI (zF (r_X7_settle S n x) Z (s_X7_settle S n x)) := by
  have hI := hP S hI0
  refine z_body (by decide +kernel) (Nat.le_of_ble_eq_true rfl) ?_
  intro pX eX sX mX bX methX cX ls hM hr hlk hml hin hl hW hlo
  have hM : zM pX cX mX _ sX prog_1_method_10_code RX7 D ar := hM
  have hS : va_S A sX.heap sX.heap [] := va_S.rf
  have hl : lv_has ls 5 [(0, .ref (Z.1 7 (0))), (1, .int (x))] := hl
  have loop : ∀ (f st : Nat) (k d : Int32) (T : zS) (ls : Array Slot) (H : Heap) (locs : List Loc), st + f = 1000000 → P T → (lSet n x f k d T).1 = s_X7_settle S n x → (lSet n x f k d T).2 = r_X7_settle S n x → lv_has ls 5 [(4, .int (nI st)), (3, .int (k)), (2, .int (d)), (0, .ref (Z.1 7 (0))), (1, .int (x))] → zW D ar A Z T H → va_S A sX.heap H locs → W pX l eX ({ frames := 6, cells := 0, slots := 0, locals := 143 } : Room) sX mX ([.ref (Z.1 7 (0)), .int (x)] : List Value).toArray bX methX cX H locs 0 0 (MQ bX (zQ D ar A rvI (zF (r_X7_settle S n x) Z (s_X7_settle S n x))) ([.ref (Z.1 7 (0)), .int (x)] : List Value).toArray sX 0 0 A) (F0 mX 13 ls []) := by
    intro f
    induction f with
    | zero =>
      intro st k d T ls H locs hf hT0 hE1 hE2 hl hW hS
      have hT := hP T hT0
      have hV := hT.1
      have hc9 : (1000000 : Int32) ≤ nI st := by rw [show st = 1000000 by omega]; exact Int32.le_refl _
      refine lv_iload hM.1 hM.2.1 dX7_settle_13 (lv_at hl 0 rfl) ?_
      refine lv_ldc hM.1 hM.2.1 hM.2.2.1 (hM.2.2.2.1 _ lq_const) dX7_settle_15 ?_
      refine lv_icmp_ge hM.1 hM.2.1 dX7_settle_17 (tgt := 59) (by decide) (fun _ => ?_) (fun h => absurd hc9 h)
      refine lv_iload_n hM.1 hM.2.1 dX7_settle_59 rfl (lv_at hl 2 rfl) ?_
      exact z_iret hM hlk hr rfl hW hS (zF.of hE2 hE1) dX7_settle_60
    | succ f ih =>
      intro st k d T ls H locs hf hT0 hE1 hE2 hl hW hS
      have hT := hP T hT0
      have hV := hT.1
      have hc9 : ¬ (1000000 : Int32) ≤ nI st := nI_ge (a := st) (b := 1000000) (by omega) (by omega)
      refine lv_iload hM.1 hM.2.1 dX7_settle_13 (lv_at hl 0 rfl) ?_
      refine lv_ldc hM.1 hM.2.1 hM.2.2.1 (hM.2.2.2.1 _ lq_const) dX7_settle_15 ?_
      refine lv_icmp_ge hM.1 hM.2.1 dX7_settle_17 (tgt := 59) (by decide) (fun h => absurd h hc9) (fun _ => ?_)
      refine lv_iload_n hM.1 hM.2.1 dX7_settle_20 rfl (lv_at hl 2 rfl) ?_
      refine lv_iload_n hM.1 hM.2.1 dX7_settle_21 rfl (lv_at hl 4 rfl) ?_
      refine lv_icmp_ge hM.1 hM.2.1 dX7_settle_22 (tgt := 59) (by decide) (fun h_22 => ?_) (fun h_22 => ?_)
      ·
        refine lv_iload_n hM.1 hM.2.1 dX7_settle_59 rfl (lv_at hl 2 rfl) ?_
        exact z_iret hM hlk hr rfl hW hS (zF.of (by rw [show lSet n x (f + 1) k d T = pif _ _ _ from rfl, pif_pos h_22] at hE2; exact hE2) (by rw [show lSet n x (f + 1) k d T = pif _ _ _ from rfl, pif_pos h_22] at hE1; exact hE1)) dX7_settle_60
      ·
        refine lv_iload_n hM.1 hM.2.1 dX7_settle_25 rfl (lv_at hl 1 rfl) ?_
        refine lv_aload_n hM.1 hM.2.1 dX7_settle_26 rfl (lv_at hl 3 rfl) ?_
        refine z_getr hM hW zc7 hI.1.d7 rfl 4 (by decide) lf_X7_65 (t := 1) (j := 0) rfl hV.r74 dX7_settle_27 (fun hd1_27 => ?_)
        refine z_get hM hW zc1 hd1_27 rfl 2 (by decide) lf_X7_148 (v := .int (gi T 1 (0) (2))) rfl dX7_settle_30 ?_
        refine lv_icmp_ge hM.1 hM.2.1 dX7_settle_33 (tgt := 59) (by decide) (fun h_33 => ?_) (fun h_33 => ?_)
        ·
          refine lv_iload_n hM.1 hM.2.1 dX7_settle_59 rfl (lv_at hl 2 rfl) ?_
          exact z_iret hM hlk hr rfl hW hS (zF.of (by rw [show lSet n x (f + 1) k d T = pif _ _ _ from rfl, pif_neg h_22, pif_pos h_33] at hE2; exact hE2) (by rw [show lSet n x (f + 1) k d T = pif _ _ _ from rfl, pif_neg h_22, pif_pos h_33] at hE1; exact hE1)) dX7_settle_60
        ·
          refine lv_aload_n hM.1 hM.2.1 dX7_settle_36 rfl (lv_at hl 3 rfl) ?_
          refine lv_iload_n hM.1 hM.2.1 dX7_settle_37 rfl (lv_at hl 1 rfl) ?_
          refine z_Vi hM (hml.trans hl.1.symm) hW hS hlo zc7 hI.1.d7 rfl zyX7_deliver lm_X7_151 li_yX7_deliver le_yX7_deliver (As := [.int (k)]) (rest := []) (c_X7_deliver hT) rfl rfl (Nat.le_of_ble_eq_true rfl) ⟨Nat.le_of_ble_eq_true rfl, Nat.le_of_ble_eq_true rfl⟩ ⟨Nat.le_of_ble_eq_true rfl, Nat.le_of_ble_eq_true rfl⟩ dX7_settle_38 (fun H locs hW hS => ?_)
          refine lv_if_eq hM.1 hM.2.1 dX7_settle_41 (tgt := 50) (by decide) (fun h_41 => ?_) (fun h_41 => ?_)
          ·
            refine lv_iinc hM.1 hM.2.1 dX7_settle_50 hl (k := 1) rfl (v := k + 1) rfl (by decide) (lv' := [(3, .int (k + 1)), (4, .int (nI st)), (2, .int (d)), (0, .ref (Z.1 7 (0))), (1, .int (x))]) rfl (fun ls hl => ?_)
            refine lv_iinc hM.1 hM.2.1 dX7_settle_53 hl (k := 1) rfl (v := nI (st + 1)) (nI_succ _).symm (by decide) (lv' := [(4, .int (nI (st + 1))), (3, .int (k + 1)), (2, .int (d)), (0, .ref (Z.1 7 (0))), (1, .int (x))]) rfl (fun ls hl => ?_)
            refine lv_goto hM.1 hM.2.1 dX7_settle_56 (tgt := 13) (by decide) ?_
            exact ih (st + 1) _ _ _ ls H locs (by omega) (hD _ _ hT0) (by rw [show lSet n x (f + 1) k d T = pif _ _ _ from rfl, pif_neg h_22, pif_neg h_33, pif_pos h_41] at hE1; exact hE1) (by rw [show lSet n x (f + 1) k d T = pif _ _ _ from rfl, pif_neg h_22, pif_neg h_33, pif_pos h_41] at hE2; exact hE2) (lv_sub hl [0, 1, 2, 3, 4] rfl) hW hS
          ·
            refine lv_iinc hM.1 hM.2.1 dX7_settle_44 hl (k := 2) rfl (v := d + 1) rfl (by decide) (lv' := [(2, .int (d + 1)), (4, .int (nI st)), (3, .int (k)), (0, .ref (Z.1 7 (0))), (1, .int (x))]) rfl (fun ls hl => ?_)
            refine lv_goto hM.1 hM.2.1 dX7_settle_47 (tgt := 53) (by decide) ?_
            refine lv_iinc hM.1 hM.2.1 dX7_settle_53 hl (k := 1) rfl (v := nI (st + 1)) (nI_succ _).symm (by decide) (lv' := [(4, .int (nI (st + 1))), (2, .int (d + 1)), (3, .int (k)), (0, .ref (Z.1 7 (0))), (1, .int (x))]) rfl (fun ls hl => ?_)
            refine lv_goto hM.1 hM.2.1 dX7_settle_56 (tgt := 13) (by decide) ?_
            exact ih (st + 1) _ _ _ ls H locs (by omega) (hD _ _ hT0) (by rw [show lSet n x (f + 1) k d T = pif _ _ _ from rfl, pif_neg h_22, pif_neg h_33, pif_neg h_41] at hE1; exact hE1) (by rw [show lSet n x (f + 1) k d T = pif _ _ _ from rfl, pif_neg h_22, pif_neg h_33, pif_neg h_41] at hE2; exact hE2) (lv_sub hl [0, 2, 1, 3, 4] rfl) hW hS
  refine lv_iload_n hM.1 hM.2.1 dX7_settle_0 rfl (lv_at hl 1 rfl) ?_
  refine lv_if_ge hM.1 hM.2.1 dX7_settle_1 (tgt := 6) (by decide) (fun h_1 => ?_) (fun h_1 => ?_)
  ·
    refine lv_iconst (v := 0) hM.1 hM.2.1 dX7_settle_6 (by decide) ?_
    refine lv_istore_n hM.1 hM.2.1 dX7_settle_7 rfl hl (by decide) (lv' := [(2, .int (0)), (0, .ref (Z.1 7 (0))), (1, .int (x))]) rfl (fun ls hl => ?_)
    refine lv_iconst (v := 0) hM.1 hM.2.1 dX7_settle_8 (by decide) ?_
    refine lv_istore_n hM.1 hM.2.1 dX7_settle_9 rfl hl (by decide) (lv' := [(3, .int (0)), (2, .int (0)), (0, .ref (Z.1 7 (0))), (1, .int (x))]) rfl (fun ls hl => ?_)
    refine lv_iconst (v := 0) hM.1 hM.2.1 dX7_settle_10 (by decide) ?_
    refine lv_istore hM.1 hM.2.1 dX7_settle_11 hl (by decide) (lv' := [(4, .int (0)), (3, .int (0)), (2, .int (0)), (0, .ref (Z.1 7 (0))), (1, .int (x))]) rfl (fun ls hl => ?_)
    exact loop 1000000 0 0 0 S ls _ _ (by omega) hI0 (by unfold s_X7_settle; rw [pif_pos h_1]) (by unfold r_X7_settle; rw [pif_pos h_1]) (lv_sub hl [0, 1, 2, 3, 4] rfl) hW hS
  ·
    refine lv_iconst (v := (-1)) hM.1 hM.2.1 dX7_settle_4 (by decide) ?_
    exact z_iret hM hlk hr rfl hW hS (zF.of (by unfold r_X7_settle; rw [pif_neg h_1]) (by unfold s_X7_settle; rw [pif_neg h_1])) dX7_settle_5

set_option maxHeartbeats 400000 in
set_option maxRecDepth 100000 in
theorem c_X8_settleP {l : Launch} {D : va_G} {ar : Nat → ClassId} {A : Nat → Prop} {Z : zZ} {S : zS} {n : Nat} {x : Int32} {P : zS → Prop} (hP : ∀ T, P T → mI n Z T) (hI0 : P S) (hD : ∀ T k, P T → k < ix (gi T 8 0 44) → P (s_X8_deliver T n k)) : zMet l yX8_settle prog_10_method_26_code 5 (some .int) ({ frames := 6, cells := 0, slots := 0, locals := 159 } : Room) D ar A Z S [.ref (Z.1 8 (0)), .int (x)] rvI (zF (r_X8_settle S n x) Z (s_X8_settle S n x)) := by
  have hI := hP S hI0
  refine z_body (by decide +kernel) (Nat.le_of_ble_eq_true rfl) ?_
  intro pX eX sX mX bX methX cX ls hM hr hlk hml hin hl hW hlo
  have hM : zM pX cX mX _ sX prog_10_method_26_code RX8 D ar := hM
  have hS : va_S A sX.heap sX.heap [] := va_S.rf
  have hl : lv_has ls 5 [(0, .ref (Z.1 8 (0))), (1, .int (x))] := hl
  have loop : ¬ x < 0 → ∀ (f mm : Nat) (g : Int32) (T : zS) (ls : Array Slot) (H : Heap) (locs : List Loc), mm + f = ix x → ¬ g = 0 → P T → (lSt n f mm T).1 = s_X8_settle S n x → (lSt n f mm T).2 = r_X8_settle S n x → lv_has ls 5 [(3, .int (g)), (2, .int (nI mm)), (0, .ref (Z.1 8 (0))), (1, .int (x))] → zW D ar A Z T H → va_S A sX.heap H locs → W pX l eX ({ frames := 6, cells := 0, slots := 0, locals := 159 } : Room) sX mX ([.ref (Z.1 8 (0)), .int (x)] : List Value).toArray bX methX cX H locs 0 0 (MQ bX (zQ D ar A rvI (zF (r_X8_settle S n x) Z (s_X8_settle S n x))) ([.ref (Z.1 8 (0)), .int (x)] : List Value).toArray sX 0 0 A) (F0 mX 10 ls []) := by
    intro hx0 f
    have hxi : x = nI (ix x) := (nI_ix hx0).symm
    have hx31 : ix x < 2 ^ 31 := by have := Int32.toInt_lt x; show x.toInt.toNat < _; omega
    induction f with
    | zero =>
      intro mm g T ls H locs hm hg hT0 hE1 hE2 hl hW hS
      have hT := hP T hT0
      have hcm9 := hT.cm
      have hc9 : x ≤ nI mm := by rw [show mm = ix x by omega, ← hxi]; exact Int32.le_refl _
      refine lv_iload_n hM.1 hM.2.1 dX8_settle_10 rfl (lv_at hl 0 rfl) ?_
      refine lv_if_eq hM.1 hM.2.1 dX8_settle_11 (tgt := 63) (by decide) (fun h => absurd h hg) (fun _ => ?_)
      refine lv_iload_n hM.1 hM.2.1 dX8_settle_14 rfl (lv_at hl 1 rfl) ?_
      refine lv_iload_n hM.1 hM.2.1 dX8_settle_15 rfl (lv_at hl 3 rfl) ?_
      refine lv_icmp_ge hM.1 hM.2.1 dX8_settle_16 (tgt := 63) (by decide) (fun _ => ?_) (fun h => absurd hc9 h)
      refine lv_iload_n hM.1 hM.2.1 dX8_settle_63 rfl (lv_at hl 1 rfl) ?_
      exact z_iret hM hlk hr rfl hW hS (zF.of hE2 hE1) dX8_settle_64
    | succ f ih =>
      intro mm g T ls H locs hm hg hT0 hE1 hE2 hl hW hS
      have hT := hP T hT0
      have hcm9 := hT.cm
      have hc9 : ¬ x ≤ nI mm := by rw [hxi]; exact nI_ge (by omega) hx31
      have inner : ∀ (e k : Nat) (ls : Array Slot) (H : Heap) (locs : List Loc), k + e = ix (gi T 8 0 44) → lF T e k = mFst T → lv_has ls 5 [(4, .int (nI k)), (3, .int (g)), (2, .int (nI mm)), (0, .ref (Z.1 8 (0))), (1, .int (x))] → zW D ar A Z T H → va_S A sX.heap H locs → W pX l eX ({ frames := 6, cells := 0, slots := 0, locals := 159 } : Room) sX mX ([.ref (Z.1 8 (0)), .int (x)] : List Value).toArray bX methX cX H locs 0 0 (MQ bX (zQ D ar A rvI (zF (r_X8_settle S n x) Z (s_X8_settle S n x))) ([.ref (Z.1 8 (0)), .int (x)] : List Value).toArray sX 0 0 A) (F0 mX 22 ls []) := by
        intro e
        induction e with
        | zero =>
          intro k ls H locs hk hF hl hW hS
          have hc8 : nI (ix (gi T 8 0 44)) ≤ nI k := by rw [show k = ix (gi T 8 0 44) by omega]; exact Int32.le_refl _
          have hF : k = mFst T := hF
          have hn9 : ¬ mFst T < ix (gi T 8 0 44) := by omega
          refine lv_iload hM.1 hM.2.1 dX8_settle_22 (lv_at hl 0 rfl) ?_
          refine lv_aload_n hM.1 hM.2.1 dX8_settle_24 rfl (lv_at hl 3 rfl) ?_
          refine z_get hM hW zc8 hI.O.1 rfl 44 (by decide) lf_X8_140 (v := .int (nI (ix (gi T 8 0 44)))) (congrArg Value.int (show gi T 8 (0) (44) = nI (ix (gi T 8 0 44)) from hT.cn)) dX8_settle_25 ?_
          refine lv_icmp_ge hM.1 hM.2.1 dX8_settle_28 (tgt := 46) (by decide) (fun _ => ?_) (fun h => absurd hc8 h)
          refine lv_aload_n hM.1 hM.2.1 dX8_settle_46 rfl (lv_at hl 3 rfl) ?_
          refine lv_iload hM.1 hM.2.1 dX8_settle_47 (lv_at hl 0 rfl) ?_
          refine z_Vi hM (hml.trans hl.1.symm) hW hS hlo zc8 hI.O.1 rfl zyX8_deliver lm_X8_206 li_yX8_deliver le_yX8_deliver (As := [.int (nI k)]) (rest := []) (c_X8_deliver_n hT (Or.inr hc8)) rfl rfl (Nat.le_of_ble_eq_true rfl) ⟨Nat.le_of_ble_eq_true rfl, Nat.le_of_ble_eq_true rfl⟩ ⟨Nat.le_of_ble_eq_true rfl, Nat.le_of_ble_eq_true rfl⟩ dX8_settle_49 (fun H locs hW hS => ?_)
          refine lv_istore_n hM.1 hM.2.1 dX8_settle_52 rfl hl (by decide) (lv' := [(3, .int (0)), (4, .int (nI k)), (2, .int (nI mm)), (0, .ref (Z.1 8 (0))), (1, .int (x))]) rfl (fun ls hl => ?_)
          refine lv_iload_n hM.1 hM.2.1 dX8_settle_53 rfl (lv_at hl 0 rfl) ?_
          refine lv_if_eq hM.1 hM.2.1 dX8_settle_54 (tgt := 60) (by decide) (fun _ => ?_) (fun h => absurd (by decide) h)
          refine lv_goto hM.1 hM.2.1 dX8_settle_60 (tgt := 10) (by decide) ?_
          refine lv_iload_n hM.1 hM.2.1 dX8_settle_10 rfl (lv_at hl 0 rfl) ?_
          refine lv_if_eq hM.1 hM.2.1 dX8_settle_11 (tgt := 63) (by decide) (fun _ => ?_) (fun h => absurd (by decide) h)
          refine lv_iload_n hM.1 hM.2.1 dX8_settle_63 rfl (lv_at hl 2 rfl) ?_
          exact z_iret hM hlk hr rfl hW hS (zF.of (by rw [show lSt n (f + 1) mm T = pif _ _ _ from rfl, pif_neg hn9] at hE2; exact hE2) (by rw [show lSt n (f + 1) mm T = pif _ _ _ from rfl, pif_neg hn9] at hE1; exact hE1)) dX8_settle_64
        | succ e ihe =>
          intro k ls H locs hk hF hl hW hS
          have hc8 : ¬ nI (ix (gi T 8 0 44)) ≤ nI k := nI_ge (by omega) (by omega)
          refine lv_iload hM.1 hM.2.1 dX8_settle_22 (lv_at hl 0 rfl) ?_
          refine lv_aload_n hM.1 hM.2.1 dX8_settle_24 rfl (lv_at hl 3 rfl) ?_
          refine z_get hM hW zc8 hI.O.1 rfl 44 (by decide) lf_X8_140 (v := .int (nI (ix (gi T 8 0 44)))) (congrArg Value.int (show gi T 8 (0) (44) = nI (ix (gi T 8 0 44)) from hT.cn)) dX8_settle_25 ?_
          refine lv_icmp_ge hM.1 hM.2.1 dX8_settle_28 (tgt := 46) (by decide) (fun h => absurd h hc8) (fun _ => ?_)
          refine lv_aload_n hM.1 hM.2.1 dX8_settle_31 rfl (lv_at hl 3 rfl) ?_
          refine lv_iload hM.1 hM.2.1 dX8_settle_32 (lv_at hl 0 rfl) ?_
          refine z_Vi hM (hml.trans hl.1.symm) hW hS hlo zc8 hI.O.1 rfl zyX8_canBe lm_X8_197 li_yX8_canBe le_yX8_canBe (As := [.int (nI k)]) (rest := []) (c_X8_canBe hT.O (by omega) (hT.msg (by omega)).1 (hT.msg (by omega)).2.1) rfl rfl (Nat.le_of_ble_eq_true rfl) ⟨Nat.le_of_ble_eq_true rfl, Nat.le_of_ble_eq_true rfl⟩ ⟨Nat.le_of_ble_eq_true rfl, Nat.le_of_ble_eq_true rfl⟩ dX8_settle_34 (fun H locs hW hS => ?_)
          refine lv_if_ne hM.1 hM.2.1 dX8_settle_37 (tgt := 46) (by decide) (fun h_37 => ?_) (fun h_37 => ?_)
          ·
            refine lv_aload_n hM.1 hM.2.1 dX8_settle_46 rfl (lv_at hl 3 rfl) ?_
            refine lv_iload hM.1 hM.2.1 dX8_settle_47 (lv_at hl 0 rfl) ?_
            have hkf : k = mFst T := by rw [show lF T (e + 1) k = pif _ _ _ from rfl, pif_neg h_37] at hF; exact hF
            have hkc : mFst T < ix (gi T 8 0 44) := by omega
            refine z_Vi hM (hml.trans hl.1.symm) hW hS hlo zc8 hI.O.1 rfl zyX8_deliver lm_X8_206 li_yX8_deliver le_yX8_deliver (As := [.int (nI k)]) (rest := []) (c_X8_deliver hT (by omega)) rfl rfl (Nat.le_of_ble_eq_true rfl) ⟨Nat.le_of_ble_eq_true rfl, Nat.le_of_ble_eq_true rfl⟩ ⟨Nat.le_of_ble_eq_true rfl, Nat.le_of_ble_eq_true rfl⟩ dX8_settle_49 (fun H locs hW hS => ?_)
            refine lv_istore_n hM.1 hM.2.1 dX8_settle_52 rfl hl (by decide) (lv' := [(3, .int (r_X8_deliver T n k)), (4, .int (nI k)), (2, .int (nI mm)), (0, .ref (Z.1 8 (0))), (1, .int (x))]) rfl (fun ls hl => ?_)
            refine lv_iload_n hM.1 hM.2.1 dX8_settle_53 rfl (lv_at hl 0 rfl) ?_
            refine lv_if_eq hM.1 hM.2.1 dX8_settle_54 (tgt := 60) (by decide) (fun h_54 => ?_) (fun h_54 => ?_)
            ·
              refine lv_goto hM.1 hM.2.1 dX8_settle_60 (tgt := 10) (by decide) ?_
              refine lv_iload_n hM.1 hM.2.1 dX8_settle_10 rfl (lv_at hl 0 rfl) ?_
              refine lv_if_eq hM.1 hM.2.1 dX8_settle_11 (tgt := 63) (by decide) (fun _ => ?_) (fun h => absurd h_54 h)
              refine lv_iload_n hM.1 hM.2.1 dX8_settle_63 rfl (lv_at hl 2 rfl) ?_
              exact z_iret hM hlk hr rfl hW hS (zF.of (by rw [show lSt n (f + 1) mm T = pif _ _ _ from rfl, pif_pos hkc, ← hkf, pif_pos h_54] at hE2; exact hE2) (by rw [show lSt n (f + 1) mm T = pif _ _ _ from rfl, pif_pos hkc, ← hkf, pif_pos h_54] at hE1; exact hE1)) dX8_settle_64
            ·
              refine lv_iinc hM.1 hM.2.1 dX8_settle_57 hl (k := 2) rfl (v := nI (mm + 1)) (nI_succ _).symm (by decide) (lv' := [(2, .int (nI (mm + 1))), (3, .int (r_X8_deliver T n k)), (4, .int (nI k)), (0, .ref (Z.1 8 (0))), (1, .int (x))]) rfl (fun ls hl => ?_)
              refine lv_goto hM.1 hM.2.1 dX8_settle_60 (tgt := 10) (by decide) ?_
              rw [show lSt n (f + 1) mm T = pif _ _ _ from rfl, pif_pos hkc, ← hkf, pif_neg h_54] at hE1 hE2
              exact ih (mm + 1) _ _ ls H locs (by omega) h_54 (hD _ _ hT0 (by omega)) hE1 hE2 (lv_sub hl [1, 0, 3, 4] rfl) hW hS
          ·
            refine lv_iinc hM.1 hM.2.1 dX8_settle_40 hl (k := 0) rfl (v := nI (k + 1)) (nI_succ _).symm (by decide) (lv' := [(4, .int (nI (k + 1))), (3, .int (g)), (2, .int (nI mm)), (0, .ref (Z.1 8 (0))), (1, .int (x))]) rfl (fun ls hl => ?_)
            refine lv_goto hM.1 hM.2.1 dX8_settle_43 (tgt := 22) (by decide) ?_
            exact ihe (k + 1) ls H locs (by omega) (by rw [show lF T (e + 1) k = pif _ _ _ from rfl, pif_pos h_37] at hF; exact hF) (lv_sub hl [0, 1, 2, 3, 4] rfl) hW hS
      refine lv_iload_n hM.1 hM.2.1 dX8_settle_10 rfl (lv_at hl 0 rfl) ?_
      refine lv_if_eq hM.1 hM.2.1 dX8_settle_11 (tgt := 63) (by decide) (fun h => absurd h hg) (fun _ => ?_)
      refine lv_iload_n hM.1 hM.2.1 dX8_settle_14 rfl (lv_at hl 1 rfl) ?_
      refine lv_iload_n hM.1 hM.2.1 dX8_settle_15 rfl (lv_at hl 3 rfl) ?_
      refine lv_icmp_ge hM.1 hM.2.1 dX8_settle_16 (tgt := 63) (by decide) (fun h => absurd h hc9) (fun _ => ?_)
      refine lv_iconst (v := 0) hM.1 hM.2.1 dX8_settle_19 (by decide) ?_
      refine lv_istore hM.1 hM.2.1 dX8_settle_20 hl (by decide) (lv' := [(4, .int (0)), (3, .int (g)), (2, .int (nI mm)), (0, .ref (Z.1 8 (0))), (1, .int (x))]) rfl (fun ls hl => ?_)
      exact inner _ 0 ls _ _ (Nat.zero_add _) rfl (lv_sub hl [0, 1, 2, 3, 4] rfl) hW hS
  refine lv_iload_n hM.1 hM.2.1 dX8_settle_0 rfl (lv_at hl 1 rfl) ?_
  refine lv_if_ge hM.1 hM.2.1 dX8_settle_1 (tgt := 6) (by decide) (fun h_1 => ?_) (fun h_1 => ?_)
  ·
    refine lv_iconst (v := 0) hM.1 hM.2.1 dX8_settle_6 (by decide) ?_
    refine lv_istore_n hM.1 hM.2.1 dX8_settle_7 rfl hl (by decide) (lv' := [(2, .int (0)), (0, .ref (Z.1 8 (0))), (1, .int (x))]) rfl (fun ls hl => ?_)
    refine lv_iconst (v := 1) hM.1 hM.2.1 dX8_settle_8 (by decide) ?_
    refine lv_istore_n hM.1 hM.2.1 dX8_settle_9 rfl hl (by decide) (lv' := [(3, .int (1)), (2, .int (0)), (0, .ref (Z.1 8 (0))), (1, .int (x))]) rfl (fun ls hl => ?_)
    exact loop (Int32.not_lt.mpr h_1) (ix x) 0 1 S ls _ _ (by omega) (by decide) hI0 (by unfold s_X8_settle; rw [pif_pos h_1]) (by unfold r_X8_settle; rw [pif_pos h_1]) (lv_sub hl [0, 1, 2, 3] rfl) hW hS
  ·
    refine lv_iconst (v := (-1)) hM.1 hM.2.1 dX8_settle_4 (by decide) ?_
    exact z_iret hM hlk hr rfl hW hS (zF.of (by unfold r_X8_settle; rw [pif_neg h_1]) (by unfold s_X8_settle; rw [pif_neg h_1])) dX8_settle_5

