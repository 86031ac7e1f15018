/-- the first place from k on whose message can be delivered -/
noncomputable def lF (T : zS) : Nat → Nat → Nat
  | 0, k => k
  | f + 1, k => pif ((r_X8_canBe T k) = (0)) (lF T f (k + 1)) k
noncomputable def mFst (T : zS) : Nat := lF T (ix (gi T 8 0 44)) 0
noncomputable def lSt (n : Nat) : Nat → Nat → zS → zS × Int32
  | 0, m, T => (T, nI m)
  | f + 1, m, T => pif (mFst T < ix (gi T 8 0 44)) (pif ((r_X8_deliver T n (mFst T)) = (0)) (s_X8_deliver T n (mFst T), nI m) (lSt n f (m + 1) (s_X8_deliver T n (mFst T)))) (T, nI m)
noncomputable def s_X8_settle (S : zS) (n : Nat) (x : Int32) : zS := pif ((0) ≤ (x)) (lSt n (ix x) 0 S).1 S
noncomputable def r_X8_settle (S : zS) (n : Nat) (x : Int32) : Int32 := pif ((0) ≤ (x)) (lSt n (ix x) 0 S).2 (-1)
set_option maxHeartbeats 400000 in
set_option maxRecDepth 100000 in
theorem c_X8_settle {l : Launch} {D : va_G} {ar : Nat → ClassId} {A : Nat → Prop} {Z : zZ} {S : zS} {n : Nat} {x : Int32} (hI : mI n Z S) (hD : ∀ T k, mI n Z T → k < ix (gi T 8 0 44) → mI n Z (s_X8_deliver T n k)) : zMet l yX8_settle prog_10_method_26_code 5 (some .int) ({ frames := 6, cells := 0, slots := 0, locals := 159 } : Room) D ar A Z S [.ref (Z.1 8 (0)), .int (x)] rvI (zF (r_X8_settle S n x) Z (s_X8_settle S n x)) := by
  refine z_body (by decide +kernel) (Nat.le_of_ble_eq_true rfl) ?_
  intro pX eX sX mX bX methX cX ls hM hr hlk hml hin hl hW hlo
  have hM : zM pX cX mX _ sX prog_10_method_26_code RX8 D ar := hM
  have hS : va_S A sX.heap sX.heap [] := va_S.rf
  have hl : lv_has ls 5 [(0, .ref (Z.1 8 (0))), (1, .int (x))] := hl
  have loop : ¬ x < 0 → ∀ (f mm : Nat) (g : Int32) (T : zS) (ls : Array Slot) (H : Heap) (locs : List Loc), mm + f = ix x → ¬ g = 0 → mI n Z T → (lSt n f mm T).1 = s_X8_settle S n x → (lSt n f mm T).2 = r_X8_settle S n x → lv_has ls 5 [(3, .int (g)), (2, .int (nI mm)), (0, .ref (Z.1 8 (0))), (1, .int (x))] → zW D ar A Z T H → va_S A sX.heap H locs → W pX l eX ({ frames := 6, cells := 0, slots := 0, locals := 159 } : Room) sX mX ([.ref (Z.1 8 (0)), .int (x)] : List Value).toArray bX methX cX H locs 0 0 (MQ bX (zQ D ar A rvI (zF (r_X8_settle S n x) Z (s_X8_settle S n x))) ([.ref (Z.1 8 (0)), .int (x)] : List Value).toArray sX 0 0 A) (F0 mX 10 ls []) := by
    intro hx0 f
    have hxi : x = nI (ix x) := (nI_ix hx0).symm
    have hx31 : ix x < 2 ^ 31 := by have := Int32.toInt_lt x; show x.toInt.toNat < _; omega
    induction f with
    | zero =>
      intro mm g T ls H locs hm hg hT hE1 hE2 hl hW hS
      have hcm9 := hT.cm
      have hc9 : x ≤ nI mm := by rw [show mm = ix x by omega, ← hxi]; exact Int32.le_refl _
      refine lv_iload_n hM.1 hM.2.1 dX8_settle_10 rfl (lv_at hl 0 rfl) ?_
      refine lv_if_eq hM.1 hM.2.1 dX8_settle_11 (tgt := 63) (by decide) (fun h => absurd h hg) (fun _ => ?_)
      refine lv_iload_n hM.1 hM.2.1 dX8_settle_14 rfl (lv_at hl 1 rfl) ?_
      refine lv_iload_n hM.1 hM.2.1 dX8_settle_15 rfl (lv_at hl 3 rfl) ?_
      refine lv_icmp_ge hM.1 hM.2.1 dX8_settle_16 (tgt := 63) (by decide) (fun _ => ?_) (fun h => absurd hc9 h)
      refine lv_iload_n hM.1 hM.2.1 dX8_settle_63 rfl (lv_at hl 1 rfl) ?_
      exact z_iret hM hlk hr rfl hW hS (zF.of hE2 hE1) dX8_settle_64
    | succ f ih =>
      intro mm g T ls H locs hm hg hT hE1 hE2 hl hW hS
      have hcm9 := hT.cm
      have hc9 : ¬ x ≤ nI mm := by rw [hxi]; exact nI_ge (by omega) hx31
      have inner : ∀ (e k : Nat) (ls : Array Slot) (H : Heap) (locs : List Loc), k + e = ix (gi T 8 0 44) → lF T e k = mFst T → lv_has ls 5 [(4, .int (nI k)), (3, .int (g)), (2, .int (nI mm)), (0, .ref (Z.1 8 (0))), (1, .int (x))] → zW D ar A Z T H → va_S A sX.heap H locs → W pX l eX ({ frames := 6, cells := 0, slots := 0, locals := 159 } : Room) sX mX ([.ref (Z.1 8 (0)), .int (x)] : List Value).toArray bX methX cX H locs 0 0 (MQ bX (zQ D ar A rvI (zF (r_X8_settle S n x) Z (s_X8_settle S n x))) ([.ref (Z.1 8 (0)), .int (x)] : List Value).toArray sX 0 0 A) (F0 mX 22 ls []) := by
        intro e
        induction e with
        | zero =>
          intro k ls H locs hk hF hl hW hS
          have hc8 : nI (ix (gi T 8 0 44)) ≤ nI k := by rw [show k = ix (gi T 8 0 44) by omega]; exact Int32.le_refl _
          have hF : k = mFst T := hF
          have hn9 : ¬ mFst T < ix (gi T 8 0 44) := by omega
          refine lv_iload hM.1 hM.2.1 dX8_settle_22 (lv_at hl 0 rfl) ?_
          refine lv_aload_n hM.1 hM.2.1 dX8_settle_24 rfl (lv_at hl 3 rfl) ?_
          refine z_get hM hW zc8 hI.O.1 rfl 44 (by decide) lf_X8_140 (v := .int (nI (ix (gi T 8 0 44)))) (congrArg Value.int (show gi T 8 (0) (44) = nI (ix (gi T 8 0 44)) from hT.cn)) dX8_settle_25 ?_
          refine lv_icmp_ge hM.1 hM.2.1 dX8_settle_28 (tgt := 46) (by decide) (fun _ => ?_) (fun h => absurd hc8 h)
          refine lv_aload_n hM.1 hM.2.1 dX8_settle_46 rfl (lv_at hl 3 rfl) ?_
          refine lv_iload hM.1 hM.2.1 dX8_settle_47 (lv_at hl 0 rfl) ?_
          refine z_Vi hM (hml.trans hl.1.symm) hW hS hlo zc8 hI.O.1 rfl zyX8_deliver lm_X8_206 li_yX8_deliver le_yX8_deliver (As := [.int (nI k)]) (rest := []) (c_X8_deliver_n hT (Or.inr hc8)) rfl rfl (Nat.le_of_ble_eq_true rfl) ⟨Nat.le_of_ble_eq_true rfl, Nat.le_of_ble_eq_true rfl⟩ ⟨Nat.le_of_ble_eq_true rfl, Nat.le_of_ble_eq_true rfl⟩ dX8_settle_49 (fun H locs hW hS => ?_)
          refine lv_istore_n hM.1 hM.2.1 dX8_settle_52 rfl hl (by decide) (lv' := [(3, .int (0)), (4, .int (nI k)), (2, .int (nI mm)), (0, .ref (Z.1 8 (0))), (1, .int (x))]) rfl (fun ls hl => ?_)
          refine lv_iload_n hM.1 hM.2.1 dX8_settle_53 rfl (lv_at hl 0 rfl) ?_
          refine lv_if_eq hM.1 hM.2.1 dX8_settle_54 (tgt := 60) (by decide) (fun _ => ?_) (fun h => absurd (by decide) h)
          refine lv_goto hM.1 hM.2.1 dX8_settle_60 (tgt := 10) (by decide) ?_
          refine lv_iload_n hM.1 hM.2.1 dX8_settle_10 rfl (lv_at hl 0 rfl) ?_
          refine lv_if_eq hM.1 hM.2.1 dX8_settle_11 (tgt := 63) (by decide) (fun _ => ?_) (fun h => absurd (by decide) h)
          refine lv_iload_n hM.1 hM.2.1 dX8_settle_63 rfl (lv_at hl 2 rfl) ?_
          exact z_iret hM hlk hr rfl hW hS (zF.of (by rw [show lSt n (f + 1) mm T = pif _ _ _ from rfl, pif_neg hn9] at hE2; exact hE2) (by rw [show lSt n (f + 1) mm T = pif _ _ _ from rfl, pif_neg hn9] at hE1; exact hE1)) dX8_settle_64
        | succ e ihe =>
          intro k ls H locs hk hF hl hW hS
          have hc8 : ¬ nI (ix (gi T 8 0 44)) ≤ nI k := nI_ge (by omega) (by omega)
          refine lv_iload hM.1 hM.2.1 dX8_settle_22 (lv_at hl 0 rfl) ?_
          refine lv_aload_n hM.1 hM.2.1 dX8_settle_24 rfl (lv_at hl 3 rfl) ?_
          refine z_get hM hW zc8 hI.O.1 rfl 44 (by decide) lf_X8_140 (v := .int (nI (ix (gi T 8 0 44)))) (congrArg Value.int (show gi T 8 (0) (44) = nI (ix (gi T 8 0 44)) from hT.cn)) dX8_settle_25 ?_
          refine lv_icmp_ge hM.1 hM.2.1 dX8_settle_28 (tgt := 46) (by decide) (fun h => absurd h hc8) (fun _ => ?_)
          refine lv_aload_n hM.1 hM.2.1 dX8_settle_31 rfl (lv_at hl 3 rfl) ?_
          refine lv_iload hM.1 hM.2.1 dX8_settle_32 (lv_at hl 0 rfl) ?_
          refine z_Vi hM (hml.trans hl.1.symm) hW hS hlo zc8 hI.O.1 rfl zyX8_canBe lm_X8_197 li_yX8_canBe le_yX8_canBe (As := [.int (nI k)]) (rest := []) (c_X8_canBe hT.O (by omega) (hT.msg (by omega)).1 (hT.msg (by omega)).2.1) rfl rfl (Nat.le_of_ble_eq_true rfl) ⟨Nat.le_of_ble_eq_true rfl, Nat.le_of_ble_eq_true rfl⟩ ⟨Nat.le_of_ble_eq_true rfl, Nat.le_of_ble_eq_true rfl⟩ dX8_settle_34 (fun H locs hW hS => ?_)
          refine lv_if_ne hM.1 hM.2.1 dX8_settle_37 (tgt := 46) (by decide) (fun h_37 => ?_) (fun h_37 => ?_)
          ·
            refine lv_aload_n hM.1 hM.2.1 dX8_settle_46 rfl (lv_at hl 3 rfl) ?_
            refine lv_iload hM.1 hM.2.1 dX8_settle_47 (lv_at hl 0 rfl) ?_
            have hkf : k = mFst T := by rw [show lF T (e + 1) k = pif _ _ _ from rfl, pif_neg h_37] at hF; exact hF
            have hkc : mFst T < ix (gi T 8 0 44) := by omega
            refine z_Vi hM (hml.trans hl.1.symm) hW hS hlo zc8 hI.O.1 rfl zyX8_deliver lm_X8_206 li_yX8_deliver le_yX8_deliver (As := [.int (nI k)]) (rest := []) (c_X8_deliver hT (by omega)) rfl rfl (Nat.le_of_ble_eq_true rfl) ⟨Nat.le_of_ble_eq_true rfl, Nat.le_of_ble_eq_true rfl⟩ ⟨Nat.le_of_ble_eq_true rfl, Nat.le_of_ble_eq_true rfl⟩ dX8_settle_49 (fun H locs hW hS => ?_)
            refine lv_istore_n hM.1 hM.2.1 dX8_settle_52 rfl hl (by decide) (lv' := [(3, .int (r_X8_deliver T n k)), (4, .int (nI k)), (2, .int (nI mm)), (0, .ref (Z.1 8 (0))), (1, .int (x))]) rfl (fun ls hl => ?_)
            refine lv_iload_n hM.1 hM.2.1 dX8_settle_53 rfl (lv_at hl 0 rfl) ?_
            refine lv_if_eq hM.1 hM.2.1 dX8_settle_54 (tgt := 60) (by decide) (fun h_54 => ?_) (fun h_54 => ?_)
            ·
              refine lv_goto hM.1 hM.2.1 dX8_settle_60 (tgt := 10) (by decide) ?_
              refine lv_iload_n hM.1 hM.2.1 dX8_settle_10 rfl (lv_at hl 0 rfl) ?_
              refine lv_if_eq hM.1 hM.2.1 dX8_settle_11 (tgt := 63) (by decide) (fun _ => ?_) (fun h => absurd h_54 h)
              refine lv_iload_n hM.1 hM.2.1 dX8_settle_63 rfl (lv_at hl 2 rfl) ?_
              exact z_iret hM hlk hr rfl hW hS (zF.of (by rw [show lSt n (f + 1) mm T = pif _ _ _ from rfl, pif_pos hkc, ← hkf, pif_pos h_54] at hE2; exact hE2) (by rw [show lSt n (f + 1) mm T = pif _ _ _ from rfl, pif_pos hkc, ← hkf, pif_pos h_54] at hE1; exact hE1)) dX8_settle_64
            ·
              refine lv_iinc hM.1 hM.2.1 dX8_settle_57 hl (k := 2) rfl (v := nI (mm + 1)) (nI_succ _).symm (by decide) (lv' := [(2, .int (nI (mm + 1))), (3, .int (r_X8_deliver T n k)), (4, .int (nI k)), (0, .ref (Z.1 8 (0))), (1, .int (x))]) rfl (fun ls hl => ?_)
              refine lv_goto hM.1 hM.2.1 dX8_settle_60 (tgt := 10) (by decide) ?_
              rw [show lSt n (f + 1) mm T = pif _ _ _ from rfl, pif_pos hkc, ← hkf, pif_neg h_54] at hE1 hE2
              exact ih (mm + 1) _ _ ls H locs (by omega) h_54 (hD _ _ hT (by omega)) hE1 hE2 (lv_sub hl [1, 0, 3, 4] rfl) hW hS
          ·
            refine lv_iinc hM.1 hM.2.1 dX8_settle_40 hl (k := 0) rfl (v := nI (k + 1)) (nI_succ _).symm (by decide) (lv' := [(4, .int (nI (k + 1))), (3, .int (g)), (2, .int (nI mm)), (0, .ref (Z.1 8 (0))), (1, .int (x))]) rfl (fun ls hl => ?_)
            refine lv_goto hM.1 hM.2.1 dX8_settle_43 (tgt := 22) (by decide) ?_
            exact ihe (k + 1) ls H locs (by omega) (by rw [show lF T (e + 1) k = pif _ _ _ from rfl, pif_pos h_37] at hF; exact hF) (lv_sub hl [0, 1, 2, 3, 4] rfl) hW hS
      refine lv_iload_n hM.1 hM.2.1 dX8_settle_10 rfl (lv_at hl 0 rfl) ?_
      refine lv_if_eq hM.1 hM.2.1 dX8_settle_11 (tgt := 63) (by decide) (fun h => absurd h hg) (fun _ => ?_)
      refine lv_iload_n hM.1 hM.2.1 dX8_settle_14 rfl (lv_at hl 1 rfl) ?_
      refine lv_iload_n hM.1 hM.2.1 dX8_settle_15 rfl (lv_at hl 3 rfl) ?_
      refine lv_icmp_ge hM.1 hM.2.1 dX8_settle_16 (tgt := 63) (by decide) (fun h => absurd h hc9) (fun _ => ?_)
      refine lv_iconst (v := 0) hM.1 hM.2.1 dX8_settle_19 (by decide) ?_
      refine lv_istore hM.1 hM.2.1 dX8_settle_20 hl (by decide) (lv' := [(4, .int (0)), (3, .int (g)), (2, .int (nI mm)), (0, .ref (Z.1 8 (0))), (1, .int (x))]) rfl (fun ls hl => ?_)
      exact inner _ 0 ls _ _ (Nat.zero_add _) rfl (lv_sub hl [0, 1, 2, 3, 4] rfl) hW hS
  refine lv_iload_n hM.1 hM.2.1 dX8_settle_0 rfl (lv_at hl 1 rfl) ?_
  refine lv_if_ge hM.1 hM.2.1 dX8_settle_1 (tgt := 6) (by decide) (fun h_1 => ?_) (fun h_1 => ?_)
  ·
    refine lv_iconst (v := 0) hM.1 hM.2.1 dX8_settle_6 (by decide) ?_
    refine lv_istore_n hM.1 hM.2.1 dX8_settle_7 rfl hl (by decide) (lv' := [(2, .int (0)), (0, .ref (Z.1 8 (0))), (1, .int (x))]) rfl (fun ls hl => ?_)
    refine lv_iconst (v := 1) hM.1 hM.2.1 dX8_settle_8 (by decide) ?_
    refine lv_istore_n hM.1 hM.2.1 dX8_settle_9 rfl hl (by decide) (lv' := [(3, .int (1)), (2, .int (0)), (0, .ref (Z.1 8 (0))), (1, .int (x))]) rfl (fun ls hl => ?_)
    exact loop (Int32.not_lt.mpr h_1) (ix x) 0 1 S ls _ _ (by omega) (by decide) hI (by unfold s_X8_settle; rw [pif_pos h_1]) (by unfold r_X8_settle; rw [pif_pos h_1]) (lv_sub hl [0, 1, 2, 3] rfl) hW hS
  ·
    refine lv_iconst (v := (-1)) hM.1 hM.2.1 dX8_settle_4 (by decide) ?_
    exact z_iret hM hlk hr rfl hW hS (zF.of (by unfold r_X8_settle; rw [pif_neg h_1]) (by unfold s_X8_settle; rw [pif_neg h_1])) dX8_settle_5
