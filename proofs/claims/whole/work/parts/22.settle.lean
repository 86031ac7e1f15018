/-- one settle, from k on, with d delivered -/
noncomputable def lSet (n : Nat) (x : Int32) : Nat → Int32 → Int32 → zS → zS × Int32
  | 0, _, d, T => (T, d)
  | f + 1, k, d, T => pif ((x) ≤ (d)) (T, d) (pif ((gi T 1 (0) (2)) ≤ (k)) (T, d) (pif ((r_X7_deliver T n (k)) = (0)) (lSet n x f (k + 1) d (s_X7_deliver T n (k))) (lSet n x f k (d + 1) (s_X7_deliver T n (k)))))
noncomputable def s_X7_settle (S : zS) (n : Nat) (x : Int32) : zS := pif ((0) ≤ (x)) (lSet n x 1000000 0 0 S).1 S
noncomputable def r_X7_settle (S : zS) (n : Nat) (x : Int32) : Int32 := pif ((0) ≤ (x)) (lSet n x 1000000 0 0 S).2 (-1)
theorem zV.begin {n : Nat} {Z : zZ} {R : zR} (h : zV n Z R) {c a : Nat} (hc : c < 4) (ha : Z.2.1 0 a) (ha2 : a < 200) : zV n Z (up3 (up3 R 12 0 a (some a)) 2 c 2 (some a)) := by
  obtain ⟨⟨a1, b1⟩, ⟨c1, c2, c3, c4⟩, d, f, g5, g6, g7⟩ := h
  have e : ∀ k i x, ¬ (k = 12 ∧ i = 0 ∧ x = a) → ¬ (k = 2 ∧ i = c ∧ x = 2) → up3 (up3 R 12 0 a (some a)) 2 c 2 (some a) k i x = R k i x := fun k i x h1 h2 => by rw [up3_eq, if_neg h2, up3_eq, if_neg h1]
  refine ⟨⟨a1, b1⟩, ⟨c1, c2, c3, c4⟩, fun c' hc' => ?_, f, g5, fun b hb => ?_, fun c' hc' => ?_⟩
  · rw [e 2 c' 1 (by omega) (by omega), e _ _ _ (by omega) (by omega)]; exact d c' hc'
  · by_cases hab : b = a
    · subst hab
      exact Or.inr ⟨by rw [up3_eq, if_neg (by omega), up3_eq, if_pos ⟨rfl, rfl, rfl⟩], ha⟩
    · rw [e _ _ _ (by omega) (by omega)]; exact g6 b hb
  · have e12 : ∀ b, b < 200 → R 12 0 b = some b → up3 (up3 R 12 0 a (some a)) 2 c 2 (some a) 12 0 b = some b := fun b hb hr => by
      by_cases hab : b = a
      · subst hab; rw [up3_eq, if_neg (by omega), up3_eq, if_pos ⟨rfl, rfl, rfl⟩]
      · rw [e _ _ _ (by omega) (by omega)]; exact hr
    by_cases hcc : c' = c
    · subst hcc
      exact Or.inr ⟨a, ha2, by rw [up3_eq, if_pos ⟨rfl, rfl, rfl⟩], by rw [up3_eq, if_neg (by omega), up3_eq, if_pos ⟨rfl, rfl, rfl⟩]⟩
    · rcases g7 c' hc' with q | ⟨b, q1, q2, q3⟩
      · exact Or.inl (by rw [e _ _ _ (by omega) (by omega)]; exact q)
      · exact Or.inr ⟨b, q1, by rw [e _ _ _ (by omega) (by omega)]; exact q2, e12 b q1 q3⟩
set_option maxHeartbeats 400000 in
set_option maxRecDepth 100000 in
theorem c_X7_settle {l : Launch} {D : va_G} {ar : Nat → ClassId} {A : Nat → Prop} {Z : zZ} {S : zS} {n : Nat} {x : Int32} (hI : cI n Z S) (hD : ∀ T y, cI n Z T → cI n Z (s_X7_deliver T n y)) : zMet l yX7_settle prog_1_method_10_code 5 (some .int) ({ frames := 6, cells := 0, slots := 0, locals := 143 } : Room) D ar A Z S [.ref (Z.1 7 (0)), .int (x)] rvI (zF (r_X7_settle S n x) Z (s_X7_settle S n x)) := by
  refine z_body (by decide +kernel) (Nat.le_of_ble_eq_true rfl) ?_
  intro pX eX sX mX bX methX cX ls hM hr hlk hml hin hl hW hlo
  have hM : zM pX cX mX _ sX prog_1_method_10_code RX7 D ar := hM
  have hS : va_S A sX.heap sX.heap [] := va_S.rf
  have hl : lv_has ls 5 [(0, .ref (Z.1 7 (0))), (1, .int (x))] := hl
  have loop : ∀ (f st : Nat) (k d : Int32) (T : zS) (ls : Array Slot) (H : Heap) (locs : List Loc), st + f = 1000000 → cI n Z T → (lSet n x f k d T).1 = s_X7_settle S n x → (lSet n x f k d T).2 = r_X7_settle S n x → lv_has ls 5 [(4, .int (nI st)), (3, .int (k)), (2, .int (d)), (0, .ref (Z.1 7 (0))), (1, .int (x))] → zW D ar A Z T H → va_S A sX.heap H locs → W pX l eX ({ frames := 6, cells := 0, slots := 0, locals := 143 } : Room) sX mX ([.ref (Z.1 7 (0)), .int (x)] : List Value).toArray bX methX cX H locs 0 0 (MQ bX (zQ D ar A rvI (zF (r_X7_settle S n x) Z (s_X7_settle S n x))) ([.ref (Z.1 7 (0)), .int (x)] : List Value).toArray sX 0 0 A) (F0 mX 13 ls []) := by
    intro f
    induction f with
    | zero =>
      intro st k d T ls H locs hf hT hE1 hE2 hl hW hS
      have hV := hT.1
      have hc9 : (1000000 : Int32) ≤ nI st := by rw [show st = 1000000 by omega]; exact Int32.le_refl _
      refine lv_iload hM.1 hM.2.1 dX7_settle_13 (lv_at hl 0 rfl) ?_
      refine lv_ldc hM.1 hM.2.1 hM.2.2.1 (hM.2.2.2.1 _ lq_const) dX7_settle_15 ?_
      refine lv_icmp_ge hM.1 hM.2.1 dX7_settle_17 (tgt := 59) (by decide) (fun _ => ?_) (fun h => absurd hc9 h)
      refine lv_iload_n hM.1 hM.2.1 dX7_settle_59 rfl (lv_at hl 2 rfl) ?_
      exact z_iret hM hlk hr rfl hW hS (zF.of hE2 hE1) dX7_settle_60
    | succ f ih =>
      intro st k d T ls H locs hf hT hE1 hE2 hl hW hS
      have hV := hT.1
      have hc9 : ¬ (1000000 : Int32) ≤ nI st := nI_ge (a := st) (b := 1000000) (by omega) (by omega)
      refine lv_iload hM.1 hM.2.1 dX7_settle_13 (lv_at hl 0 rfl) ?_
      refine lv_ldc hM.1 hM.2.1 hM.2.2.1 (hM.2.2.2.1 _ lq_const) dX7_settle_15 ?_
      refine lv_icmp_ge hM.1 hM.2.1 dX7_settle_17 (tgt := 59) (by decide) (fun h => absurd h hc9) (fun _ => ?_)
      refine lv_iload_n hM.1 hM.2.1 dX7_settle_20 rfl (lv_at hl 2 rfl) ?_
      refine lv_iload_n hM.1 hM.2.1 dX7_settle_21 rfl (lv_at hl 4 rfl) ?_
      refine lv_icmp_ge hM.1 hM.2.1 dX7_settle_22 (tgt := 59) (by decide) (fun h_22 => ?_) (fun h_22 => ?_)
      ·
        refine lv_iload_n hM.1 hM.2.1 dX7_settle_59 rfl (lv_at hl 2 rfl) ?_
        exact z_iret hM hlk hr rfl hW hS (zF.of (by rw [show lSet n x (f + 1) k d T = pif _ _ _ from rfl, pif_pos h_22] at hE2; exact hE2) (by rw [show lSet n x (f + 1) k d T = pif _ _ _ from rfl, pif_pos h_22] at hE1; exact hE1)) dX7_settle_60
      ·
        refine lv_iload_n hM.1 hM.2.1 dX7_settle_25 rfl (lv_at hl 1 rfl) ?_
        refine lv_aload_n hM.1 hM.2.1 dX7_settle_26 rfl (lv_at hl 3 rfl) ?_
        refine z_getr hM hW zc7 hI.1.d7 rfl 4 (by decide) lf_X7_65 (t := 1) (j := 0) rfl hV.r74 dX7_settle_27 (fun hd1_27 => ?_)
        refine z_get hM hW zc1 hd1_27 rfl 2 (by decide) lf_X7_148 (v := .int (gi T 1 (0) (2))) rfl dX7_settle_30 ?_
        refine lv_icmp_ge hM.1 hM.2.1 dX7_settle_33 (tgt := 59) (by decide) (fun h_33 => ?_) (fun h_33 => ?_)
        ·
          refine lv_iload_n hM.1 hM.2.1 dX7_settle_59 rfl (lv_at hl 2 rfl) ?_
          exact z_iret hM hlk hr rfl hW hS (zF.of (by rw [show lSet n x (f + 1) k d T = pif _ _ _ from rfl, pif_neg h_22, pif_pos h_33] at hE2; exact hE2) (by rw [show lSet n x (f + 1) k d T = pif _ _ _ from rfl, pif_neg h_22, pif_pos h_33] at hE1; exact hE1)) dX7_settle_60
        ·
          refine lv_aload_n hM.1 hM.2.1 dX7_settle_36 rfl (lv_at hl 3 rfl) ?_
          refine lv_iload_n hM.1 hM.2.1 dX7_settle_37 rfl (lv_at hl 1 rfl) ?_
          refine z_Vi hM (hml.trans hl.1.symm) hW hS hlo zc7 hI.1.d7 rfl zyX7_deliver lm_X7_151 li_yX7_deliver le_yX7_deliver (As := [.int (k)]) (rest := []) (c_X7_deliver hT) rfl rfl (Nat.le_of_ble_eq_true rfl) ⟨Nat.le_of_ble_eq_true rfl, Nat.le_of_ble_eq_true rfl⟩ ⟨Nat.le_of_ble_eq_true rfl, Nat.le_of_ble_eq_true rfl⟩ dX7_settle_38 (fun H locs hW hS => ?_)
          refine lv_if_eq hM.1 hM.2.1 dX7_settle_41 (tgt := 50) (by decide) (fun h_41 => ?_) (fun h_41 => ?_)
          ·
            refine lv_iinc hM.1 hM.2.1 dX7_settle_50 hl (k := 1) rfl (v := k + 1) rfl (by decide) (lv' := [(3, .int (k + 1)), (4, .int (nI st)), (2, .int (d)), (0, .ref (Z.1 7 (0))), (1, .int (x))]) rfl (fun ls hl => ?_)
            refine lv_iinc hM.1 hM.2.1 dX7_settle_53 hl (k := 1) rfl (v := nI (st + 1)) (nI_succ _).symm (by decide) (lv' := [(4, .int (nI (st + 1))), (3, .int (k + 1)), (2, .int (d)), (0, .ref (Z.1 7 (0))), (1, .int (x))]) rfl (fun ls hl => ?_)
            refine lv_goto hM.1 hM.2.1 dX7_settle_56 (tgt := 13) (by decide) ?_
            exact ih (st + 1) _ _ _ ls H locs (by omega) (hD _ _ hT) (by rw [show lSet n x (f + 1) k d T = pif _ _ _ from rfl, pif_neg h_22, pif_neg h_33, pif_pos h_41] at hE1; exact hE1) (by rw [show lSet n x (f + 1) k d T = pif _ _ _ from rfl, pif_neg h_22, pif_neg h_33, pif_pos h_41] at hE2; exact hE2) (lv_sub hl [0, 1, 2, 3, 4] rfl) hW hS
          ·
            refine lv_iinc hM.1 hM.2.1 dX7_settle_44 hl (k := 2) rfl (v := d + 1) rfl (by decide) (lv' := [(2, .int (d + 1)), (4, .int (nI st)), (3, .int (k)), (0, .ref (Z.1 7 (0))), (1, .int (x))]) rfl (fun ls hl => ?_)
            refine lv_goto hM.1 hM.2.1 dX7_settle_47 (tgt := 53) (by decide) ?_
            refine lv_iinc hM.1 hM.2.1 dX7_settle_53 hl (k := 1) rfl (v := nI (st + 1)) (nI_succ _).symm (by decide) (lv' := [(4, .int (nI (st + 1))), (2, .int (d + 1)), (3, .int (k)), (0, .ref (Z.1 7 (0))), (1, .int (x))]) rfl (fun ls hl => ?_)
            refine lv_goto hM.1 hM.2.1 dX7_settle_56 (tgt := 13) (by decide) ?_
            exact ih (st + 1) _ _ _ ls H locs (by omega) (hD _ _ hT) (by rw [show lSet n x (f + 1) k d T = pif _ _ _ from rfl, pif_neg h_22, pif_neg h_33, pif_neg h_41] at hE1; exact hE1) (by rw [show lSet n x (f + 1) k d T = pif _ _ _ from rfl, pif_neg h_22, pif_neg h_33, pif_neg h_41] at hE2; exact hE2) (lv_sub hl [0, 2, 1, 3, 4] rfl) hW hS
  refine lv_iload_n hM.1 hM.2.1 dX7_settle_0 rfl (lv_at hl 1 rfl) ?_
  refine lv_if_ge hM.1 hM.2.1 dX7_settle_1 (tgt := 6) (by decide) (fun h_1 => ?_) (fun h_1 => ?_)
  ·
    refine lv_iconst (v := 0) hM.1 hM.2.1 dX7_settle_6 (by decide) ?_
    refine lv_istore_n hM.1 hM.2.1 dX7_settle_7 rfl hl (by decide) (lv' := [(2, .int (0)), (0, .ref (Z.1 7 (0))), (1, .int (x))]) rfl (fun ls hl => ?_)
    refine lv_iconst (v := 0) hM.1 hM.2.1 dX7_settle_8 (by decide) ?_
    refine lv_istore_n hM.1 hM.2.1 dX7_settle_9 rfl hl (by decide) (lv' := [(3, .int (0)), (2, .int (0)), (0, .ref (Z.1 7 (0))), (1, .int (x))]) rfl (fun ls hl => ?_)
    refine lv_iconst (v := 0) hM.1 hM.2.1 dX7_settle_10 (by decide) ?_
    refine lv_istore hM.1 hM.2.1 dX7_settle_11 hl (by decide) (lv' := [(4, .int (0)), (3, .int (0)), (2, .int (0)), (0, .ref (Z.1 7 (0))), (1, .int (x))]) rfl (fun ls hl => ?_)
    exact loop 1000000 0 0 0 S ls _ _ (by omega) hI (by unfold s_X7_settle; rw [pif_pos h_1]) (by unfold r_X7_settle; rw [pif_pos h_1]) (lv_sub hl [0, 1, 2, 3, 4] rfl) hW hS
  ·
    refine lv_iconst (v := (-1)) hM.1 hM.2.1 dX7_settle_4 (by decide) ?_
    exact z_iret hM hlk hr rfl hW hS (zF.of (by unfold r_X7_settle; rw [pif_neg h_1]) (by unfold s_X7_settle; rw [pif_neg h_1])) dX7_settle_5

noncomputable def r_X7_beginAct (S : zS) (n : Nat) (c a : Nat) (x : Int32) : Int32 := (gi (s_X7_beginPhase (s_X6_put (si (sr (si (si (si (sr S 12 (0) (ix (gi S 7 (0) (7))) (some (a))) 7 (0) (7) ((gi S 7 (0) (7)) + (1))) 7 (0) (8) ((gi S 7 (0) (8)) + (1))) 0 (a) (3) ((gi S 7 (0) (8)) + (1))) 2 (c) (2) (some (a))) 2 (c) (4) (0)) (10 + c) (0) (0) (0)) n (c) (a) (x)) 0 (a) (0))
noncomputable def s_X7_beginAct (S : zS) (n : Nat) (c a : Nat) (x : Int32) : zS := ((s_X7_beginPhase (s_X6_put (si (sr (si (si (si (sr S 12 (0) (ix (gi S 7 (0) (7))) (some (a))) 7 (0) (7) ((gi S 7 (0) (7)) + (1))) 7 (0) (8) ((gi S 7 (0) (8)) + (1))) 0 (a) (3) ((gi S 7 (0) (8)) + (1))) 2 (c) (2) (some (a))) 2 (c) (4) (0)) (10 + c) (0) (0) (0)) n (c) (a) (x)))
set_option maxHeartbeats 400000 in
set_option maxRecDepth 100000 in
theorem c_X7_beginAct {l : Launch} {D : va_G} {ar : Nat → ClassId} {A : Nat → Prop} {Z : zZ} {S : zS} {n : Nat} {c a : Nat} {x : Int32} (hV : zV n Z S.2.2) (hc : c < 4) (ha : Z.2.1 0 a) (hac : gi S 7 0 7 = nI a) (ha2 : a < 200) (hc0 : ¬ gi S 1 0 2 < 0) : zMet l yX7_beginAct prog_1_method_29_code 4 (some .int) ({ frames := 4, cells := 0, slots := 0, locals := 96 } : Room) D ar A Z S [.ref (Z.1 7 (0)), .ref (Z.1 2 (c)), .ref (Z.1 0 (a)), .int (x)] rvI (zF (r_X7_beginAct S n c a x) Z (s_X7_beginAct S n c a x)) := by
  refine z_body (by decide +kernel) (Nat.le_of_ble_eq_true rfl) ?_
  intro pX eX sX mX bX methX cX ls hM hr hlk hml hin hl hW hlo
  have hM : zM pX cX mX _ sX prog_1_method_29_code RX7 D ar := hM
  have hS : va_S A sX.heap sX.heap [] := va_S.rf
  have hl : lv_has ls 4 [(0, .ref (Z.1 7 (0))), (1, .ref (Z.1 2 (c))), (2, .ref (Z.1 0 (a))), (3, .int (x))] := hl
  refine lv_aload_n hM.1 hM.2.1 dX7_beginAct_0 rfl (lv_at hl 0 rfl) ?_
  refine z_get hM hW zc7 hV.d7 rfl 7 (by decide) lf_X7_91 (v := .int (gi S 7 (0) (7))) rfl dX7_beginAct_1 ?_
  refine lv_aload_n hM.1 hM.2.1 dX7_beginAct_4 rfl (lv_at hl 0 rfl) ?_
  refine z_getr hM hW zc7 hV.d7 rfl 3 (by decide) lf_X7_58 (t := 12) (j := 0) rfl hV.r73 dX7_beginAct_5 (fun hd1_5 => ?_)
  refine z_alen hM hW hd1_5 (by decide) rfl 3 rfl (v := 200) (by rw [hV.l12]; rfl) dX7_beginAct_8 ?_
  refine lv_icmp_lt hM.1 hM.2.1 dX7_beginAct_9 (tgt := 14) (by decide) (fun _ => ?_) (fun h => absurd (by rw [hac]; exact nI_lt (a := a) (b := 200) ha2 (by decide)) h)
  refine lv_aload_n hM.1 hM.2.1 dX7_beginAct_14 rfl (lv_at hl 0 rfl) ?_
  refine z_getr hM hW zc7 hV.d7 rfl 3 (by decide) lf_X7_58 (t := 12) (j := 0) rfl hV.r73 dX7_beginAct_15 (fun hd2_15 => ?_)
  refine lv_aload_n hM.1 hM.2.1 dX7_beginAct_18 rfl (lv_at hl 0 rfl) ?_
  refine z_get hM hW zc7 hV.d7 rfl 7 (by decide) lf_X7_91 (v := .int (gi S 7 (0) (7))) rfl dX7_beginAct_19 ?_
  refine lv_aload_n hM.1 hM.2.1 dX7_beginAct_22 rfl (lv_at hl 2 rfl) ?_
  refine z_aast hM hW hS hd2_15 (by decide) rfl 3 rfl (t := 0) (q := a) (fun _ => rfl) zc0 ha rfl (by rw [hac, hV.l12]; exact nI_in ha2 (by decide)) dX7_beginAct_23 (fun H locs hW hS => ?_)
  refine lv_aload_n hM.1 hM.2.1 dX7_beginAct_24 rfl (lv_at hl 0 rfl) ?_
  refine lv_dup hM.1 hM.2.1 dX7_beginAct_25 rfl ?_
  refine z_get hM hW zc7 hV.d7 rfl 7 (by decide) lf_X7_91 (v := .int (gi S 7 (0) (7))) rfl dX7_beginAct_26 ?_
  refine lv_iconst (v := 1) hM.1 hM.2.1 dX7_beginAct_29 (by decide) ?_
  refine lv_iadd hM.1 hM.2.1 dX7_beginAct_30 ?_
  refine z_puti hM hW hS zc7 hV.d7 rfl 7 (by decide) rfl lf_X7_91 (Or.inl rfl) (tyX7 7) (tyX7_ok 7 (by decide)) rfl rfl dX7_beginAct_31 (fun H locs hW hS => ?_)
  refine lv_aload_n hM.1 hM.2.1 dX7_beginAct_34 rfl (lv_at hl 0 rfl) ?_
  refine lv_dup hM.1 hM.2.1 dX7_beginAct_35 rfl ?_
  refine z_get hM hW zc7 hV.d7 rfl 8 (by decide) lf_X7_113 (v := .int (gi S 7 (0) (8))) rfl dX7_beginAct_36 ?_
  refine lv_iconst (v := 1) hM.1 hM.2.1 dX7_beginAct_39 (by decide) ?_
  refine lv_iadd hM.1 hM.2.1 dX7_beginAct_40 ?_
  refine z_puti hM hW hS zc7 hV.d7 rfl 8 (by decide) rfl lf_X7_113 (Or.inl rfl) (tyX7 8) (tyX7_ok 8 (by decide)) rfl rfl dX7_beginAct_41 (fun H locs hW hS => ?_)
  refine lv_aload_n hM.1 hM.2.1 dX7_beginAct_44 rfl (lv_at hl 2 rfl) ?_
  refine lv_aload_n hM.1 hM.2.1 dX7_beginAct_45 rfl (lv_at hl 0 rfl) ?_
  refine z_get hM hW zc7 hV.d7 rfl 8 (by decide) lf_X7_113 (v := .int ((gi S 7 (0) (8)) + (1))) rfl dX7_beginAct_46 ?_
  refine z_puti hM hW hS zc0 ha rfl 3 (by decide) rfl lf_X7_218 (Or.inl rfl) (tyX0 3) (tyX0_ok 3 (by decide)) rfl rfl dX7_beginAct_49 (fun H locs hW hS => ?_)
  refine lv_aload_n hM.1 hM.2.1 dX7_beginAct_52 rfl (lv_at hl 1 rfl) ?_
  refine lv_aload_n hM.1 hM.2.1 dX7_beginAct_53 rfl (lv_at hl 2 rfl) ?_
  refine z_putr hM hW hS zc2 (hV.d2 hc) rfl 2 (by decide) (t := 0) (j := a) rfl ha lf_X7_105 (Or.inl rfl) (tyX2 2) (tyX2_ok 2 (by decide)) (fun _ => rfl) (fun _ => rfl) dX7_beginAct_54 (fun H locs hW hS => ?_)
  refine lv_aload_n hM.1 hM.2.1 dX7_beginAct_57 rfl (lv_at hl 1 rfl) ?_
  refine lv_iconst (v := 0) hM.1 hM.2.1 dX7_beginAct_58 (by decide) ?_
  refine z_puti hM hW hS zc2 (hV.d2 hc) rfl 4 (by decide) rfl lf_X7_246 (Or.inl rfl) (tyX2 4) (tyX2_ok 4 (by decide)) rfl rfl dX7_beginAct_59 (fun H locs hW hS => ?_)
  refine lv_aload_n hM.1 hM.2.1 dX7_beginAct_62 rfl (lv_at hl 1 rfl) ?_
  refine z_getr hM hW zc2 (hV.d2 hc) rfl 1 (by decide) lf_X7_247 (t := 6) (j := 10 + c) rfl (hV.r2 hc) dX7_beginAct_63 (fun hd3_63 => ?_)
  refine lv_iconst (v := 0) hM.1 hM.2.1 dX7_beginAct_66 (by decide) ?_
  refine lv_iconst (v := 0) hM.1 hM.2.1 dX7_beginAct_67 (by decide) ?_
  refine lv_lconst (v := 0) hM.1 hM.2.1 dX7_beginAct_68 (by decide) ?_
  refine z_Vv hM (hml.trans hl.1.symm) hW hS hlo zc6 hd3_63 rfl zyX6_put lm_X7_248 li_yX6_put le_yX6_put (As := [.int (0), .int (0), .long (0)]) (rest := []) (c_X6_put hd3_63) rfl rfl (Nat.le_of_ble_eq_true rfl) ⟨Nat.le_of_ble_eq_true rfl, Nat.le_of_ble_eq_true rfl⟩ ⟨Nat.le_of_ble_eq_true rfl, Nat.le_of_ble_eq_true rfl⟩ dX7_beginAct_69 (fun H locs hW hS => ?_)
  obtain ⟨B1, hB1⟩ : ∃ B, B = (s_X6_put (si (sr (si (si (si (sr S 12 (0) (ix (gi S 7 (0) (7))) (some (a))) 7 (0) (7) ((gi S 7 (0) (7)) + (1))) 7 (0) (8) ((gi S 7 (0) (8)) + (1))) 0 (a) (3) ((gi S 7 (0) (8)) + (1))) 2 (c) (2) (some (a))) 2 (c) (4) (0)) (10 + c) (0) (0) (0)) := ⟨_, rfl⟩
  rw [← hB1] at hW
  refine lv_aload_n hM.1 hM.2.1 dX7_beginAct_72 rfl (lv_at hl 0 rfl) ?_
  refine lv_aload_n hM.1 hM.2.1 dX7_beginAct_73 rfl (lv_at hl 1 rfl) ?_
  refine lv_aload_n hM.1 hM.2.1 dX7_beginAct_74 rfl (lv_at hl 2 rfl) ?_
  refine lv_iload_n hM.1 hM.2.1 dX7_beginAct_75 rfl (lv_at hl 3 rfl) ?_
  refine z_Vv hM (hml.trans hl.1.symm) hW hS hlo zc7 hV.d7 rfl zyX7_beginPhase lm_X7_252 li_yX7_beginPhase le_yX7_beginPhase (As := [.ref (Z.1 2 (c)), .ref (Z.1 0 (a)), .int (x)]) (rest := []) (c_X7_beginPhase (by rw [hB1]; exact (by show zV n Z (up3 (up3 S.2.2 12 0 (ix (gi S 7 0 7)) (some a)) 2 c 2 (some a)); rw [hac, ix_nI (by omega)]; exact hV.begin hc ha ha2)) hc ha (by rw [hB1]; exact hc0)) rfl rfl (Nat.le_of_ble_eq_true rfl) ⟨Nat.le_of_ble_eq_true rfl, Nat.le_of_ble_eq_true rfl⟩ ⟨Nat.le_of_ble_eq_true rfl, Nat.le_of_ble_eq_true rfl⟩ dX7_beginAct_76 (fun H locs hW hS => ?_)
  obtain ⟨B2, hB2⟩ : ∃ B, B = (s_X7_beginPhase B1 n (c) (a) (x)) := ⟨_, rfl⟩
  rw [← hB2] at hW
  refine lv_aload_n hM.1 hM.2.1 dX7_beginAct_79 rfl (lv_at hl 2 rfl) ?_
  refine z_get hM hW zc0 ha rfl 0 (by decide) lf_X7_119 (v := .int (gi B2 0 (a) (0))) rfl dX7_beginAct_80 ?_
  exact z_iret hM hlk hr rfl hW hS (zF.of (by subst hB2; subst hB1; unfold r_X7_beginAct; rfl) (by subst hB2; subst hB1; unfold s_X7_beginAct; rfl)) dX7_beginAct_83
