theorem put_gi {S : zS} {cn : Nat} {x1 x2 x3 x4 x5 x6 x7 x8 : Int32} {v : Int64} {x9 x10 x11 : Int32} (hcn : gi S 8 0 44 = nI cn) (hcm : cn ≤ 300) :
    (∀ f, f ≠ 31 → f ≠ 44 → gi (s_X8_put S cn x1 x2 x3 x4 x5 x6 x7 x8 v x9 x10 x11) 8 0 f = gi S 8 0 f) ∧ (∀ i f, i < 133 → gi (s_X8_put S cn x1 x2 x3 x4 x5 x6 x7 x8 v x9 x10 x11) 9 i f = gi S 9 i f) ∧ (∃ c2, c2 ≤ 300 ∧ gi (s_X8_put S cn x1 x2 x3 x4 x5 x6 x7 x8 v x9 x10 x11) 8 0 44 = nI c2) ∧ (∀ f, gi (s_X8_put S cn x1 x2 x3 x4 x5 x6 x7 x8 v x9 x10 x11) 11 107 f = gi S 11 107 f) := by
  unfold s_X8_put
  by_cases h : (nI cn) = (300)
  · rw [pif_pos h]
    refine ⟨fun f h1 h2 => ?_, fun i f h1 => ?_, ⟨cn, hcm, ?_⟩, fun f => ?_⟩
    · rw [gi_si, if_neg (by omega)]
    · rw [gi_si, if_neg (by omega)]
    · rw [gi_si, if_neg (by omega), hcn]
    · rw [gi_si, if_neg (by omega)]
  · rw [pif_neg h]
    have := mput h hcm
    refine ⟨fun f h1 h2 => ?_, fun i f h1 => ?_, ⟨cn + 1, by omega, ?_⟩, fun f => ?_⟩
    · simp only [gi_si, gi_sj]
      simp [h1, h2]
    · simp only [gi_si, gi_sj]
      have e : ∀ m, 133 ≤ m → ¬ i = m := fun m hm => by omega
      simp [e]
    · rw [gi_si, if_pos ⟨rfl, rfl, rfl⟩]
    · simp only [gi_si, gi_sj]
      simp
/-- ask is one put -/
theorem ask_put {S : zS} {cn : Nat} {x y : Int32} : ∃ (x4 x5 x6 x7 x8 : Int32) (v : Int64) (x9 : Int32), s_X8_ask S cn x y = s_X8_put S cn 0 y x x4 x5 x6 x7 x8 v x9 0 0 := by
  unfold s_X8_ask
  by_cases h1 : (gi S 9 (112) (ix (x))) = (2)
  · rw [pif_pos h1]
    by_cases h2 : (gi S 9 (121) (ix (gi S 9 (111) (ix (x))))) = (1)
    · rw [pif_pos h2]
      exact ⟨_, _, _, _, _, _, _, rfl⟩
    · rw [pif_neg h2]
      exact ⟨_, _, _, _, _, _, _, rfl⟩
  · rw [pif_neg h1]
    by_cases h2 : (gi S 9 (112) (ix (x))) = (4)
    · rw [pif_pos h2]
      exact ⟨_, _, _, _, _, _, _, rfl⟩
    · rw [pif_neg h2]
      by_cases h3 : (gi S 9 (112) (ix (x))) = (3)
      · rw [pif_pos h3]
        exact ⟨_, _, _, _, _, _, _, rfl⟩
      · rw [pif_neg h3]
        by_cases h4 : (gi S 9 (112) (ix (x))) = (5)
        · rw [pif_pos h4]
          exact ⟨_, _, _, _, _, _, _, rfl⟩
        · rw [pif_neg h4]
          exact ⟨_, _, _, _, _, _, _, rfl⟩
theorem ask_gi {S : zS} {cn : Nat} {x y : Int32} (hcn : gi S 8 0 44 = nI cn) (hcm : cn ≤ 300) :
    (∀ f, f ≠ 31 → f ≠ 44 → gi (s_X8_ask S cn x y) 8 0 f = gi S 8 0 f) ∧ (∀ i f, i < 133 → gi (s_X8_ask S cn x y) 9 i f = gi S 9 i f) ∧ (∃ c2, c2 ≤ 300 ∧ gi (s_X8_ask S cn x y) 8 0 44 = nI c2) ∧ (∀ f, gi (s_X8_ask S cn x y) 11 107 f = gi S 11 107 f) := by
  obtain ⟨x4, x5, x6, x7, x8, v, x9, e⟩ := @ask_put S cn x y
  rw [e]
  exact put_gi hcn hcm
/-- what a method of the reference that sends needs all through -/
def mS (n : Nat) (x : Int32) (S T : zS) : Prop := T.2.2 = S.2.2 ∧ gi T 8 0 0 = nI n ∧ vp_in (gi T 9 111 (ix x)) 201 ∧ gi T 8 0 44 = nI (ix (gi T 8 0 44)) ∧ ix (gi T 8 0 44) ≤ 300
theorem cnI {x : Int32} {c : Nat} (h : c ≤ 300) (e : x = nI c) : x = nI (ix x) ∧ ix x ≤ 300 := by
  rw [e, ix_nI (by omega)]
  exact ⟨rfl, h⟩
theorem mS.ask {n : Nat} {x y : Int32} {S T : zS} (h : mS n x S T) : mS n x S (s_X8_ask T (ix (gi T 8 0 44)) x y) := by
  obtain ⟨h1, h2, h3, h4, h5⟩ := h
  obtain ⟨g1, g2, ⟨c2, g3, g4⟩, -⟩ := ask_gi (x := x) (y := y) h4 h5
  have := cnI g3 g4
  exact ⟨k_X8_ask.trans h1, by rw [g1 _ (by decide) (by decide)]; exact h2, by rw [g2 _ _ (by decide)]; exact h3, this.1, this.2⟩
/-- asking from copy k on -/
noncomputable def lAsk (x : Int32) : Nat → Nat → zS → zS
  | 0, _, T => T
  | f + 1, k, T => lAsk x f (k + 1) (s_X8_ask T (ix (gi T 8 0 44)) (x) (nI k))
noncomputable def s_X8_beginPhase (S : zS) (n : Nat) (x y : Int32) : zS := lAsk x n 0 (si (si (si S 9 (112) (ix (x)) (y)) 9 (113) (ix (x)) ((gi S 9 (113) (ix (x))) + (1))) 9 (117) (ix (x)) (0))
theorem lAsk_mS {n : Nat} {x : Int32} {S : zS} : ∀ (f k : Nat) (T : zS), mS n x S T → mS n x S (lAsk x f k T) := by
  intro f
  induction f with
  | zero => intro k T h; exact h
  | succ f ih => intro k T h; exact ih _ _ h.ask
theorem mS0 {n : Nat} {x : Int32} {S : zS} (hn : gi S 8 0 0 = nI n) (hd : vp_in (gi S 9 111 (ix x)) 201) (h4 : gi S 8 0 44 = nI (ix (gi S 8 0 44))) (h5 : ix (gi S 8 0 44) ≤ 300) : mS n x S S := ⟨rfl, hn, hd, h4, h5⟩
theorem k_X8_beginPhase {S : zS} {n : Nat} {x y : Int32} (hn : gi S 8 0 0 = nI n) (hd : vp_in (gi S 9 111 (ix x)) 201) (h4 : gi S 8 0 44 = nI (ix (gi S 8 0 44))) (h5 : ix (gi S 8 0 44) ≤ 300) : mS n x S (s_X8_beginPhase S n x y) := lAsk_mS n 0 _ ⟨rfl, hn, hd, h4, h5⟩
set_option maxHeartbeats 400000 in
set_option maxRecDepth 100000 in
theorem c_X8_beginPhase {l : Launch} {D : va_G} {ar : Nat → ClassId} {A : Nat → Prop} {Z : zZ} {S : zS} {n : Nat} {x y : Int32} (hO : mOK Z S.2.2) (hn : gi S 8 0 0 = nI n) (h7 : n ≤ 7) (hx : vp_in x 4) (hd : vp_in (gi S 9 111 (ix x)) 201) (h44 : gi S 8 0 44 = nI (ix (gi S 8 0 44))) (h45 : ix (gi S 8 0 44) ≤ 300) : zMet l yX8_beginPhase prog_10_method_8_code 4 none ({ frames := 2, cells := 0, slots := 0, locals := 62 } : Room) D ar A Z S [.ref (Z.1 8 (0)), .int (x), .int (y)] rvV (zF () Z (s_X8_beginPhase S n x y)) := by
  refine z_body (by decide +kernel) (Nat.le_of_ble_eq_true rfl) ?_
  intro pX eX sX mX bX methX cX ls hM hr hlk hml hin hl hW hlo
  have hM : zM pX cX mX _ sX prog_10_method_8_code RX8 D ar := hM
  have hS : va_S A sX.heap sX.heap [] := va_S.rf
  have hl : lv_has ls 4 [(0, .ref (Z.1 8 (0))), (1, .int (x)), (2, .int (y))] := hl
  have loop : ∀ (f k : Nat) (T : zS) (ls : Array Slot) (H : Heap) (locs : List Loc), k + f = n → mS n x S T → lAsk x f k T = s_X8_beginPhase S n x y → lv_has ls 4 [(3, .int (nI k)), (0, .ref (Z.1 8 (0))), (1, .int (x)), (2, .int (y))] → zW D ar A Z T H → va_S A sX.heap H locs → W pX l eX ({ frames := 2, cells := 0, slots := 0, locals := 62 } : Room) sX mX ([.ref (Z.1 8 (0)), .int (x), .int (y)] : List Value).toArray bX methX cX H locs 0 0 (MQ bX (zQ D ar A rvV (zF () Z (s_X8_beginPhase S n x y))) ([.ref (Z.1 8 (0)), .int (x), .int (y)] : List Value).toArray sX 0 0 A) (F0 mX 26 ls []) := by
    intro f
    induction f with
    | zero =>
      intro k T ls H locs hk hT hE hl hW hS
      have hc9 : nI n ≤ nI k := by rw [show k = n by omega]; exact Int32.le_refl _
      refine lv_iload_n hM.1 hM.2.1 dX8_beginPhase_26 rfl (lv_at hl 0 rfl) ?_
      refine lv_aload_n hM.1 hM.2.1 dX8_beginPhase_27 rfl (lv_at hl 1 rfl) ?_
      refine z_get hM hW zc8 hO.1 rfl 0 (by decide) lf_X8_129 (v := .int (nI n)) (congrArg Value.int (show gi T 8 (0) (0) = nI n from hT.2.1)) dX8_beginPhase_28 ?_
      refine lv_icmp_ge hM.1 hM.2.1 dX8_beginPhase_31 (tgt := 46) (by decide) (fun _ => ?_) (fun h => absurd hc9 h)
      exact z_vret hM hlk hr hW hS (zF.of rfl hE) dX8_beginPhase_46
    | succ f ih =>
      intro k T ls H locs hk hT hE hl hW hS
      have hc9 : ¬ nI n ≤ nI k := nI_ge (by omega) (by omega)
      refine lv_iload_n hM.1 hM.2.1 dX8_beginPhase_26 rfl (lv_at hl 0 rfl) ?_
      refine lv_aload_n hM.1 hM.2.1 dX8_beginPhase_27 rfl (lv_at hl 1 rfl) ?_
      refine z_get hM hW zc8 hO.1 rfl 0 (by decide) lf_X8_129 (v := .int (nI n)) (congrArg Value.int (show gi T 8 (0) (0) = nI n from hT.2.1)) dX8_beginPhase_28 ?_
      refine lv_icmp_ge hM.1 hM.2.1 dX8_beginPhase_31 (tgt := 46) (by decide) (fun h => absurd h hc9) (fun _ => ?_)
      refine lv_aload_n hM.1 hM.2.1 dX8_beginPhase_34 rfl (lv_at hl 1 rfl) ?_
      refine lv_iload_n hM.1 hM.2.1 dX8_beginPhase_35 rfl (lv_at hl 2 rfl) ?_
      refine lv_iload_n hM.1 hM.2.1 dX8_beginPhase_36 rfl (lv_at hl 0 rfl) ?_
      refine z_Vv hM (hml.trans hl.1.symm) hW hS hlo zc8 hO.1 rfl zyX8_ask lm_X8_150 li_yX8_ask le_yX8_ask (As := [.int (x), .int (nI k)]) (rest := []) (c_X8_ask (hO.of hT.1) hT.2.2.2.1 hT.2.2.2.2 hx hT.2.2.1) rfl rfl (Nat.le_of_ble_eq_true rfl) ⟨Nat.le_of_ble_eq_true rfl, Nat.le_of_ble_eq_true rfl⟩ ⟨Nat.le_of_ble_eq_true rfl, Nat.le_of_ble_eq_true rfl⟩ dX8_beginPhase_37 (fun H locs hW hS => ?_)
      refine lv_iinc hM.1 hM.2.1 dX8_beginPhase_40 hl (k := 0) rfl (v := nI (k + 1)) (nI_succ _).symm (by decide) (lv' := [(3, .int (nI (k + 1))), (0, .ref (Z.1 8 (0))), (1, .int (x)), (2, .int (y))]) rfl (fun ls hl => ?_)
      refine lv_goto hM.1 hM.2.1 dX8_beginPhase_43 (tgt := 26) (by decide) ?_
      exact ih (k + 1) _ ls H locs (by omega) hT.ask hE (lv_sub hl [0, 1, 2, 3] rfl) hW hS
  refine lv_aload_n hM.1 hM.2.1 dX8_beginPhase_0 rfl (lv_at hl 0 rfl) ?_
  refine z_getr hM hW zc8 hO.1 rfl 12 (by decide) lf_X8_42 (t := 9) (j := 112) rfl (hO.r 12 (by decide) (by decide)) dX8_beginPhase_1 (fun hd1_1 => ?_)
  refine lv_iload_n hM.1 hM.2.1 dX8_beginPhase_4 rfl (lv_at hl 1 rfl) ?_
  refine lv_iload_n hM.1 hM.2.1 dX8_beginPhase_5 rfl (lv_at hl 2 rfl) ?_
  refine z_iast hM hW hS hd1_1 rfl (vin_L (hO.l 12 (by decide) (by decide)) hx) dX8_beginPhase_6 (fun H locs hW hS => ?_)
  refine lv_aload_n hM.1 hM.2.1 dX8_beginPhase_7 rfl (lv_at hl 0 rfl) ?_
  refine z_getr hM hW zc8 hO.1 rfl 13 (by decide) lf_X8_45 (t := 9) (j := 113) rfl (hO.r 13 (by decide) (by decide)) dX8_beginPhase_8 (fun hd2_8 => ?_)
  refine lv_iload_n hM.1 hM.2.1 dX8_beginPhase_11 rfl (lv_at hl 1 rfl) ?_
  refine lv_dup2_11 hM.1 hM.2.1 dX8_beginPhase_12 rfl rfl ?_
  refine z_iald hM hW hd2_8 rfl (vin_L (hO.l 13 (by decide) (by decide)) hx) (v := gi S 9 (113) (ix (x))) rfl dX8_beginPhase_13 ?_
  refine lv_iconst (v := 1) hM.1 hM.2.1 dX8_beginPhase_14 (by decide) ?_
  refine lv_iadd hM.1 hM.2.1 dX8_beginPhase_15 ?_
  refine z_iast hM hW hS hd2_8 rfl (vin_L (hO.l 13 (by decide) (by decide)) hx) dX8_beginPhase_16 (fun H locs hW hS => ?_)
  refine lv_aload_n hM.1 hM.2.1 dX8_beginPhase_17 rfl (lv_at hl 0 rfl) ?_
  refine z_getr hM hW zc8 hO.1 rfl 17 (by decide) lf_X8_57 (t := 9) (j := 117) rfl (hO.r 17 (by decide) (by decide)) dX8_beginPhase_18 (fun hd3_18 => ?_)
  refine lv_iload_n hM.1 hM.2.1 dX8_beginPhase_21 rfl (lv_at hl 1 rfl) ?_
  refine lv_iconst (v := 0) hM.1 hM.2.1 dX8_beginPhase_22 (by decide) ?_
  refine z_iast hM hW hS hd3_18 rfl (vin_L (hO.l 17 (by decide) (by decide)) hx) dX8_beginPhase_23 (fun H locs hW hS => ?_)
  refine lv_iconst (v := 0) hM.1 hM.2.1 dX8_beginPhase_24 (by decide) ?_
  refine lv_istore_n hM.1 hM.2.1 dX8_beginPhase_25 rfl hl (by decide) (lv' := [(3, .int (0)), (0, .ref (Z.1 8 (0))), (1, .int (x)), (2, .int (y))]) rfl (fun ls hl => ?_)
  exact loop n 0 (si (si (si S 9 (112) (ix (x)) (y)) 9 (113) (ix (x)) ((gi S 9 (113) (ix (x))) + (1))) 9 (117) (ix (x)) (0)) ls _ _ (by omega) ⟨rfl, hn, hd, h44, h45⟩ rfl (lv_sub hl [0, 1, 2, 3] rfl) hW hS
