theorem pif_same {α : Sort _} {b : Prop} {x : α} : pif b x x = x := (Classical.em b).elim (fun h => pif_pos h) (fun h => pif_neg h)
theorem pif_22 {b : Prop} {x y : zS} : (pif b x y).2.2 = pif b x.2.2 y.2.2 := (Classical.em b).elim (fun h => by rw [pif_pos h, pif_pos h]) (fun h => by rw [pif_neg h, pif_neg h])
theorem oel_22 {α : Type} {o : Option α} {x : zS} {g : α → zS} : (oel o x g).2.2 = oel o x.2.2 (fun q => (g q).2.2) := by cases o <;> rfl
theorem oel_same {α β : Type} {o : Option α} {x : β} : oel o x (fun _ => x) = x := by cases o <;> rfl
theorem k_si {S : zS} {k i f : Nat} {v : Int32} : (si S k i f v).2.2 = S.2.2 := rfl
theorem k_sj {S : zS} {k i f : Nat} {v : Int64} : (sj S k i f v).2.2 = S.2.2 := rfl
theorem k_X6_set {S : zS} {i j : Nat} : (s_X6_set S i j).2.2 = S.2.2 := rfl
theorem k_X6_put {S : zS} {i : Nat} {x y : Int32} {v : Int64} : (s_X6_put S i x y v).2.2 = S.2.2 := rfl
theorem k_X0_showTag {S : zS} {a i : Nat} : (s_X0_showTag S a i).2.2 = S.2.2 := rfl
theorem k_X4_repeat {S : zS} {j q : Nat} : (s_X4_repeat S j q).2.2 = S.2.2 := rfl
theorem pif_2 {b : Prop} {x y : zS} {r : zR} (hx : x.2.2 = r) (hy : y.2.2 = r) : (pif b x y).2.2 = r := (Classical.em b).elim (fun h => by rw [pif_pos h]; exact hx) (fun h => by rw [pif_neg h]; exact hy)
theorem oel_2 {α : Type} {o : Option α} {x : zS} {g : α → zS} {r : zR} (hx : x.2.2 = r) (hy : ∀ q, (g q).2.2 = r) : (oel o x g).2.2 = r := by cases o with | none => exact hx | some q => exact hy q
theorem gi_pif {b : Prop} {x y : zS} {k i f : Nat} : gi (pif b x y) k i f = pif b (gi x k i f) (gi y k i f) := (Classical.em b).elim (fun h => by rw [pif_pos h, pif_pos h]) (fun h => by rw [pif_neg h, pif_neg h])
theorem gj_pif {b : Prop} {x y : zS} {k i f : Nat} : gj (pif b x y) k i f = pif b (gj x k i f) (gj y k i f) := (Classical.em b).elim (fun h => by rw [pif_pos h, pif_pos h]) (fun h => by rw [pif_neg h, pif_neg h])
theorem gr_pif {b : Prop} {x y : zS} {k i f : Nat} : gr (pif b x y) k i f = pif b (gr x k i f) (gr y k i f) := (Classical.em b).elim (fun h => by rw [pif_pos h, pif_pos h]) (fun h => by rw [pif_neg h, pif_neg h])
theorem r_next_pos {S : zS} {pm : Nat → Nat} (h : gi S 1 0 2 < 300) : r_X1_next S pm = some (pm (ix (gi S 1 0 2))) := by unfold r_X1_next; rw [pif_pos h]
theorem r_next_neg {S : zS} {pm : Nat → Nat} (h : ¬ gi S 1 0 2 < 300) : r_X1_next S pm = none := by unfold r_X1_next; rw [pif_neg h]
theorem s_next_pos {S : zS} {pm : Nat → Nat} (h : gi S 1 0 2 < 300) : s_X1_next S pm = si S 1 0 2 (gi S 1 0 2 + 1) := by unfold s_X1_next; rw [pif_pos h]
theorem s_next_neg {S : zS} {pm : Nat → Nat} (h : ¬ gi S 1 0 2 < 300) : s_X1_next S pm = si S 1 0 3 (gi S 1 0 3 + 1) := by unfold s_X1_next; rw [pif_neg h]
theorem next_lt {x : Int32} (h0 : ¬ x < 0) (h : x < 300) : ix x < 300 := vin_lt (vin_of2 h0 (N := 300) h (by decide) rfl) rfl
theorem inc300 {x : Int32} (h0 : ¬ x < 0) (h : x < 300) : ¬ x + 1 < 0 := by
  have e1 : (1 : Int32).toInt = 1 := rfl
  have e3 : (300 : Int32).toInt = 300 := rfl
  rw [Int32.lt_iff_toInt_lt, Int32.toInt_zero] at h0
  rw [Int32.lt_iff_toInt_lt, e3] at h
  rw [Int32.lt_iff_toInt_lt, Int32.toInt_zero, Int32.toInt_add, e1, Int.bmod_eq_of_le (by omega) (by omega)]
  omega
/-- the votes of those whose bits are set, from k on -/
noncomputable def lSum (S : zS) (q : Nat) (b : Int32) : Nat → Nat → Int32 → Int32
  | 0, _, r => r
  | f + 1, k, r => pif (((b) >>> ((nI k) &&& (31))) &&& (1) = (1)) (lSum S q b f (k + 1) (r + gi S 9 q (ix (nI k)))) (lSum S q b f (k + 1) r)
set_option maxHeartbeats 400000 in
set_option maxRecDepth 100000 in
theorem c_X5_sum {l : Launch} {D : va_G} {ar : Nat → ClassId} {A : Nat → Prop} {Z : zZ} {S : zS} {n q : Nat} {b : Int32} (hq : Z.2.1 9 q) (hz : Z.2.2 9 q = n) (hn : n ≤ 7) : zMet l yX5_sum prog_7_method_3_code 4 (some .int) ({ frames := 0, cells := 0, slots := 0, locals := 0 } : Room) D ar A Z S [.ref (Z.1 9 (q)), .int (b)] rvI (zF (lSum S q b n 0 0) Z S) := by
  refine z_body (by decide +kernel) (Nat.le_of_ble_eq_true rfl) ?_
  intro pX eX sX mX bX methX cX ls hM hr hlk hml hin hl hW hlo
  have hM : zM pX cX mX _ sX prog_7_method_3_code RX5 D ar := hM
  have hS : va_S A sX.heap sX.heap [] := va_S.rf
  have hl : lv_has ls 4 [(0, .ref (Z.1 9 (q))), (1, .int (b))] := hl
  have loop : ∀ (f k : Nat) (r : Int32) (ls : Array Slot) (H : Heap) (locs : List Loc), k + f = n → lSum S q b f k r = lSum S q b n 0 0 → lv_has ls 4 [(3, .int (nI k)), (2, .int (r)), (0, .ref (Z.1 9 (q))), (1, .int (b))] → zW D ar A Z S H → va_S A sX.heap H locs → W pX l eX ({ frames := 0, cells := 0, slots := 0, locals := 0 } : Room) sX mX ([.ref (Z.1 9 (q)), .int (b)] : List Value).toArray bX methX cX H locs 0 0 (MQ bX (zQ D ar A rvI (zF (lSum S q b n 0 0) Z S)) ([.ref (Z.1 9 (q)), .int (b)] : List Value).toArray sX 0 0 A) (F0 mX 4 ls []) := by
    intro f
    induction f with
    | zero =>
      intro k r ls H locs hk hE hl hW hS
      have hc : nI n ≤ nI k := by rw [show k = n by omega]; exact Int32.le_refl _
      refine lv_iload_n hM.1 hM.2.1 dX5_sum_4 rfl (lv_at hl 0 rfl) ?_
      refine lv_aload_n hM.1 hM.2.1 dX5_sum_5 rfl (lv_at hl 2 rfl) ?_
      refine z_alen hM hW hq (by decide) rfl 0 rfl (v := nI n) (by rw [hz]; rfl) dX5_sum_6 ?_
      refine lv_icmp_ge hM.1 hM.2.1 dX5_sum_7 (tgt := 31) (by decide) (fun _ => ?_) (fun h => absurd hc h)
      refine lv_iload_n hM.1 hM.2.1 dX5_sum_31 rfl (lv_at hl 1 rfl) ?_
      exact z_iret hM hlk hr rfl hW hS (zF.of hE rfl) dX5_sum_32
    | succ f ih =>
      intro k r ls H locs hk hE hl hW hS
      have hc : ¬ nI n ≤ nI k := nI_ge (by omega) (by omega)
      refine lv_iload_n hM.1 hM.2.1 dX5_sum_4 rfl (lv_at hl 0 rfl) ?_
      refine lv_aload_n hM.1 hM.2.1 dX5_sum_5 rfl (lv_at hl 2 rfl) ?_
      refine z_alen hM hW hq (by decide) rfl 0 rfl (v := nI n) (by rw [hz]; rfl) dX5_sum_6 ?_
      refine lv_icmp_ge hM.1 hM.2.1 dX5_sum_7 (tgt := 31) (by decide) (fun h => absurd h hc) (fun _ => ?_)
      refine lv_iload_n hM.1 hM.2.1 dX5_sum_10 rfl (lv_at hl 3 rfl) ?_
      refine lv_iload_n hM.1 hM.2.1 dX5_sum_11 rfl (lv_at hl 0 rfl) ?_
      refine lv_ishr hM.1 hM.2.1 dX5_sum_12 ?_
      refine lv_iconst (v := 1) hM.1 hM.2.1 dX5_sum_13 (by decide) ?_
      refine lv_iand hM.1 hM.2.1 dX5_sum_14 ?_
      refine lv_iconst (v := 1) hM.1 hM.2.1 dX5_sum_15 (by decide) ?_
      refine lv_icmp_ne hM.1 hM.2.1 dX5_sum_16 (tgt := 25) (by decide) (fun h_16 => ?_) (fun h_16 => ?_)
      ·
        refine lv_iinc hM.1 hM.2.1 dX5_sum_25 hl (k := 0) rfl (v := nI (k + 1)) (nI_succ _).symm (by decide) (lv' := [(3, .int (nI (k + 1))), (2, .int (r)), (0, .ref (Z.1 9 (q))), (1, .int (b))]) rfl (fun ls hl => ?_)
        refine lv_goto hM.1 hM.2.1 dX5_sum_28 (tgt := 4) (by decide) ?_
        exact ih (k + 1) _ ls H locs (by omega) (by rw [show lSum S q b (f + 1) k r = pif _ _ _ from rfl, pif_neg h_16] at hE; exact hE) hl hW hS
      ·
        refine lv_iload_n hM.1 hM.2.1 dX5_sum_19 rfl (lv_at hl 1 rfl) ?_
        refine lv_aload_n hM.1 hM.2.1 dX5_sum_20 rfl (lv_at hl 2 rfl) ?_
        refine lv_iload_n hM.1 hM.2.1 dX5_sum_21 rfl (lv_at hl 0 rfl) ?_
        refine z_iald hM hW hq rfl (by rw [hz]; exact nI_in (by omega) (by omega)) (v := gi S 9 (q) (ix (nI k))) rfl dX5_sum_22 ?_
        refine lv_iadd hM.1 hM.2.1 dX5_sum_23 ?_
        refine lv_istore_n hM.1 hM.2.1 dX5_sum_24 rfl hl (by decide) (lv' := [(2, .int ((r) + (gi S 9 (q) (ix (nI k))))), (3, .int (nI k)), (0, .ref (Z.1 9 (q))), (1, .int (b))]) rfl (fun ls hl => ?_)
        refine lv_iinc hM.1 hM.2.1 dX5_sum_25 hl (k := 1) rfl (v := nI (k + 1)) (nI_succ _).symm (by decide) (lv' := [(3, .int (nI (k + 1))), (2, .int ((r) + (gi S 9 (q) (ix (nI k))))), (0, .ref (Z.1 9 (q))), (1, .int (b))]) rfl (fun ls hl => ?_)
        refine lv_goto hM.1 hM.2.1 dX5_sum_28 (tgt := 4) (by decide) ?_
        exact ih (k + 1) _ ls H locs (by omega) (by rw [show lSum S q b (f + 1) k r = pif _ _ _ from rfl, pif_pos h_16] at hE; exact hE) hl hW hS
  refine lv_iconst (v := 0) hM.1 hM.2.1 dX5_sum_0 (by decide) ?_
  refine lv_istore_n hM.1 hM.2.1 dX5_sum_1 rfl hl (by decide) (lv' := [(2, .int (0)), (0, .ref (Z.1 9 (q))), (1, .int (b))]) rfl (fun ls hl => ?_)
  refine lv_iconst (v := 0) hM.1 hM.2.1 dX5_sum_2 (by decide) ?_
  refine lv_istore_n hM.1 hM.2.1 dX5_sum_3 rfl hl (by decide) (lv' := [(3, .int (0)), (2, .int (0)), (0, .ref (Z.1 9 (q))), (1, .int (b))]) rfl (fun ls hl => ?_)
  exact loop n 0 0 ls _ _ (by omega) rfl hl hW hS

noncomputable def r_X5_canBe (S : zS) (n q : Nat) (x y : Int32) : Int32 := 
  (pif ((x) < (1)) (0) 
    (pif ((y) < (1)) (0) 
      (pif ((lSum S (q) ((-1)) n 0 0) < (x)) (0) 
        (pif ((lSum S (q) ((-1)) n 0 0) < (y)) (0) 
          (pif (((x) + (y)) ≤ (lSum S (q) ((-1)) n 0 0)) (0) 
            (pif (((2) * (y)) ≤ (lSum S (q) ((-1)) n 0 0)) (0) (1)))))))
set_option maxHeartbeats 400000 in
set_option maxRecDepth 100000 in
theorem c_X5_canBe {l : Launch} {D : va_G} {ar : Nat → ClassId} {A : Nat → Prop} {Z : zZ} {S : zS} {n q : Nat} {x y : Int32} (hq : Z.2.1 9 q) (hz : Z.2.2 9 q = n) (hn : n ≤ 7) : zMet l yX5_canBe prog_7_method_2_code 4 (some .boolean) ({ frames := 1, cells := 0, slots := 0, locals := 23 } : Room) D ar A Z S [.ref (Z.1 9 (q)), .int (x), .int (y)] rvI (zF (r_X5_canBe S n q x y) Z S) := by
  refine z_body (by decide +kernel) (Nat.le_of_ble_eq_true rfl) ?_
  intro pX eX sX mX bX methX cX ls hM hr hlk hml hin hl hW hlo
  have hM : zM pX cX mX _ sX prog_7_method_2_code RX5 D ar := hM
  have hS : va_S A sX.heap sX.heap [] := va_S.rf
  have hl : lv_has ls 4 [(0, .ref (Z.1 9 (q))), (1, .int (x)), (2, .int (y))] := hl
  refine lv_aload_n hM.1 hM.2.1 dX5_canBe_0 rfl (lv_at hl 0 rfl) ?_
  refine lv_iconst (v := (-1)) hM.1 hM.2.1 dX5_canBe_1 (by decide) ?_
  refine z_Si hM (hml.trans hl.1.symm) hW hS hlo zyX5_sum lm_X5_20 ls_yX5_sum (As := [.ref (Z.1 9 (q)), .int ((-1))]) (rest := []) (c_X5_sum (n := n) hq hz hn) rfl rfl (Nat.le_of_ble_eq_true rfl) ⟨Nat.le_of_ble_eq_true rfl, Nat.le_of_ble_eq_true rfl⟩ ⟨Nat.le_of_ble_eq_true rfl, Nat.le_of_ble_eq_true rfl⟩ dX5_canBe_2 (fun H locs hW hS => ?_)
  refine lv_istore_n hM.1 hM.2.1 dX5_canBe_5 rfl hl (by decide) (lv' := [(3, .int (lSum S (q) ((-1)) n 0 0)), (0, .ref (Z.1 9 (q))), (1, .int (x)), (2, .int (y))]) rfl (fun ls hl => ?_)
  refine lv_iload_n hM.1 hM.2.1 dX5_canBe_6 rfl (lv_at hl 2 rfl) ?_
  refine lv_iconst (v := 1) hM.1 hM.2.1 dX5_canBe_7 (by decide) ?_
  refine lv_icmp_lt hM.1 hM.2.1 dX5_canBe_8 (tgt := 44) (by decide) (fun h_8 => ?_) (fun h_8 => ?_)
  ·
    refine lv_iconst (v := 0) hM.1 hM.2.1 dX5_canBe_44 (by decide) ?_
    exact z_iret hM hlk hr rfl hW hS (zF.of (by unfold r_X5_canBe; rw [pif_pos h_8]; first | done | rfl) rfl) dX5_canBe_45
  ·
    refine lv_iload_n hM.1 hM.2.1 dX5_canBe_11 rfl (lv_at hl 3 rfl) ?_
    refine lv_iconst (v := 1) hM.1 hM.2.1 dX5_canBe_12 (by decide) ?_
    refine lv_icmp_lt hM.1 hM.2.1 dX5_canBe_13 (tgt := 44) (by decide) (fun h_13 => ?_) (fun h_13 => ?_)
    ·
      refine lv_iconst (v := 0) hM.1 hM.2.1 dX5_canBe_44 (by decide) ?_
      exact z_iret hM hlk hr rfl hW hS (zF.of (by unfold r_X5_canBe; rw [pif_neg h_8, pif_pos h_13]; first | done | rfl) rfl) dX5_canBe_45
    ·
      refine lv_iload_n hM.1 hM.2.1 dX5_canBe_16 rfl (lv_at hl 2 rfl) ?_
      refine lv_iload_n hM.1 hM.2.1 dX5_canBe_17 rfl (lv_at hl 0 rfl) ?_
      refine lv_icmp_gt hM.1 hM.2.1 dX5_canBe_18 (tgt := 44) (by decide) (fun h_18 => ?_) (fun h_18 => ?_)
      ·
        refine lv_iconst (v := 0) hM.1 hM.2.1 dX5_canBe_44 (by decide) ?_
        exact z_iret hM hlk hr rfl hW hS (zF.of (by unfold r_X5_canBe; rw [pif_neg h_8, pif_neg h_13, pif_pos h_18]; first | done | rfl) rfl) dX5_canBe_45
      ·
        refine lv_iload_n hM.1 hM.2.1 dX5_canBe_21 rfl (lv_at hl 3 rfl) ?_
        refine lv_iload_n hM.1 hM.2.1 dX5_canBe_22 rfl (lv_at hl 0 rfl) ?_
        refine lv_icmp_gt hM.1 hM.2.1 dX5_canBe_23 (tgt := 44) (by decide) (fun h_23 => ?_) (fun h_23 => ?_)
        ·
          refine lv_iconst (v := 0) hM.1 hM.2.1 dX5_canBe_44 (by decide) ?_
          exact z_iret hM hlk hr rfl hW hS (zF.of (by unfold r_X5_canBe; rw [pif_neg h_8, pif_neg h_13, pif_neg h_18, pif_pos h_23]; first | done | rfl) rfl) dX5_canBe_45
        ·
          refine lv_iload_n hM.1 hM.2.1 dX5_canBe_26 rfl (lv_at hl 2 rfl) ?_
          refine lv_iload_n hM.1 hM.2.1 dX5_canBe_27 rfl (lv_at hl 3 rfl) ?_
          refine lv_iadd hM.1 hM.2.1 dX5_canBe_28 ?_
          refine lv_iload_n hM.1 hM.2.1 dX5_canBe_29 rfl (lv_at hl 0 rfl) ?_
          refine lv_icmp_le hM.1 hM.2.1 dX5_canBe_30 (tgt := 44) (by decide) (fun h_30 => ?_) (fun h_30 => ?_)
          ·
            refine lv_iconst (v := 0) hM.1 hM.2.1 dX5_canBe_44 (by decide) ?_
            exact z_iret hM hlk hr rfl hW hS (zF.of (by unfold r_X5_canBe; rw [pif_neg h_8, pif_neg h_13, pif_neg h_18, pif_neg h_23, pif_pos h_30]; first | done | rfl) rfl) dX5_canBe_45
          ·
            refine lv_iconst (v := 2) hM.1 hM.2.1 dX5_canBe_33 (by decide) ?_
            refine lv_iload_n hM.1 hM.2.1 dX5_canBe_34 rfl (lv_at hl 3 rfl) ?_
            refine lv_imul hM.1 hM.2.1 dX5_canBe_35 ?_
            refine lv_iload_n hM.1 hM.2.1 dX5_canBe_36 rfl (lv_at hl 0 rfl) ?_
            refine lv_icmp_le hM.1 hM.2.1 dX5_canBe_37 (tgt := 44) (by decide) (fun h_37 => ?_) (fun h_37 => ?_)
            ·
              refine lv_iconst (v := 0) hM.1 hM.2.1 dX5_canBe_44 (by decide) ?_
              exact z_iret hM hlk hr rfl hW hS (zF.of (by unfold r_X5_canBe; rw [pif_neg h_8, pif_neg h_13, pif_neg h_18, pif_neg h_23, pif_neg h_30, pif_pos h_37]; first | done | rfl) rfl) dX5_canBe_45
            ·
              refine lv_iconst (v := 1) hM.1 hM.2.1 dX5_canBe_40 (by decide) ?_
              refine lv_goto hM.1 hM.2.1 dX5_canBe_41 (tgt := 45) (by decide) ?_
              exact z_iret hM hlk hr rfl hW hS (zF.of (by unfold r_X5_canBe; rw [pif_neg h_8, pif_neg h_13, pif_neg h_18, pif_neg h_23, pif_neg h_30, pif_neg h_37]; first | done | rfl) rfl) dX5_canBe_45

noncomputable def s_X7_sendRequest (S : zS) (n : Nat) (c a : Nat) (x : Int32) : zS := 
  (pif ((gi S 1 (0) (2)) < (300)) 
    (pif ((gi S 2 (c) (3)) = (3)) ((s_X6_put (si (si (si (si (si (si (si (si (si S 1 (0) (2) ((gi S 1 (0) (2)) + 1)) 4 (pmR S.2.2 (ix (gi S 1 (0) (2)))) (1) (0)) 4 (pmR S.2.2 (ix (gi S 1 (0) (2)))) (2) (x)) 4 (pmR S.2.2 (ix (gi S 1 (0) (2)))) (3) (gi S 2 (c) (0))) 4 (pmR S.2.2 (ix (gi S 1 (0) (2)))) (4) (gi S 0 (a) (0))) 4 (pmR S.2.2 (ix (gi S 1 (0) (2)))) (5) (gi S 2 (c) (3))) 4 (pmR S.2.2 (ix (gi S 1 (0) (2)))) (6) (gi S 2 (c) (4))) 4 (pmR S.2.2 (ix (gi S 1 (0) (2)))) (7) ((-1))) 4 (pmR S.2.2 (ix (gi S 1 (0) (2)))) (8) (gi S 0 (a) (7))) (20 + (pmR S.2.2 (ix (gi S 1 (0) (2))))) (0) (0) (0))) 
      (pif ((gi S 2 (c) (3)) = (5)) ((s_X6_put (si (si (si (si (si (si (si (si (si S 1 (0) (2) ((gi S 1 (0) (2)) + 1)) 4 (pmR S.2.2 (ix (gi S 1 (0) (2)))) (1) (0)) 4 (pmR S.2.2 (ix (gi S 1 (0) (2)))) (2) (x)) 4 (pmR S.2.2 (ix (gi S 1 (0) (2)))) (3) (gi S 2 (c) (0))) 4 (pmR S.2.2 (ix (gi S 1 (0) (2)))) (4) (gi S 0 (a) (0))) 4 (pmR S.2.2 (ix (gi S 1 (0) (2)))) (5) (gi S 2 (c) (3))) 4 (pmR S.2.2 (ix (gi S 1 (0) (2)))) (6) (gi S 2 (c) (4))) 4 (pmR S.2.2 (ix (gi S 1 (0) (2)))) (7) ((-1))) 4 (pmR S.2.2 (ix (gi S 1 (0) (2)))) (8) (gi S 0 (a) (7))) (20 + (pmR S.2.2 (ix (gi S 1 (0) (2))))) (0) (0) (0))) 
        (pif ((gi S 2 (c) (3)) = (2)) ((s_X6_set (si (si (si (si (si (si (si (si (si S 1 (0) (2) ((gi S 1 (0) (2)) + 1)) 4 (pmR S.2.2 (ix (gi S 1 (0) (2)))) (1) (0)) 4 (pmR S.2.2 (ix (gi S 1 (0) (2)))) (2) (x)) 4 (pmR S.2.2 (ix (gi S 1 (0) (2)))) (3) (gi S 2 (c) (0))) 4 (pmR S.2.2 (ix (gi S 1 (0) (2)))) (4) (gi S 0 (a) (0))) 4 (pmR S.2.2 (ix (gi S 1 (0) (2)))) (5) (gi S 2 (c) (3))) 4 (pmR S.2.2 (ix (gi S 1 (0) (2)))) (6) (gi S 2 (c) (4))) 4 (pmR S.2.2 (ix (gi S 1 (0) (2)))) (7) ((-1))) 4 (pmR S.2.2 (ix (gi S 1 (0) (2)))) (8) ((-1))) (20 + (pmR S.2.2 (ix (gi S 1 (0) (2))))) (10 + c))) 
          (pif ((gi S 2 (c) (3)) = (4)) ((s_X6_set (si (si (si (si (si (si (si (si (si S 1 (0) (2) ((gi S 1 (0) (2)) + 1)) 4 (pmR S.2.2 (ix (gi S 1 (0) (2)))) (1) (0)) 4 (pmR S.2.2 (ix (gi S 1 (0) (2)))) (2) (x)) 4 (pmR S.2.2 (ix (gi S 1 (0) (2)))) (3) (gi S 2 (c) (0))) 4 (pmR S.2.2 (ix (gi S 1 (0) (2)))) (4) (gi S 0 (a) (0))) 4 (pmR S.2.2 (ix (gi S 1 (0) (2)))) (5) (gi S 2 (c) (3))) 4 (pmR S.2.2 (ix (gi S 1 (0) (2)))) (6) (gi S 2 (c) (4))) 4 (pmR S.2.2 (ix (gi S 1 (0) (2)))) (7) ((-1))) 4 (pmR S.2.2 (ix (gi S 1 (0) (2)))) (8) ((-1))) (20 + (pmR S.2.2 (ix (gi S 1 (0) (2))))) (10 + c))) ((s_X6_put (si (si (si (si (si (si (si (si (si S 1 (0) (2) ((gi S 1 (0) (2)) + 1)) 4 (pmR S.2.2 (ix (gi S 1 (0) (2)))) (1) (0)) 4 (pmR S.2.2 (ix (gi S 1 (0) (2)))) (2) (x)) 4 (pmR S.2.2 (ix (gi S 1 (0) (2)))) (3) (gi S 2 (c) (0))) 4 (pmR S.2.2 (ix (gi S 1 (0) (2)))) (4) (gi S 0 (a) (0))) 4 (pmR S.2.2 (ix (gi S 1 (0) (2)))) (5) (gi S 2 (c) (3))) 4 (pmR S.2.2 (ix (gi S 1 (0) (2)))) (6) (gi S 2 (c) (4))) 4 (pmR S.2.2 (ix (gi S 1 (0) (2)))) (7) ((-1))) 4 (pmR S.2.2 (ix (gi S 1 (0) (2)))) (8) ((-1))) (20 + (pmR S.2.2 (ix (gi S 1 (0) (2))))) (0) (0) (0))))))) ((si S 1 (0) (3) ((gi S 1 (0) (3)) + 1))))
theorem k_X7_sendRequest {S : zS} {n : Nat} {c a : Nat} {x : Int32} : (s_X7_sendRequest S n c a x).2.2 = S.2.2 := by unfold s_X7_sendRequest; simp only [pif_22, oel_22, k_si, k_sj, pif_same, oel_same, k_X6_set, k_X6_put, k_X0_showTag, k_X4_repeat]
set_option maxHeartbeats 400000 in
set_option maxRecDepth 100000 in
theorem c_X7_sendRequest {l : Launch} {D : va_G} {ar : Nat → ClassId} {A : Nat → Prop} {Z : zZ} {S : zS} {n : Nat} {c a : Nat} {x : Int32} (hV : zV n Z S.2.2) (hc : c < 4) (ha : Z.2.1 0 a) (hc0 : ¬ gi S 1 0 2 < 0) : zMet l yX7_sendRequest prog_1_method_32_code 6 none ({ frames := 1, cells := 0, slots := 0, locals := 24 } : Room) D ar A Z S [.ref (Z.1 7 (0)), .ref (Z.1 2 (c)), .ref (Z.1 0 (a)), .int (x)] rvV (zF () Z (s_X7_sendRequest S n c a x)) := by
  refine z_body (by decide +kernel) (Nat.le_of_ble_eq_true rfl) ?_
  intro pX eX sX mX bX methX cX ls hM hr hlk hml hin hl hW hlo
  have hM : zM pX cX mX _ sX prog_1_method_32_code RX7 D ar := hM
  have hS : va_S A sX.heap sX.heap [] := va_S.rf
  have hl : lv_has ls 6 [(0, .ref (Z.1 7 (0))), (1, .ref (Z.1 2 (c))), (2, .ref (Z.1 0 (a))), (3, .int (x))] := hl
  refine lv_aload_n hM.1 hM.2.1 dX7_sendRequest_0 rfl (lv_at hl 0 rfl) ?_
  refine z_getr hM hW zc7 hV.d7 rfl 4 (by decide) lf_X7_65 (t := 1) (j := 0) rfl hV.r74 dX7_sendRequest_1 (fun hd1_1 => ?_)
  refine z_Vr hM (hml.trans hl.1.symm) hW hS hlo zc1 hd1_1 rfl zyX1_next lm_X7_154 li_yX1_next le_yX1_next (As := []) (rest := []) (c_X1_next (pm := pmR S.2.2) hV.d1 hV.r10 hV.l15 hV.pm hc0) rfl rfl (Nat.le_of_ble_eq_true rfl) ⟨Nat.le_of_ble_eq_true rfl, Nat.le_of_ble_eq_true rfl⟩ ⟨Nat.le_of_ble_eq_true rfl, Nat.le_of_ble_eq_true rfl⟩ dX7_sendRequest_4 (fun H locs hW hS => ?_)
  by_cases hn_4 : (gi S 1 (0) (2)) < (300)
  ·
    rw [r_next_pos hn_4]
    rw [s_next_pos hn_4] at hW
    have hb_4 := hV.pmlt (next_lt hc0 hn_4)
    have hd_4 := hV.d4 hb_4
    refine lv_astore hM.1 hM.2.1 dX7_sendRequest_7 hl (by decide) (lv' := [(4, .ref (Z.1 4 (pmR S.2.2 (ix (gi S 1 (0) (2)))))), (0, .ref (Z.1 7 (0))), (1, .ref (Z.1 2 (c))), (2, .ref (Z.1 0 (a))), (3, .int (x))]) rfl (fun ls hl => ?_)
    refine lv_aload hM.1 hM.2.1 dX7_sendRequest_9 (lv_at hl 0 rfl) ?_
    refine lv_ifnonnull hM.1 hM.2.1 dX7_sendRequest_11 (tgt := 15) (by decide) ?_
    refine lv_aload_n hM.1 hM.2.1 dX7_sendRequest_15 rfl (lv_at hl 2 rfl) ?_
    refine z_get hM hW zc2 (hV.d2 hc) rfl 3 (by decide) lf_X7_189 (v := .int (gi S 2 (c) (3))) rfl dX7_sendRequest_16 ?_
    refine lv_istore hM.1 hM.2.1 dX7_sendRequest_19 hl (by decide) (lv' := [(5, .int (gi S 2 (c) (3))), (4, .ref (Z.1 4 (pmR S.2.2 (ix (gi S 1 (0) (2)))))), (0, .ref (Z.1 7 (0))), (1, .ref (Z.1 2 (c))), (2, .ref (Z.1 0 (a))), (3, .int (x))]) rfl (fun ls hl => ?_)
    refine lv_aload hM.1 hM.2.1 dX7_sendRequest_21 (lv_at hl 1 rfl) ?_
    refine lv_iconst (v := 0) hM.1 hM.2.1 dX7_sendRequest_23 (by decide) ?_
    refine z_puti hM hW hS zc4 hd_4 rfl 1 (by decide) rfl lf_X7_134 (Or.inl rfl) (tyX4 1) (tyX4_ok 1 (by decide)) rfl rfl dX7_sendRequest_24 (fun H locs hW hS => ?_)
    refine lv_aload hM.1 hM.2.1 dX7_sendRequest_27 (lv_at hl 1 rfl) ?_
    refine lv_iload_n hM.1 hM.2.1 dX7_sendRequest_29 rfl (lv_at hl 5 rfl) ?_
    refine z_puti hM hW hS zc4 hd_4 rfl 2 (by decide) rfl lf_X7_195 (Or.inl rfl) (tyX4 2) (tyX4_ok 2 (by decide)) rfl rfl dX7_sendRequest_30 (fun H locs hW hS => ?_)
    refine lv_aload hM.1 hM.2.1 dX7_sendRequest_33 (lv_at hl 1 rfl) ?_
    refine lv_aload_n hM.1 hM.2.1 dX7_sendRequest_35 rfl (lv_at hl 3 rfl) ?_
    refine z_get hM hW zc2 (hV.d2 hc) rfl 0 (by decide) lf_X7_245 (v := .int (gi S 2 (c) (0))) rfl dX7_sendRequest_36 ?_
    refine z_puti hM hW hS zc4 hd_4 rfl 3 (by decide) rfl lf_X7_198 (Or.inl rfl) (tyX4 3) (tyX4_ok 3 (by decide)) rfl rfl dX7_sendRequest_39 (fun H locs hW hS => ?_)
    refine lv_aload hM.1 hM.2.1 dX7_sendRequest_42 (lv_at hl 1 rfl) ?_
    refine lv_aload_n hM.1 hM.2.1 dX7_sendRequest_44 rfl (lv_at hl 4 rfl) ?_
    refine z_get hM hW zc0 ha rfl 0 (by decide) lf_X7_119 (v := .int (gi S 0 (a) (0))) rfl dX7_sendRequest_45 ?_
    refine z_puti hM hW hS zc4 hd_4 rfl 4 (by decide) rfl lf_X7_201 (Or.inl rfl) (tyX4 4) (tyX4_ok 4 (by decide)) rfl rfl dX7_sendRequest_48 (fun H locs hW hS => ?_)
    refine lv_aload hM.1 hM.2.1 dX7_sendRequest_51 (lv_at hl 1 rfl) ?_
    refine lv_iload hM.1 hM.2.1 dX7_sendRequest_53 (lv_at hl 0 rfl) ?_
    refine z_puti hM hW hS zc4 hd_4 rfl 5 (by decide) rfl lf_X7_204 (Or.inl rfl) (tyX4 5) (tyX4_ok 5 (by decide)) rfl rfl dX7_sendRequest_55 (fun H locs hW hS => ?_)
    refine lv_aload hM.1 hM.2.1 dX7_sendRequest_58 (lv_at hl 1 rfl) ?_
    refine lv_aload_n hM.1 hM.2.1 dX7_sendRequest_60 rfl (lv_at hl 3 rfl) ?_
    refine z_get hM hW zc2 (hV.d2 hc) rfl 4 (by decide) lf_X7_246 (v := .int (gi S 2 (c) (4))) rfl dX7_sendRequest_61 ?_
    refine z_puti hM hW hS zc4 hd_4 rfl 6 (by decide) rfl lf_X7_207 (Or.inl rfl) (tyX4 6) (tyX4_ok 6 (by decide)) rfl rfl dX7_sendRequest_64 (fun H locs hW hS => ?_)
    refine lv_aload hM.1 hM.2.1 dX7_sendRequest_67 (lv_at hl 1 rfl) ?_
    refine lv_iconst (v := (-1)) hM.1 hM.2.1 dX7_sendRequest_69 (by decide) ?_
    refine z_puti hM hW hS zc4 hd_4 rfl 7 (by decide) rfl lf_X7_262 (Or.inl rfl) (tyX4 7) (tyX4_ok 7 (by decide)) rfl rfl dX7_sendRequest_70 (fun H locs hW hS => ?_)
    refine lv_aload hM.1 hM.2.1 dX7_sendRequest_73 (lv_at hl 1 rfl) ?_
    refine lv_iload hM.1 hM.2.1 dX7_sendRequest_75 (lv_at hl 0 rfl) ?_
    refine lv_iconst (v := 3) hM.1 hM.2.1 dX7_sendRequest_77 (by decide) ?_
    refine lv_icmp_eq hM.1 hM.2.1 dX7_sendRequest_78 (tgt := 87) (by decide) (fun h_78 => ?_) (fun h_78 => ?_)
    ·
      refine lv_aload_n hM.1 hM.2.1 dX7_sendRequest_87 rfl (lv_at hl 4 rfl) ?_
      refine z_get hM hW zc0 ha rfl 7 (by decide) lf_X7_226 (v := .int (gi S 0 (a) (7))) rfl dX7_sendRequest_88 ?_
      refine lv_goto hM.1 hM.2.1 dX7_sendRequest_91 (tgt := 95) (by decide) ?_
      refine z_puti hM hW hS zc4 hd_4 rfl 8 (by decide) rfl lf_X7_206 (Or.inl rfl) (tyX4 8) (tyX4_ok 8 (by decide)) rfl rfl dX7_sendRequest_95 (fun H locs hW hS => ?_)
      refine lv_iload hM.1 hM.2.1 dX7_sendRequest_98 (lv_at hl 0 rfl) ?_
      refine lv_iconst (v := 2) hM.1 hM.2.1 dX7_sendRequest_100 (by decide) ?_
      refine lv_icmp_eq hM.1 hM.2.1 dX7_sendRequest_101 (tgt := 110) (by decide) (fun h => absurd h (fun q => absurd (h_78.symm.trans q) (by decide))) (fun _ => ?_)
      refine lv_iload hM.1 hM.2.1 dX7_sendRequest_104 (lv_at hl 0 rfl) ?_
      refine lv_iconst (v := 4) hM.1 hM.2.1 dX7_sendRequest_106 (by decide) ?_
      refine lv_icmp_ne hM.1 hM.2.1 dX7_sendRequest_107 (tgt := 125) (by decide) (fun _ => ?_) (fun h => absurd h (fun q => absurd (h_78.symm.trans q) (by decide)))
      refine lv_aload hM.1 hM.2.1 dX7_sendRequest_125 (lv_at hl 1 rfl) ?_
      refine z_getr hM hW zc4 hd_4 rfl 0 (by decide) lf_X7_205 (t := 6) (j := 20 + (pmR S.2.2 (ix (gi S 1 (0) (2))))) rfl (hV.r4 hb_4) dX7_sendRequest_127 (fun hd2_127 => ?_)
      refine lv_iconst (v := 0) hM.1 hM.2.1 dX7_sendRequest_130 (by decide) ?_
      refine lv_iconst (v := 0) hM.1 hM.2.1 dX7_sendRequest_131 (by decide) ?_
      refine lv_lconst (v := 0) hM.1 hM.2.1 dX7_sendRequest_132 (by decide) ?_
      refine z_Vv hM (hml.trans hl.1.symm) hW hS hlo zc6 hd2_127 rfl zyX6_put lm_X7_248 li_yX6_put le_yX6_put (As := [.int (0), .int (0), .long (0)]) (rest := []) (c_X6_put hd2_127) rfl rfl (Nat.le_of_ble_eq_true rfl) ⟨Nat.le_of_ble_eq_true rfl, Nat.le_of_ble_eq_true rfl⟩ ⟨Nat.le_of_ble_eq_true rfl, Nat.le_of_ble_eq_true rfl⟩ dX7_sendRequest_133 (fun H locs hW hS => ?_)
      exact z_vret hM hlk hr hW hS (zF.of rfl (by unfold s_X7_sendRequest; rw [pif_pos hn_4, pif_pos h_78]; first | done | rfl)) dX7_sendRequest_136
    ·
      refine lv_iload hM.1 hM.2.1 dX7_sendRequest_81 (lv_at hl 0 rfl) ?_
      refine lv_iconst (v := 5) hM.1 hM.2.1 dX7_sendRequest_83 (by decide) ?_
      refine lv_icmp_ne hM.1 hM.2.1 dX7_sendRequest_84 (tgt := 94) (by decide) (fun h_84 => ?_) (fun h_84 => ?_)
      ·
        refine lv_iconst (v := (-1)) hM.1 hM.2.1 dX7_sendRequest_94 (by decide) ?_
        refine z_puti hM hW hS zc4 hd_4 rfl 8 (by decide) rfl lf_X7_206 (Or.inl rfl) (tyX4 8) (tyX4_ok 8 (by decide)) rfl rfl dX7_sendRequest_95 (fun H locs hW hS => ?_)
        refine lv_iload hM.1 hM.2.1 dX7_sendRequest_98 (lv_at hl 0 rfl) ?_
        refine lv_iconst (v := 2) hM.1 hM.2.1 dX7_sendRequest_100 (by decide) ?_
        refine lv_icmp_eq hM.1 hM.2.1 dX7_sendRequest_101 (tgt := 110) (by decide) (fun h_101 => ?_) (fun h_101 => ?_)
        ·
          refine lv_aload hM.1 hM.2.1 dX7_sendRequest_110 (lv_at hl 1 rfl) ?_
          refine z_getr hM hW zc4 hd_4 rfl 0 (by decide) lf_X7_205 (t := 6) (j := 20 + (pmR S.2.2 (ix (gi S 1 (0) (2))))) rfl (hV.r4 hb_4) dX7_sendRequest_112 (fun hd3_112 => ?_)
          refine lv_aload_n hM.1 hM.2.1 dX7_sendRequest_115 rfl (lv_at hl 3 rfl) ?_
          refine z_getr hM hW zc2 (hV.d2 hc) rfl 1 (by decide) lf_X7_247 (t := 6) (j := 10 + c) rfl (hV.r2 hc) dX7_sendRequest_116 (fun hd4_116 => ?_)
          refine z_Vv hM (hml.trans hl.1.symm) hW hS hlo zc6 hd3_112 rfl zyX6_set lm_X7_263 li_yX6_set le_yX6_set (As := [.ref (Z.1 6 (10 + c))]) (rest := []) (c_X6_set hd3_112 hd4_116) rfl rfl (Nat.le_of_ble_eq_true rfl) ⟨Nat.le_of_ble_eq_true rfl, Nat.le_of_ble_eq_true rfl⟩ ⟨Nat.le_of_ble_eq_true rfl, Nat.le_of_ble_eq_true rfl⟩ dX7_sendRequest_119 (fun H locs hW hS => ?_)
          refine lv_goto hM.1 hM.2.1 dX7_sendRequest_122 (tgt := 136) (by decide) ?_
          exact z_vret hM hlk hr hW hS (zF.of rfl (by unfold s_X7_sendRequest; rw [pif_pos hn_4, pif_neg h_78, pif_neg h_84, pif_pos h_101]; first | done | rfl)) dX7_sendRequest_136
        ·
          refine lv_iload hM.1 hM.2.1 dX7_sendRequest_104 (lv_at hl 0 rfl) ?_
          refine lv_iconst (v := 4) hM.1 hM.2.1 dX7_sendRequest_106 (by decide) ?_
          refine lv_icmp_ne hM.1 hM.2.1 dX7_sendRequest_107 (tgt := 125) (by decide) (fun h_107 => ?_) (fun h_107 => ?_)
          ·
            refine lv_aload hM.1 hM.2.1 dX7_sendRequest_125 (lv_at hl 1 rfl) ?_
            refine z_getr hM hW zc4 hd_4 rfl 0 (by decide) lf_X7_205 (t := 6) (j := 20 + (pmR S.2.2 (ix (gi S 1 (0) (2))))) rfl (hV.r4 hb_4) dX7_sendRequest_127 (fun hd5_127 => ?_)
            refine lv_iconst (v := 0) hM.1 hM.2.1 dX7_sendRequest_130 (by decide) ?_
            refine lv_iconst (v := 0) hM.1 hM.2.1 dX7_sendRequest_131 (by decide) ?_
            refine lv_lconst (v := 0) hM.1 hM.2.1 dX7_sendRequest_132 (by decide) ?_
            refine z_Vv hM (hml.trans hl.1.symm) hW hS hlo zc6 hd5_127 rfl zyX6_put lm_X7_248 li_yX6_put le_yX6_put (As := [.int (0), .int (0), .long (0)]) (rest := []) (c_X6_put hd5_127) rfl rfl (Nat.le_of_ble_eq_true rfl) ⟨Nat.le_of_ble_eq_true rfl, Nat.le_of_ble_eq_true rfl⟩ ⟨Nat.le_of_ble_eq_true rfl, Nat.le_of_ble_eq_true rfl⟩ dX7_sendRequest_133 (fun H locs hW hS => ?_)
            exact z_vret hM hlk hr hW hS (zF.of rfl (by unfold s_X7_sendRequest; rw [pif_pos hn_4, pif_neg h_78, pif_neg h_84, pif_neg h_101, pif_neg h_107]; first | done | rfl)) dX7_sendRequest_136
          ·
            refine lv_aload hM.1 hM.2.1 dX7_sendRequest_110 (lv_at hl 1 rfl) ?_
            refine z_getr hM hW zc4 hd_4 rfl 0 (by decide) lf_X7_205 (t := 6) (j := 20 + (pmR S.2.2 (ix (gi S 1 (0) (2))))) rfl (hV.r4 hb_4) dX7_sendRequest_112 (fun hd6_112 => ?_)
            refine lv_aload_n hM.1 hM.2.1 dX7_sendRequest_115 rfl (lv_at hl 3 rfl) ?_
            refine z_getr hM hW zc2 (hV.d2 hc) rfl 1 (by decide) lf_X7_247 (t := 6) (j := 10 + c) rfl (hV.r2 hc) dX7_sendRequest_116 (fun hd7_116 => ?_)
            refine z_Vv hM (hml.trans hl.1.symm) hW hS hlo zc6 hd6_112 rfl zyX6_set lm_X7_263 li_yX6_set le_yX6_set (As := [.ref (Z.1 6 (10 + c))]) (rest := []) (c_X6_set hd6_112 hd7_116) rfl rfl (Nat.le_of_ble_eq_true rfl) ⟨Nat.le_of_ble_eq_true rfl, Nat.le_of_ble_eq_true rfl⟩ ⟨Nat.le_of_ble_eq_true rfl, Nat.le_of_ble_eq_true rfl⟩ dX7_sendRequest_119 (fun H locs hW hS => ?_)
            refine lv_goto hM.1 hM.2.1 dX7_sendRequest_122 (tgt := 136) (by decide) ?_
            exact z_vret hM hlk hr hW hS (zF.of rfl (by unfold s_X7_sendRequest; rw [pif_pos hn_4, pif_neg h_78, pif_neg h_84, pif_neg h_101, pif_pos h_107]; first | done | rfl)) dX7_sendRequest_136
      ·
        refine lv_aload_n hM.1 hM.2.1 dX7_sendRequest_87 rfl (lv_at hl 4 rfl) ?_
        refine z_get hM hW zc0 ha rfl 7 (by decide) lf_X7_226 (v := .int (gi S 0 (a) (7))) rfl dX7_sendRequest_88 ?_
        refine lv_goto hM.1 hM.2.1 dX7_sendRequest_91 (tgt := 95) (by decide) ?_
        refine z_puti hM hW hS zc4 hd_4 rfl 8 (by decide) rfl lf_X7_206 (Or.inl rfl) (tyX4 8) (tyX4_ok 8 (by decide)) rfl rfl dX7_sendRequest_95 (fun H locs hW hS => ?_)
        refine lv_iload hM.1 hM.2.1 dX7_sendRequest_98 (lv_at hl 0 rfl) ?_
        refine lv_iconst (v := 2) hM.1 hM.2.1 dX7_sendRequest_100 (by decide) ?_
        refine lv_icmp_eq hM.1 hM.2.1 dX7_sendRequest_101 (tgt := 110) (by decide) (fun h => absurd h (fun q => absurd (h_84.symm.trans q) (by decide))) (fun _ => ?_)
        refine lv_iload hM.1 hM.2.1 dX7_sendRequest_104 (lv_at hl 0 rfl) ?_
        refine lv_iconst (v := 4) hM.1 hM.2.1 dX7_sendRequest_106 (by decide) ?_
        refine lv_icmp_ne hM.1 hM.2.1 dX7_sendRequest_107 (tgt := 125) (by decide) (fun _ => ?_) (fun h => absurd h (fun q => absurd (h_84.symm.trans q) (by decide)))
        refine lv_aload hM.1 hM.2.1 dX7_sendRequest_125 (lv_at hl 1 rfl) ?_
        refine z_getr hM hW zc4 hd_4 rfl 0 (by decide) lf_X7_205 (t := 6) (j := 20 + (pmR S.2.2 (ix (gi S 1 (0) (2))))) rfl (hV.r4 hb_4) dX7_sendRequest_127 (fun hd8_127 => ?_)
        refine lv_iconst (v := 0) hM.1 hM.2.1 dX7_sendRequest_130 (by decide) ?_
        refine lv_iconst (v := 0) hM.1 hM.2.1 dX7_sendRequest_131 (by decide) ?_
        refine lv_lconst (v := 0) hM.1 hM.2.1 dX7_sendRequest_132 (by decide) ?_
        refine z_Vv hM (hml.trans hl.1.symm) hW hS hlo zc6 hd8_127 rfl zyX6_put lm_X7_248 li_yX6_put le_yX6_put (As := [.int (0), .int (0), .long (0)]) (rest := []) (c_X6_put hd8_127) rfl rfl (Nat.le_of_ble_eq_true rfl) ⟨Nat.le_of_ble_eq_true rfl, Nat.le_of_ble_eq_true rfl⟩ ⟨Nat.le_of_ble_eq_true rfl, Nat.le_of_ble_eq_true rfl⟩ dX7_sendRequest_133 (fun H locs hW hS => ?_)
        exact z_vret hM hlk hr hW hS (zF.of rfl (by unfold s_X7_sendRequest; rw [pif_pos hn_4, pif_neg h_78, pif_pos h_84]; first | done | rfl)) dX7_sendRequest_136
  ·
    rw [r_next_neg hn_4]
    rw [s_next_neg hn_4] at hW
    refine lv_astoreN hM.1 hM.2.1 dX7_sendRequest_7 hl (by decide) (lv' := [(4, .null), (0, .ref (Z.1 7 (0))), (1, .ref (Z.1 2 (c))), (2, .ref (Z.1 0 (a))), (3, .int (x))]) rfl (fun ls hl => ?_)
    refine lv_aloadN hM.1 hM.2.1 dX7_sendRequest_9 (lv_at hl 0 rfl) ?_
    refine lv_ifnonnullN hM.1 hM.2.1 dX7_sendRequest_11 ?_
    exact z_vret hM hlk hr hW hS (zF.of rfl (by unfold s_X7_sendRequest; rw [pif_neg hn_4]; first | done | rfl)) dX7_sendRequest_14
