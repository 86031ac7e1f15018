/-- each row of the air from the one behind it -/
def mShift (T : zS) (j : Nat) : zS := (si (si (si (sj (si (si (si (si (si (si (si (si T 11 (132) (j) (gi T 11 (132) (j + 1))) 9 (133) (j) (gi T 9 (133) (j + 1))) 9 (134) (j) (gi T 9 (134) (j + 1))) 9 (135) (j) (gi T 9 (135) (j + 1))) 9 (136) (j) (gi T 9 (136) (j + 1))) 9 (137) (j) (gi T 9 (137) (j + 1))) 9 (138) (j) (gi T 9 (138) (j + 1))) 9 (139) (j) (gi T 9 (139) (j + 1))) 10 (143) (j) (gj T 10 (143) (j + 1))) 9 (140) (j) (gi T 9 (140) (j + 1))) 9 (141) (j) (gi T 9 (141) (j + 1))) 9 (142) (j) (gi T 9 (142) (j + 1)))
def lMT : Nat → Nat → zS → zS
  | 0, _, T => T
  | f + 1, j, T => lMT f (j + 1) (mShift T j)
def s_X8_take (S : zS) (cn k : Nat) : zS := lMT (cn - 1 - k) k (si S 8 (0) (44) (nI (cn - 1)))
theorem mShift_b {T : zS} {j i : Nat} : gi (mShift T j) 11 132 i = if i = j then gi T 11 132 (j + 1) else gi T 11 132 i := by
  unfold mShift
  simp only [gi_si, gi_sj]
  simp
theorem mShift_gi {T : zS} {j K I f : Nat} : gi (mShift T j) K I f = if f = j ∧ ((K = 9 ∧ 133 ≤ I ∧ I ≤ 142) ∨ (K = 11 ∧ I = 132)) then gi T K I (j + 1) else gi T K I f := by
  unfold mShift
  simp only [gi_si, gi_sj]
  by_cases hf : f = j
  · subst hf
    by_cases h9 : K = 9
    · subst h9
      by_cases hI : 133 ≤ I ∧ I ≤ 142
      · obtain ⟨h1, h2⟩ := hI
        rcases (show I = 133 ∨ I = 134 ∨ I = 135 ∨ I = 136 ∨ I = 137 ∨ I = 138 ∨ I = 139 ∨ I = 140 ∨ I = 141 ∨ I = 142 by omega) with rfl | rfl | rfl | rfl | rfl | rfl | rfl | rfl | rfl | rfl <;> simp
      · have e : ∀ m, 133 ≤ m → m ≤ 142 → ¬ I = m := fun m _ _ => by omega
        conv => rhs; rw [if_neg (by omega)]
        simp [e]
    · by_cases h11 : K = 11 ∧ I = 132
      · obtain ⟨rfl, rfl⟩ := h11
        simp
      · conv => rhs; rw [if_neg (by omega)]
        simp [h9]
        intro a b
        exact absurd ⟨a, b⟩ h11
  · conv => rhs; rw [if_neg (fun q => hf q.1)]
    simp [hf]
theorem mShift_gj {T : zS} {j K I f : Nat} : gj (mShift T j) K I f = if f = j ∧ K = 10 ∧ I = 143 then gj T K I (j + 1) else gj T K I f := by
  unfold mShift
  simp only [gj_si, gj_sj]
  by_cases hf : f = j
  · subst hf
    by_cases h : K = 10 ∧ I = 143
    · obtain ⟨rfl, rfl⟩ := h
      simp
    · rw [if_neg (by omega), if_neg (by omega)]
  · rw [if_neg (by omega), if_neg (by omega)]
theorem lMT_gi : ∀ (f j : Nat) (T : zS) (K I x : Nat), gi (lMT f j T) K I x = if (j ≤ x ∧ x < j + f) ∧ ((K = 9 ∧ 133 ≤ I ∧ I ≤ 142) ∨ (K = 11 ∧ I = 132)) then gi T K I (x + 1) else gi T K I x := by
  intro f
  induction f with
  | zero => intro j T K I x; rw [if_neg (by omega)]; rfl
  | succ f ih =>
    intro j T K I x
    show gi (lMT f (j + 1) (mShift T j)) K I x = _
    rw [ih, mShift_gi, mShift_gi]
    by_cases hA : (K = 9 ∧ 133 ≤ I ∧ I ≤ 142) ∨ (K = 11 ∧ I = 132)
    · by_cases h1 : j + 1 ≤ x ∧ x < j + 1 + f
      · rw [if_pos ⟨h1, hA⟩, if_neg (by omega), if_pos ⟨by omega, hA⟩]
      · rw [if_neg (fun q => h1 q.1)]
        by_cases h2 : x = j
        · subst h2
          rw [if_pos ⟨rfl, hA⟩, if_pos ⟨by omega, hA⟩]
        · rw [if_neg (fun q => h2 q.1), if_neg (fun q => by omega)]
    · rw [if_neg (fun q => hA q.2), if_neg (fun q => hA q.2), if_neg (fun q => hA q.2)]
theorem lMT_gj : ∀ (f j : Nat) (T : zS) (K I x : Nat), gj (lMT f j T) K I x = if (j ≤ x ∧ x < j + f) ∧ K = 10 ∧ I = 143 then gj T K I (x + 1) else gj T K I x := by
  intro f
  induction f with
  | zero => intro j T K I x; rw [if_neg (by omega)]; rfl
  | succ f ih =>
    intro j T K I x
    show gj (lMT f (j + 1) (mShift T j)) K I x = _
    rw [ih, mShift_gj, mShift_gj]
    by_cases hA : K = 10 ∧ I = 143
    · by_cases h1 : j + 1 ≤ x ∧ x < j + 1 + f
      · rw [if_pos ⟨h1, hA⟩, if_neg (by omega), if_pos ⟨by omega, hA⟩]
      · rw [if_neg (fun q => h1 q.1)]
        by_cases h2 : x = j
        · subst h2
          rw [if_pos ⟨rfl, hA⟩, if_pos ⟨by omega, hA⟩]
        · rw [if_neg (fun q => h2 q.1), if_neg (fun q => by omega)]
    · rw [if_neg (fun q => hA q.2), if_neg (fun q => hA q.2), if_neg (fun q => hA q.2)]
theorem lMT_k : ∀ (f j : Nat) (T : zS), (lMT f j T).2.2 = T.2.2 := by
  intro f
  induction f with
  | zero => intro j T; rfl
  | succ f ih => intro j T; exact ih (j + 1) (mShift T j)
theorem k_X8_take {S : zS} {cn k : Nat} : (s_X8_take S cn k).2.2 = S.2.2 := lMT_k _ _ _
theorem mtk_gi {S : zS} {cn k : Nat} (hk : k < cn) (K I x : Nat) : gi (s_X8_take S cn k) K I x = if (k ≤ x ∧ x + 1 < cn) ∧ ((K = 9 ∧ 133 ≤ I ∧ I ≤ 142) ∨ (K = 11 ∧ I = 132)) then gi S K I (x + 1) else if K = 8 ∧ I = 0 ∧ x = 44 then nI (cn - 1) else gi S K I x := by
  unfold s_X8_take
  rw [lMT_gi, gi_si, gi_si]
  by_cases h : (k ≤ x ∧ x < k + (cn - 1 - k)) ∧ ((K = 9 ∧ 133 ≤ I ∧ I ≤ 142) ∨ (K = 11 ∧ I = 132))
  · rw [if_pos h, if_neg (by omega), if_pos ⟨by omega, h.2⟩]
  · rw [if_neg h]
    conv => rhs; rw [if_neg (fun q => h ⟨by omega, q.2⟩)]
theorem mtk_gj {S : zS} {cn k : Nat} (hk : k < cn) (K I x : Nat) : gj (s_X8_take S cn k) K I x = if (k ≤ x ∧ x + 1 < cn) ∧ K = 10 ∧ I = 143 then gj S K I (x + 1) else gj S K I x := by
  unfold s_X8_take
  rw [lMT_gj, gj_si, gj_si]
  by_cases h : (k ≤ x ∧ x < k + (cn - 1 - k)) ∧ (K = 10 ∧ I = 143)
  · rw [if_pos h, if_pos ⟨by omega, h.2⟩]
  · rw [if_neg h, if_neg (fun q => h ⟨by omega, q.2⟩)]
noncomputable def s_X8_goOn (S : zS) (n : Nat) (x : Int32) : zS := 
  (pif ((gi S 9 (112) (ix (x))) = (1)) 
    (pif ((gi S 9 (121) (ix (gi S 9 (111) (ix (x))))) = (1)) ((s_X8_beginPhase (si (si S 9 (125) (ix (gi S 9 (111) (ix (x)))) ((gi S 9 (118) (ix (x))) + (1))) 9 (126) (ix (gi S 9 (111) (ix (x)))) (gi S 9 (111) (ix (x)))) n (x) (2))) ((s_X8_beginPhase S n (x) (2)))) 
    (pif ((gi S 9 (112) (ix (x))) = (2)) ((s_X8_finish S (x))) 
      (pif ((gi S 9 (112) (ix (x))) = (3)) ((s_X8_beginPhase (si (si S 9 (125) (ix (gi S 9 (111) (ix (x)))) (gi S 9 (118) (ix (x)))) 9 (126) (ix (gi S 9 (111) (ix (x)))) (gi S 9 (119) (ix (x)))) n (x) (4))) 
        (pif ((gi S 9 (112) (ix (x))) = (4)) ((s_X8_beginPhase (si S 9 (114) (ix (x)) (gi S 9 (127) (ix (gi S 9 (111) (ix (x)))))) n (x) (5))) ((s_X8_finish S (x)))))))
set_option maxHeartbeats 400000 in
set_option maxRecDepth 100000 in
theorem c_X8_goOn {l : Launch} {D : va_G} {ar : Nat → ClassId} {A : Nat → Prop} {Z : zZ} {S : zS} {n : Nat} {x : Int32} (hO : mOK Z S.2.2) (hn : gi S 8 0 0 = nI n) (h7 : n ≤ 7) (hx : vp_in x 4) (hd : vp_in (gi S 9 111 (ix x)) 201) (h44 : gi S 8 0 44 = nI (ix (gi S 8 0 44))) (h45 : ix (gi S 8 0 44) ≤ 300) : zMet l yX8_goOn prog_10_method_21_code 3 none ({ frames := 3, cells := 0, slots := 0, locals := 85 } : Room) D ar A Z S [.ref (Z.1 8 (0)), .int (x)] rvV (zF () Z (s_X8_goOn S n x)) := by
  refine z_body (by decide +kernel) (Nat.le_of_ble_eq_true rfl) ?_
  intro pX eX sX mX bX methX cX ls hM hr hlk hml hin hl hW hlo
  have hM : zM pX cX mX _ sX prog_10_method_21_code RX8 D ar := hM
  have hS : va_S A sX.heap sX.heap [] := va_S.rf
  have hl : lv_has ls 3 [(0, .ref (Z.1 8 (0))), (1, .int (x))] := hl
  refine lv_aload_n hM.1 hM.2.1 dX8_goOn_0 rfl (lv_at hl 0 rfl) ?_
  refine z_getr hM hW zc8 hO.1 rfl 11 (by decide) lf_X8_39 (t := 9) (j := 111) rfl (hO.r 11 (by decide) (by decide)) dX8_goOn_1 (fun hd1_1 => ?_)
  refine lv_iload_n hM.1 hM.2.1 dX8_goOn_4 rfl (lv_at hl 1 rfl) ?_
  refine z_iald hM hW hd1_1 rfl (vin_L (hO.l 11 (by decide) (by decide)) hx) (v := gi S 9 (111) (ix (x))) rfl dX8_goOn_5 ?_
  refine lv_istore_n hM.1 hM.2.1 dX8_goOn_6 rfl hl (by decide) (lv' := [(2, .int (gi S 9 (111) (ix (x)))), (0, .ref (Z.1 8 (0))), (1, .int (x))]) rfl (fun ls hl => ?_)
  refine lv_aload_n hM.1 hM.2.1 dX8_goOn_7 rfl (lv_at hl 1 rfl) ?_
  refine z_getr hM hW zc8 hO.1 rfl 12 (by decide) lf_X8_42 (t := 9) (j := 112) rfl (hO.r 12 (by decide) (by decide)) dX8_goOn_8 (fun hd2_8 => ?_)
  refine lv_iload_n hM.1 hM.2.1 dX8_goOn_11 rfl (lv_at hl 2 rfl) ?_
  refine z_iald hM hW hd2_8 rfl (vin_L (hO.l 12 (by decide) (by decide)) hx) (v := gi S 9 (112) (ix (x))) rfl dX8_goOn_12 ?_
  by_cases h_13_1 : (gi S 9 (112) (ix (x))) = (1)
  ·
    refine lv_tableIn hM.1 hM.2.1 dX8_goOn_13 (by rw [h_13_1]; decide) (by rw [h_13_1]; decide) (off := 31) (by rw [h_13_1]; rfl) (tgt := 44) (by decide) ?_
    refine lv_aload_n hM.1 hM.2.1 dX8_goOn_44 rfl (lv_at hl 1 rfl) ?_
    refine z_getr hM hW zc8 hO.1 rfl 21 (by decide) lf_X8_69 (t := 9) (j := 121) rfl (hO.r 21 (by decide) (by decide)) dX8_goOn_45 (fun hd3_45 => ?_)
    refine lv_iload_n hM.1 hM.2.1 dX8_goOn_48 rfl (lv_at hl 0 rfl) ?_
    refine z_iald hM hW hd3_45 rfl (vin_L (hO.l 21 (by decide) (by decide)) hd) (v := gi S 9 (121) (ix (gi S 9 (111) (ix (x))))) rfl dX8_goOn_49 ?_
    refine lv_iconst (v := 1) hM.1 hM.2.1 dX8_goOn_50 (by decide) ?_
    refine lv_icmp_ne hM.1 hM.2.1 dX8_goOn_51 (tgt := 75) (by decide) (fun h_51 => ?_) (fun h_51 => ?_)
    ·
      refine lv_aload_n hM.1 hM.2.1 dX8_goOn_75 rfl (lv_at hl 1 rfl) ?_
      refine lv_iload_n hM.1 hM.2.1 dX8_goOn_76 rfl (lv_at hl 2 rfl) ?_
      refine lv_iconst (v := 2) hM.1 hM.2.1 dX8_goOn_77 (by decide) ?_
      refine z_Vv hM (hml.trans hl.1.symm) hW hS hlo zc8 hO.1 rfl zyX8_beginPhase lm_X8_160 li_yX8_beginPhase le_yX8_beginPhase (As := [.int (x), .int (2)]) (rest := []) (c_X8_beginPhase hO hn h7 hx hd h44 h45) rfl rfl (Nat.le_of_ble_eq_true rfl) ⟨Nat.le_of_ble_eq_true rfl, Nat.le_of_ble_eq_true rfl⟩ ⟨Nat.le_of_ble_eq_true rfl, Nat.le_of_ble_eq_true rfl⟩ dX8_goOn_78 (fun H locs hW hS => ?_)
      refine lv_goto hM.1 hM.2.1 dX8_goOn_81 (tgt := 143) (by decide) ?_
      exact z_vret hM hlk hr hW hS (zF.of rfl (by unfold s_X8_goOn; rw [pif_pos h_13_1, pif_neg h_51]; first | done | rfl)) dX8_goOn_143
    ·
      refine lv_aload_n hM.1 hM.2.1 dX8_goOn_54 rfl (lv_at hl 1 rfl) ?_
      refine z_getr hM hW zc8 hO.1 rfl 25 (by decide) lf_X8_81 (t := 9) (j := 125) rfl (hO.r 25 (by decide) (by decide)) dX8_goOn_55 (fun hd4_55 => ?_)
      refine lv_iload_n hM.1 hM.2.1 dX8_goOn_58 rfl (lv_at hl 0 rfl) ?_
      refine lv_aload_n hM.1 hM.2.1 dX8_goOn_59 rfl (lv_at hl 1 rfl) ?_
      refine z_getr hM hW zc8 hO.1 rfl 18 (by decide) lf_X8_60 (t := 9) (j := 118) rfl (hO.r 18 (by decide) (by decide)) dX8_goOn_60 (fun hd5_60 => ?_)
      refine lv_iload_n hM.1 hM.2.1 dX8_goOn_63 rfl (lv_at hl 2 rfl) ?_
      refine z_iald hM hW hd5_60 rfl (vin_L (hO.l 18 (by decide) (by decide)) hx) (v := gi S 9 (118) (ix (x))) rfl dX8_goOn_64 ?_
      refine lv_iconst (v := 1) hM.1 hM.2.1 dX8_goOn_65 (by decide) ?_
      refine lv_iadd hM.1 hM.2.1 dX8_goOn_66 ?_
      refine z_iast hM hW hS hd4_55 rfl (vin_L (hO.l 25 (by decide) (by decide)) hd) dX8_goOn_67 (fun H locs hW hS => ?_)
      refine lv_aload_n hM.1 hM.2.1 dX8_goOn_68 rfl (lv_at hl 1 rfl) ?_
      refine z_getr hM hW zc8 hO.1 rfl 26 (by decide) lf_X8_84 (t := 9) (j := 126) rfl (hO.r 26 (by decide) (by decide)) dX8_goOn_69 (fun hd6_69 => ?_)
      refine lv_iload_n hM.1 hM.2.1 dX8_goOn_72 rfl (lv_at hl 0 rfl) ?_
      refine lv_iload_n hM.1 hM.2.1 dX8_goOn_73 rfl (lv_at hl 0 rfl) ?_
      refine z_iast hM hW hS hd6_69 rfl (vin_L (hO.l 26 (by decide) (by decide)) hd) dX8_goOn_74 (fun H locs hW hS => ?_)
      refine lv_aload_n hM.1 hM.2.1 dX8_goOn_75 rfl (lv_at hl 1 rfl) ?_
      refine lv_iload_n hM.1 hM.2.1 dX8_goOn_76 rfl (lv_at hl 2 rfl) ?_
      refine lv_iconst (v := 2) hM.1 hM.2.1 dX8_goOn_77 (by decide) ?_
      refine z_Vv hM (hml.trans hl.1.symm) hW hS hlo zc8 hO.1 rfl zyX8_beginPhase lm_X8_160 li_yX8_beginPhase le_yX8_beginPhase (As := [.int (x), .int (2)]) (rest := []) (c_X8_beginPhase hO hn h7 hx hd h44 h45) rfl rfl (Nat.le_of_ble_eq_true rfl) ⟨Nat.le_of_ble_eq_true rfl, Nat.le_of_ble_eq_true rfl⟩ ⟨Nat.le_of_ble_eq_true rfl, Nat.le_of_ble_eq_true rfl⟩ dX8_goOn_78 (fun H locs hW hS => ?_)
      refine lv_goto hM.1 hM.2.1 dX8_goOn_81 (tgt := 143) (by decide) ?_
      exact z_vret hM hlk hr hW hS (zF.of rfl (by unfold s_X8_goOn; rw [pif_pos h_13_1, pif_pos h_51]; first | done | rfl)) dX8_goOn_143
  by_cases h_13_2 : (gi S 9 (112) (ix (x))) = (2)
  ·
    refine lv_tableIn hM.1 hM.2.1 dX8_goOn_13 (by rw [h_13_2]; decide) (by rw [h_13_2]; decide) (off := 125) (by rw [h_13_2]; rfl) (tgt := 138) (by decide) ?_
    refine lv_aload_n hM.1 hM.2.1 dX8_goOn_138 rfl (lv_at hl 1 rfl) ?_
    refine lv_iload_n hM.1 hM.2.1 dX8_goOn_139 rfl (lv_at hl 2 rfl) ?_
    refine z_Vv hM (hml.trans hl.1.symm) hW hS hlo zc8 hO.1 rfl zyX8_finish lm_X8_182 li_yX8_finish le_yX8_finish (As := [.int (x)]) (rest := []) (c_X8_finish hO hx hd) rfl rfl (Nat.le_of_ble_eq_true rfl) ⟨Nat.le_of_ble_eq_true rfl, Nat.le_of_ble_eq_true rfl⟩ ⟨Nat.le_of_ble_eq_true rfl, Nat.le_of_ble_eq_true rfl⟩ dX8_goOn_140 (fun H locs hW hS => ?_)
    exact z_vret hM hlk hr hW hS (zF.of rfl (by unfold s_X8_goOn; rw [pif_neg h_13_1, pif_pos h_13_2]; first | done | rfl)) dX8_goOn_143
  by_cases h_13_3 : (gi S 9 (112) (ix (x))) = (3)
  ·
    refine lv_tableIn hM.1 hM.2.1 dX8_goOn_13 (by rw [h_13_3]; decide) (by rw [h_13_3]; decide) (off := 71) (by rw [h_13_3]; rfl) (tgt := 84) (by decide) ?_
    refine lv_aload_n hM.1 hM.2.1 dX8_goOn_84 rfl (lv_at hl 1 rfl) ?_
    refine z_getr hM hW zc8 hO.1 rfl 25 (by decide) lf_X8_81 (t := 9) (j := 125) rfl (hO.r 25 (by decide) (by decide)) dX8_goOn_85 (fun hd7_85 => ?_)
    refine lv_iload_n hM.1 hM.2.1 dX8_goOn_88 rfl (lv_at hl 0 rfl) ?_
    refine lv_aload_n hM.1 hM.2.1 dX8_goOn_89 rfl (lv_at hl 1 rfl) ?_
    refine z_getr hM hW zc8 hO.1 rfl 18 (by decide) lf_X8_60 (t := 9) (j := 118) rfl (hO.r 18 (by decide) (by decide)) dX8_goOn_90 (fun hd8_90 => ?_)
    refine lv_iload_n hM.1 hM.2.1 dX8_goOn_93 rfl (lv_at hl 2 rfl) ?_
    refine z_iald hM hW hd8_90 rfl (vin_L (hO.l 18 (by decide) (by decide)) hx) (v := gi S 9 (118) (ix (x))) rfl dX8_goOn_94 ?_
    refine z_iast hM hW hS hd7_85 rfl (vin_L (hO.l 25 (by decide) (by decide)) hd) dX8_goOn_95 (fun H locs hW hS => ?_)
    refine lv_aload_n hM.1 hM.2.1 dX8_goOn_96 rfl (lv_at hl 1 rfl) ?_
    refine z_getr hM hW zc8 hO.1 rfl 26 (by decide) lf_X8_84 (t := 9) (j := 126) rfl (hO.r 26 (by decide) (by decide)) dX8_goOn_97 (fun hd9_97 => ?_)
    refine lv_iload_n hM.1 hM.2.1 dX8_goOn_100 rfl (lv_at hl 0 rfl) ?_
    refine lv_aload_n hM.1 hM.2.1 dX8_goOn_101 rfl (lv_at hl 1 rfl) ?_
    refine z_getr hM hW zc8 hO.1 rfl 19 (by decide) lf_X8_63 (t := 9) (j := 119) rfl (hO.r 19 (by decide) (by decide)) dX8_goOn_102 (fun hd10_102 => ?_)
    refine lv_iload_n hM.1 hM.2.1 dX8_goOn_105 rfl (lv_at hl 2 rfl) ?_
    refine z_iald hM hW hd10_102 rfl (vin_L (hO.l 19 (by decide) (by decide)) hx) (v := gi S 9 (119) (ix (x))) rfl dX8_goOn_106 ?_
    refine z_iast hM hW hS hd9_97 rfl (vin_L (hO.l 26 (by decide) (by decide)) hd) dX8_goOn_107 (fun H locs hW hS => ?_)
    refine lv_aload_n hM.1 hM.2.1 dX8_goOn_108 rfl (lv_at hl 1 rfl) ?_
    refine lv_iload_n hM.1 hM.2.1 dX8_goOn_109 rfl (lv_at hl 2 rfl) ?_
    refine lv_iconst (v := 4) hM.1 hM.2.1 dX8_goOn_110 (by decide) ?_
    refine z_Vv hM (hml.trans hl.1.symm) hW hS hlo zc8 hO.1 rfl zyX8_beginPhase lm_X8_160 li_yX8_beginPhase le_yX8_beginPhase (As := [.int (x), .int (4)]) (rest := []) (c_X8_beginPhase hO hn h7 hx hd h44 h45) rfl rfl (Nat.le_of_ble_eq_true rfl) ⟨Nat.le_of_ble_eq_true rfl, Nat.le_of_ble_eq_true rfl⟩ ⟨Nat.le_of_ble_eq_true rfl, Nat.le_of_ble_eq_true rfl⟩ dX8_goOn_111 (fun H locs hW hS => ?_)
    refine lv_goto hM.1 hM.2.1 dX8_goOn_114 (tgt := 143) (by decide) ?_
    exact z_vret hM hlk hr hW hS (zF.of rfl (by unfold s_X8_goOn; rw [pif_neg h_13_1, pif_neg h_13_2, pif_pos h_13_3]; first | done | rfl)) dX8_goOn_143
  by_cases h_13_4 : (gi S 9 (112) (ix (x))) = (4)
  ·
    refine lv_tableIn hM.1 hM.2.1 dX8_goOn_13 (by rw [h_13_4]; decide) (by rw [h_13_4]; decide) (off := 104) (by rw [h_13_4]; rfl) (tgt := 117) (by decide) ?_
    refine lv_aload_n hM.1 hM.2.1 dX8_goOn_117 rfl (lv_at hl 1 rfl) ?_
    refine z_getr hM hW zc8 hO.1 rfl 14 (by decide) lf_X8_48 (t := 9) (j := 114) rfl (hO.r 14 (by decide) (by decide)) dX8_goOn_118 (fun hd11_118 => ?_)
    refine lv_iload_n hM.1 hM.2.1 dX8_goOn_121 rfl (lv_at hl 2 rfl) ?_
    refine lv_aload_n hM.1 hM.2.1 dX8_goOn_122 rfl (lv_at hl 1 rfl) ?_
    refine z_getr hM hW zc8 hO.1 rfl 27 (by decide) lf_X8_87 (t := 9) (j := 127) rfl (hO.r 27 (by decide) (by decide)) dX8_goOn_123 (fun hd12_123 => ?_)
    refine lv_iload_n hM.1 hM.2.1 dX8_goOn_126 rfl (lv_at hl 0 rfl) ?_
    refine z_iald hM hW hd12_123 rfl (vin_L (hO.l 27 (by decide) (by decide)) hd) (v := gi S 9 (127) (ix (gi S 9 (111) (ix (x))))) rfl dX8_goOn_127 ?_
    refine z_iast hM hW hS hd11_118 rfl (vin_L (hO.l 14 (by decide) (by decide)) hx) dX8_goOn_128 (fun H locs hW hS => ?_)
    refine lv_aload_n hM.1 hM.2.1 dX8_goOn_129 rfl (lv_at hl 1 rfl) ?_
    refine lv_iload_n hM.1 hM.2.1 dX8_goOn_130 rfl (lv_at hl 2 rfl) ?_
    refine lv_iconst (v := 5) hM.1 hM.2.1 dX8_goOn_131 (by decide) ?_
    refine z_Vv hM (hml.trans hl.1.symm) hW hS hlo zc8 hO.1 rfl zyX8_beginPhase lm_X8_160 li_yX8_beginPhase le_yX8_beginPhase (As := [.int (x), .int (5)]) (rest := []) (c_X8_beginPhase hO hn h7 hx hd h44 h45) rfl rfl (Nat.le_of_ble_eq_true rfl) ⟨Nat.le_of_ble_eq_true rfl, Nat.le_of_ble_eq_true rfl⟩ ⟨Nat.le_of_ble_eq_true rfl, Nat.le_of_ble_eq_true rfl⟩ dX8_goOn_132 (fun H locs hW hS => ?_)
    refine lv_goto hM.1 hM.2.1 dX8_goOn_135 (tgt := 143) (by decide) ?_
    exact z_vret hM hlk hr hW hS (zF.of rfl (by unfold s_X8_goOn; rw [pif_neg h_13_1, pif_neg h_13_2, pif_neg h_13_3, pif_pos h_13_4]; first | done | rfl)) dX8_goOn_143
  refine lv_tableOut hM.1 hM.2.1 dX8_goOn_13 (by have n1 : Int32.toInt (gi S 9 (112) (ix (x))) ≠ 1 := fun q => h_13_1 (Int32.toInt_inj.mp (by rw [q]; rfl)); have n2 : Int32.toInt (gi S 9 (112) (ix (x))) ≠ 2 := fun q => h_13_2 (Int32.toInt_inj.mp (by rw [q]; rfl)); have n3 : Int32.toInt (gi S 9 (112) (ix (x))) ≠ 3 := fun q => h_13_3 (Int32.toInt_inj.mp (by rw [q]; rfl)); have n4 : Int32.toInt (gi S 9 (112) (ix (x))) ≠ 4 := fun q => h_13_4 (Int32.toInt_inj.mp (by rw [q]; rfl)); omega) (tgt := 138) (by decide) ?_
  refine lv_aload_n hM.1 hM.2.1 dX8_goOn_138 rfl (lv_at hl 1 rfl) ?_
  refine lv_iload_n hM.1 hM.2.1 dX8_goOn_139 rfl (lv_at hl 2 rfl) ?_
  refine z_Vv hM (hml.trans hl.1.symm) hW hS hlo zc8 hO.1 rfl zyX8_finish lm_X8_182 li_yX8_finish le_yX8_finish (As := [.int (x)]) (rest := []) (c_X8_finish hO hx hd) rfl rfl (Nat.le_of_ble_eq_true rfl) ⟨Nat.le_of_ble_eq_true rfl, Nat.le_of_ble_eq_true rfl⟩ ⟨Nat.le_of_ble_eq_true rfl, Nat.le_of_ble_eq_true rfl⟩ dX8_goOn_140 (fun H locs hW hS => ?_)
  exact z_vret hM hlk hr hW hS (zF.of rfl (by unfold s_X8_goOn; rw [pif_neg h_13_1, pif_neg h_13_2, pif_neg h_13_3, pif_neg h_13_4]; first | done | rfl)) dX8_goOn_143

noncomputable def r_X8_canBe (S : zS) (k : Nat) : Int32 := 
  (pif ((gi S 11 (107) (ix (gi S 9 (133) (k)))) = (0)) 
    (pif ((gi S 9 (106) (ix (gi S 9 (133) (k)))) = (gi S 9 (116) (ix (gi S 9 (134) (k))))) (1) (0)) (0))
set_option maxHeartbeats 400000 in
set_option maxRecDepth 100000 in
theorem c_X8_canBe {l : Launch} {D : va_G} {ar : Nat → ClassId} {A : Nat → Prop} {Z : zZ} {S : zS} {k : Nat} (hO : mOK Z S.2.2) (hk : k < 300) (hcp : vp_in (gi S 9 133 k) 7) (hcl : vp_in (gi S 9 134 k) 4) : zMet l yX8_canBe prog_10_method_24_code 2 (some .boolean) ({ frames := 0, cells := 0, slots := 0, locals := 0 } : Room) D ar A Z S [.ref (Z.1 8 (0)), .int (nI k)] rvI (zF (r_X8_canBe S k) Z S) := by
  refine z_body (by decide +kernel) (Nat.le_of_ble_eq_true rfl) ?_
  intro pX eX sX mX bX methX cX ls hM hr hlk hml hin hl hW hlo
  have hM : zM pX cX mX _ sX prog_10_method_24_code RX8 D ar := hM
  have hS : va_S A sX.heap sX.heap [] := va_S.rf
  have hl : lv_has ls 2 [(0, .ref (Z.1 8 (0))), (1, .int (nI k))] := hl
  refine lv_aload_n hM.1 hM.2.1 dX8_canBe_0 rfl (lv_at hl 0 rfl) ?_
  refine z_getr hM hW zc8 hO.1 rfl 7 (by decide) lf_X8_29 (t := 11) (j := 107) rfl (hO.r 7 (by decide) (by decide)) dX8_canBe_1 (fun hd1_1 => ?_)
  refine lv_aload_n hM.1 hM.2.1 dX8_canBe_4 rfl (lv_at hl 0 rfl) ?_
  refine z_getr hM hW zc8 hO.1 rfl 33 (by decide) lf_X8_96 (t := 9) (j := 133) rfl (hO.r 33 (by decide) (by decide)) dX8_canBe_5 (fun hd2_5 => ?_)
  refine lv_iload_n hM.1 hM.2.1 dX8_canBe_8 rfl (lv_at hl 1 rfl) ?_
  refine z_iald hM hW hd2_5 rfl (vin_nI (hO.l 33 (by decide) (by decide)) (by have : mlen 33 = 300 := rfl; omega) (by decide)) (v := gi S 9 (133) (k)) ((congrArg (gi S 9 (133)) (nI_clamp (by omega))).trans rfl) dX8_canBe_9 ?_
  refine z_zald hM hW hd1_1 rfl (vin_L (hO.l 7 (by decide) (by decide)) hcp) (v := gi S 11 (107) (ix (gi S 9 (133) (k)))) rfl dX8_canBe_10 ?_
  refine lv_if_ne hM.1 hM.2.1 dX8_canBe_11 (tgt := 43) (by decide) (fun h_11 => ?_) (fun h_11 => ?_)
  ·
    refine lv_iconst (v := 0) hM.1 hM.2.1 dX8_canBe_43 (by decide) ?_
    exact z_iret hM hlk hr rfl hW hS (zF.of (by unfold r_X8_canBe; rw [pif_neg h_11]; first | done | rfl) rfl) dX8_canBe_44
  ·
    refine lv_aload_n hM.1 hM.2.1 dX8_canBe_14 rfl (lv_at hl 0 rfl) ?_
    refine z_getr hM hW zc8 hO.1 rfl 6 (by decide) lf_X8_26 (t := 9) (j := 106) rfl (hO.r 6 (by decide) (by decide)) dX8_canBe_15 (fun hd3_15 => ?_)
    refine lv_aload_n hM.1 hM.2.1 dX8_canBe_18 rfl (lv_at hl 0 rfl) ?_
    refine z_getr hM hW zc8 hO.1 rfl 33 (by decide) lf_X8_96 (t := 9) (j := 133) rfl (hO.r 33 (by decide) (by decide)) dX8_canBe_19 (fun hd4_19 => ?_)
    refine lv_iload_n hM.1 hM.2.1 dX8_canBe_22 rfl (lv_at hl 1 rfl) ?_
    refine z_iald hM hW hd4_19 rfl (vin_nI (hO.l 33 (by decide) (by decide)) (by have : mlen 33 = 300 := rfl; omega) (by decide)) (v := gi S 9 (133) (k)) ((congrArg (gi S 9 (133)) (nI_clamp (by omega))).trans rfl) dX8_canBe_23 ?_
    refine z_iald hM hW hd3_15 rfl (vin_L (hO.l 6 (by decide) (by decide)) hcp) (v := gi S 9 (106) (ix (gi S 9 (133) (k)))) rfl dX8_canBe_24 ?_
    refine lv_aload_n hM.1 hM.2.1 dX8_canBe_25 rfl (lv_at hl 0 rfl) ?_
    refine z_getr hM hW zc8 hO.1 rfl 16 (by decide) lf_X8_54 (t := 9) (j := 116) rfl (hO.r 16 (by decide) (by decide)) dX8_canBe_26 (fun hd5_26 => ?_)
    refine lv_aload_n hM.1 hM.2.1 dX8_canBe_29 rfl (lv_at hl 0 rfl) ?_
    refine z_getr hM hW zc8 hO.1 rfl 34 (by decide) lf_X8_99 (t := 9) (j := 134) rfl (hO.r 34 (by decide) (by decide)) dX8_canBe_30 (fun hd6_30 => ?_)
    refine lv_iload_n hM.1 hM.2.1 dX8_canBe_33 rfl (lv_at hl 1 rfl) ?_
    refine z_iald hM hW hd6_30 rfl (vin_nI (hO.l 34 (by decide) (by decide)) (by have : mlen 34 = 300 := rfl; omega) (by decide)) (v := gi S 9 (134) (k)) ((congrArg (gi S 9 (134)) (nI_clamp (by omega))).trans rfl) dX8_canBe_34 ?_
    refine z_iald hM hW hd5_26 rfl (vin_L (hO.l 16 (by decide) (by decide)) hcl) (v := gi S 9 (116) (ix (gi S 9 (134) (k)))) rfl dX8_canBe_35 ?_
    refine lv_icmp_ne hM.1 hM.2.1 dX8_canBe_36 (tgt := 43) (by decide) (fun h_36 => ?_) (fun h_36 => ?_)
    ·
      refine lv_iconst (v := 0) hM.1 hM.2.1 dX8_canBe_43 (by decide) ?_
      exact z_iret hM hlk hr rfl hW hS (zF.of (by unfold r_X8_canBe; rw [pif_pos h_11, pif_neg h_36]; first | done | rfl) rfl) dX8_canBe_44
    ·
      refine lv_iconst (v := 1) hM.1 hM.2.1 dX8_canBe_39 (by decide) ?_
      refine lv_goto hM.1 hM.2.1 dX8_canBe_40 (tgt := 44) (by decide) ?_
      exact z_iret hM hlk hr rfl hW hS (zF.of (by unfold r_X8_canBe; rw [pif_pos h_11, pif_pos h_36]; first | done | rfl) rfl) dX8_canBe_44

set_option maxHeartbeats 400000 in
set_option maxRecDepth 100000 in
theorem c_X8_take {l : Launch} {D : va_G} {ar : Nat → ClassId} {A : Nat → Prop} {Z : zZ} {S : zS} {cn k : Nat} (hO : mOK Z S.2.2) (hcn : gi S 8 0 44 = nI cn) (hcm : cn ≤ 300) (hk : k < cn) (hb : ∀ i, i < 300 → isB (gi S 11 132 i)) : zMet l yX8_take prog_10_method_6_code 3 none ({ frames := 0, cells := 0, slots := 0, locals := 0 } : Room) D ar A Z S [.ref (Z.1 8 (0)), .int (nI k)] rvV (zF () Z (s_X8_take S cn k)) := by
  refine z_body (by decide +kernel) (Nat.le_of_ble_eq_true rfl) ?_
  intro pX eX sX mX bX methX cX ls hM hr hlk hml hin hl hW hlo
  have hM : zM pX cX mX _ sX prog_10_method_6_code RX8 D ar := hM
  have hS : va_S A sX.heap sX.heap [] := va_S.rf
  have hl : lv_has ls 3 [(0, .ref (Z.1 8 (0))), (1, .int (nI k))] := hl
  have loop : ∀ (f j : Nat) (T : zS) (ls : Array Slot) (H : Heap) (locs : List Loc), j + f = cn - 1 → T.2.2 = S.2.2 → gi T 8 0 44 = nI (cn - 1) → (∀ i, i < 300 → isB (gi T 11 132 i)) → lMT f j T = s_X8_take S cn k → lv_has ls 3 [(2, .int (nI j)), (0, .ref (Z.1 8 (0))), (1, .int (nI k))] → zW D ar A Z T H → va_S A sX.heap H locs → W pX l eX ({ frames := 0, cells := 0, slots := 0, locals := 0 } : Room) sX mX ([.ref (Z.1 8 (0)), .int (nI k)] : List Value).toArray bX methX cX H locs 0 0 (MQ bX (zQ D ar A rvV (zF () Z (s_X8_take S cn k))) ([.ref (Z.1 8 (0)), .int (nI k)] : List Value).toArray sX 0 0 A) (F0 mX 12 ls []) := by
    intro f
    induction f with
    | zero =>
      intro j T ls H locs hj hT hT44 hTb hE hl hW hS
      have hc9 : nI (cn - 1) ≤ nI j := by rw [show j = cn - 1 by omega]; exact Int32.le_refl _
      refine lv_iload_n hM.1 hM.2.1 dX8_take_12 rfl (lv_at hl 0 rfl) ?_
      refine lv_aload_n hM.1 hM.2.1 dX8_take_13 rfl (lv_at hl 1 rfl) ?_
      refine z_get hM hW zc8 hO.1 rfl 44 (by decide) lf_X8_140 (v := .int (nI (cn - 1))) (congrArg Value.int (show gi T 8 (0) (44) = nI (cn - 1) from hT44)) dX8_take_14 ?_
      refine lv_icmp_ge hM.1 hM.2.1 dX8_take_17 (tgt := 194) (by decide) (fun _ => ?_) (fun h => absurd hc9 h)
      exact z_vret hM hlk hr hW hS (zF.of rfl hE) dX8_take_194
    | succ f ih =>
      intro j T ls H locs hj hT hT44 hTb hE hl hW hS
      have hc9 : ¬ nI (cn - 1) ≤ nI j := nI_ge (by omega) (by omega)
      refine lv_iload_n hM.1 hM.2.1 dX8_take_12 rfl (lv_at hl 0 rfl) ?_
      refine lv_aload_n hM.1 hM.2.1 dX8_take_13 rfl (lv_at hl 1 rfl) ?_
      refine z_get hM hW zc8 hO.1 rfl 44 (by decide) lf_X8_140 (v := .int (nI (cn - 1))) (congrArg Value.int (show gi T 8 (0) (44) = nI (cn - 1) from hT44)) dX8_take_14 ?_
      refine lv_icmp_ge hM.1 hM.2.1 dX8_take_17 (tgt := 194) (by decide) (fun h => absurd h hc9) (fun _ => ?_)
      refine lv_aload_n hM.1 hM.2.1 dX8_take_20 rfl (lv_at hl 1 rfl) ?_
      refine z_getr hM hW zc8 hO.1 rfl 32 (by decide) lf_X8_93 (t := 11) (j := 132) rfl ((gr_of hT).trans (hO.r 32 (by decide) (by decide))) dX8_take_21 (fun hd1_21 => ?_)
      refine lv_iload_n hM.1 hM.2.1 dX8_take_24 rfl (lv_at hl 0 rfl) ?_
      refine lv_aload_n hM.1 hM.2.1 dX8_take_25 rfl (lv_at hl 1 rfl) ?_
      refine z_getr hM hW zc8 hO.1 rfl 32 (by decide) lf_X8_93 (t := 11) (j := 132) rfl ((gr_of hT).trans (hO.r 32 (by decide) (by decide))) dX8_take_26 (fun hd2_26 => ?_)
      refine lv_iload_n hM.1 hM.2.1 dX8_take_29 rfl (lv_at hl 0 rfl) ?_
      refine lv_iconst (v := 1) hM.1 hM.2.1 dX8_take_30 (by decide) ?_
      refine lv_iadd hM.1 hM.2.1 dX8_take_31 ?_
      rw [← nI_succ]
      refine z_zald hM hW hd2_26 rfl (vin_nI (hO.l 32 (by decide) (by decide)) (by have : mlen 32 = 300 := rfl; omega) (by decide)) (v := gi T 11 (132) (j + 1)) ((congrArg (gi T 11 (132)) (nI_clamp (by omega))).trans rfl) dX8_take_32 ?_
      refine z_zast hM hW hS hd1_21 rfl (vin_nI (hO.l 32 (by decide) (by decide)) (by have : mlen 32 = 300 := rfl; omega) (by decide)) (narrow_isB (hTb _ (by omega))) dX8_take_33 (fun H locs hW hS => ?_)
      rw [nI_clamp (by omega)] at hW
      refine lv_aload_n hM.1 hM.2.1 dX8_take_34 rfl (lv_at hl 1 rfl) ?_
      refine z_getr hM hW zc8 hO.1 rfl 33 (by decide) lf_X8_96 (t := 9) (j := 133) rfl ((gr_of hT).trans (hO.r 33 (by decide) (by decide))) dX8_take_35 (fun hd3_35 => ?_)
      refine lv_iload_n hM.1 hM.2.1 dX8_take_38 rfl (lv_at hl 0 rfl) ?_
      refine lv_aload_n hM.1 hM.2.1 dX8_take_39 rfl (lv_at hl 1 rfl) ?_
      refine z_getr hM hW zc8 hO.1 rfl 33 (by decide) lf_X8_96 (t := 9) (j := 133) rfl ((gr_of hT).trans (hO.r 33 (by decide) (by decide))) dX8_take_40 (fun hd4_40 => ?_)
      refine lv_iload_n hM.1 hM.2.1 dX8_take_43 rfl (lv_at hl 0 rfl) ?_
      refine lv_iconst (v := 1) hM.1 hM.2.1 dX8_take_44 (by decide) ?_
      refine lv_iadd hM.1 hM.2.1 dX8_take_45 ?_
      rw [← nI_succ]
      refine z_iald hM hW hd4_40 rfl (vin_nI (hO.l 33 (by decide) (by decide)) (by have : mlen 33 = 300 := rfl; omega) (by decide)) (v := gi T 9 (133) (j + 1)) ((congrArg (gi (si T 11 (132) (j) (gi T 11 (132) (j + 1))) 9 (133)) (nI_clamp (by omega))).trans rfl) dX8_take_46 ?_
      refine z_iast hM hW hS hd3_35 rfl (vin_nI (hO.l 33 (by decide) (by decide)) (by have : mlen 33 = 300 := rfl; omega) (by decide)) dX8_take_47 (fun H locs hW hS => ?_)
      rw [nI_clamp (by omega)] at hW
      refine lv_aload_n hM.1 hM.2.1 dX8_take_48 rfl (lv_at hl 1 rfl) ?_
      refine z_getr hM hW zc8 hO.1 rfl 34 (by decide) lf_X8_99 (t := 9) (j := 134) rfl ((gr_of hT).trans (hO.r 34 (by decide) (by decide))) dX8_take_49 (fun hd5_49 => ?_)
      refine lv_iload_n hM.1 hM.2.1 dX8_take_52 rfl (lv_at hl 0 rfl) ?_
      refine lv_aload_n hM.1 hM.2.1 dX8_take_53 rfl (lv_at hl 1 rfl) ?_
      refine z_getr hM hW zc8 hO.1 rfl 34 (by decide) lf_X8_99 (t := 9) (j := 134) rfl ((gr_of hT).trans (hO.r 34 (by decide) (by decide))) dX8_take_54 (fun hd6_54 => ?_)
      refine lv_iload_n hM.1 hM.2.1 dX8_take_57 rfl (lv_at hl 0 rfl) ?_
      refine lv_iconst (v := 1) hM.1 hM.2.1 dX8_take_58 (by decide) ?_
      refine lv_iadd hM.1 hM.2.1 dX8_take_59 ?_
      rw [← nI_succ]
      refine z_iald hM hW hd6_54 rfl (vin_nI (hO.l 34 (by decide) (by decide)) (by have : mlen 34 = 300 := rfl; omega) (by decide)) (v := gi T 9 (134) (j + 1)) ((congrArg (gi (si (si T 11 (132) (j) (gi T 11 (132) (j + 1))) 9 (133) (j) (gi T 9 (133) (j + 1))) 9 (134)) (nI_clamp (by omega))).trans rfl) dX8_take_60 ?_
      refine z_iast hM hW hS hd5_49 rfl (vin_nI (hO.l 34 (by decide) (by decide)) (by have : mlen 34 = 300 := rfl; omega) (by decide)) dX8_take_61 (fun H locs hW hS => ?_)
      rw [nI_clamp (by omega)] at hW
      refine lv_aload_n hM.1 hM.2.1 dX8_take_62 rfl (lv_at hl 1 rfl) ?_
      refine z_getr hM hW zc8 hO.1 rfl 35 (by decide) lf_X8_102 (t := 9) (j := 135) rfl ((gr_of hT).trans (hO.r 35 (by decide) (by decide))) dX8_take_63 (fun hd7_63 => ?_)
      refine lv_iload_n hM.1 hM.2.1 dX8_take_66 rfl (lv_at hl 0 rfl) ?_
      refine lv_aload_n hM.1 hM.2.1 dX8_take_67 rfl (lv_at hl 1 rfl) ?_
      refine z_getr hM hW zc8 hO.1 rfl 35 (by decide) lf_X8_102 (t := 9) (j := 135) rfl ((gr_of hT).trans (hO.r 35 (by decide) (by decide))) dX8_take_68 (fun hd8_68 => ?_)
      refine lv_iload_n hM.1 hM.2.1 dX8_take_71 rfl (lv_at hl 0 rfl) ?_
      refine lv_iconst (v := 1) hM.1 hM.2.1 dX8_take_72 (by decide) ?_
      refine lv_iadd hM.1 hM.2.1 dX8_take_73 ?_
      rw [← nI_succ]
      refine z_iald hM hW hd8_68 rfl (vin_nI (hO.l 35 (by decide) (by decide)) (by have : mlen 35 = 300 := rfl; omega) (by decide)) (v := gi T 9 (135) (j + 1)) ((congrArg (gi (si (si (si T 11 (132) (j) (gi T 11 (132) (j + 1))) 9 (133) (j) (gi T 9 (133) (j + 1))) 9 (134) (j) (gi T 9 (134) (j + 1))) 9 (135)) (nI_clamp (by omega))).trans rfl) dX8_take_74 ?_
      refine z_iast hM hW hS hd7_63 rfl (vin_nI (hO.l 35 (by decide) (by decide)) (by have : mlen 35 = 300 := rfl; omega) (by decide)) dX8_take_75 (fun H locs hW hS => ?_)
      rw [nI_clamp (by omega)] at hW
      refine lv_aload_n hM.1 hM.2.1 dX8_take_76 rfl (lv_at hl 1 rfl) ?_
      refine z_getr hM hW zc8 hO.1 rfl 36 (by decide) lf_X8_105 (t := 9) (j := 136) rfl ((gr_of hT).trans (hO.r 36 (by decide) (by decide))) dX8_take_77 (fun hd9_77 => ?_)
      refine lv_iload_n hM.1 hM.2.1 dX8_take_80 rfl (lv_at hl 0 rfl) ?_
      refine lv_aload_n hM.1 hM.2.1 dX8_take_81 rfl (lv_at hl 1 rfl) ?_
      refine z_getr hM hW zc8 hO.1 rfl 36 (by decide) lf_X8_105 (t := 9) (j := 136) rfl ((gr_of hT).trans (hO.r 36 (by decide) (by decide))) dX8_take_82 (fun hd10_82 => ?_)
      refine lv_iload_n hM.1 hM.2.1 dX8_take_85 rfl (lv_at hl 0 rfl) ?_
      refine lv_iconst (v := 1) hM.1 hM.2.1 dX8_take_86 (by decide) ?_
      refine lv_iadd hM.1 hM.2.1 dX8_take_87 ?_
      rw [← nI_succ]
      refine z_iald hM hW hd10_82 rfl (vin_nI (hO.l 36 (by decide) (by decide)) (by have : mlen 36 = 300 := rfl; omega) (by decide)) (v := gi T 9 (136) (j + 1)) ((congrArg (gi (si (si (si (si T 11 (132) (j) (gi T 11 (132) (j + 1))) 9 (133) (j) (gi T 9 (133) (j + 1))) 9 (134) (j) (gi T 9 (134) (j + 1))) 9 (135) (j) (gi T 9 (135) (j + 1))) 9 (136)) (nI_clamp (by omega))).trans rfl) dX8_take_88 ?_
      refine z_iast hM hW hS hd9_77 rfl (vin_nI (hO.l 36 (by decide) (by decide)) (by have : mlen 36 = 300 := rfl; omega) (by decide)) dX8_take_89 (fun H locs hW hS => ?_)
      rw [nI_clamp (by omega)] at hW
      refine lv_aload_n hM.1 hM.2.1 dX8_take_90 rfl (lv_at hl 1 rfl) ?_
      refine z_getr hM hW zc8 hO.1 rfl 37 (by decide) lf_X8_108 (t := 9) (j := 137) rfl ((gr_of hT).trans (hO.r 37 (by decide) (by decide))) dX8_take_91 (fun hd11_91 => ?_)
      refine lv_iload_n hM.1 hM.2.1 dX8_take_94 rfl (lv_at hl 0 rfl) ?_
      refine lv_aload_n hM.1 hM.2.1 dX8_take_95 rfl (lv_at hl 1 rfl) ?_
      refine z_getr hM hW zc8 hO.1 rfl 37 (by decide) lf_X8_108 (t := 9) (j := 137) rfl ((gr_of hT).trans (hO.r 37 (by decide) (by decide))) dX8_take_96 (fun hd12_96 => ?_)
      refine lv_iload_n hM.1 hM.2.1 dX8_take_99 rfl (lv_at hl 0 rfl) ?_
      refine lv_iconst (v := 1) hM.1 hM.2.1 dX8_take_100 (by decide) ?_
      refine lv_iadd hM.1 hM.2.1 dX8_take_101 ?_
      rw [← nI_succ]
      refine z_iald hM hW hd12_96 rfl (vin_nI (hO.l 37 (by decide) (by decide)) (by have : mlen 37 = 300 := rfl; omega) (by decide)) (v := gi T 9 (137) (j + 1)) ((congrArg (gi (si (si (si (si (si T 11 (132) (j) (gi T 11 (132) (j + 1))) 9 (133) (j) (gi T 9 (133) (j + 1))) 9 (134) (j) (gi T 9 (134) (j + 1))) 9 (135) (j) (gi T 9 (135) (j + 1))) 9 (136) (j) (gi T 9 (136) (j + 1))) 9 (137)) (nI_clamp (by omega))).trans rfl) dX8_take_102 ?_
      refine z_iast hM hW hS hd11_91 rfl (vin_nI (hO.l 37 (by decide) (by decide)) (by have : mlen 37 = 300 := rfl; omega) (by decide)) dX8_take_103 (fun H locs hW hS => ?_)
      rw [nI_clamp (by omega)] at hW
      refine lv_aload_n hM.1 hM.2.1 dX8_take_104 rfl (lv_at hl 1 rfl) ?_
      refine z_getr hM hW zc8 hO.1 rfl 38 (by decide) lf_X8_111 (t := 9) (j := 138) rfl ((gr_of hT).trans (hO.r 38 (by decide) (by decide))) dX8_take_105 (fun hd13_105 => ?_)
      refine lv_iload_n hM.1 hM.2.1 dX8_take_108 rfl (lv_at hl 0 rfl) ?_
      refine lv_aload_n hM.1 hM.2.1 dX8_take_109 rfl (lv_at hl 1 rfl) ?_
      refine z_getr hM hW zc8 hO.1 rfl 38 (by decide) lf_X8_111 (t := 9) (j := 138) rfl ((gr_of hT).trans (hO.r 38 (by decide) (by decide))) dX8_take_110 (fun hd14_110 => ?_)
      refine lv_iload_n hM.1 hM.2.1 dX8_take_113 rfl (lv_at hl 0 rfl) ?_
      refine lv_iconst (v := 1) hM.1 hM.2.1 dX8_take_114 (by decide) ?_
      refine lv_iadd hM.1 hM.2.1 dX8_take_115 ?_
      rw [← nI_succ]
      refine z_iald hM hW hd14_110 rfl (vin_nI (hO.l 38 (by decide) (by decide)) (by have : mlen 38 = 300 := rfl; omega) (by decide)) (v := gi T 9 (138) (j + 1)) ((congrArg (gi (si (si (si (si (si (si T 11 (132) (j) (gi T 11 (132) (j + 1))) 9 (133) (j) (gi T 9 (133) (j + 1))) 9 (134) (j) (gi T 9 (134) (j + 1))) 9 (135) (j) (gi T 9 (135) (j + 1))) 9 (136) (j) (gi T 9 (136) (j + 1))) 9 (137) (j) (gi T 9 (137) (j + 1))) 9 (138)) (nI_clamp (by omega))).trans rfl) dX8_take_116 ?_
      refine z_iast hM hW hS hd13_105 rfl (vin_nI (hO.l 38 (by decide) (by decide)) (by have : mlen 38 = 300 := rfl; omega) (by decide)) dX8_take_117 (fun H locs hW hS => ?_)
      rw [nI_clamp (by omega)] at hW
      refine lv_aload_n hM.1 hM.2.1 dX8_take_118 rfl (lv_at hl 1 rfl) ?_
      refine z_getr hM hW zc8 hO.1 rfl 39 (by decide) lf_X8_114 (t := 9) (j := 139) rfl ((gr_of hT).trans (hO.r 39 (by decide) (by decide))) dX8_take_119 (fun hd15_119 => ?_)
      refine lv_iload_n hM.1 hM.2.1 dX8_take_122 rfl (lv_at hl 0 rfl) ?_
      refine lv_aload_n hM.1 hM.2.1 dX8_take_123 rfl (lv_at hl 1 rfl) ?_
      refine z_getr hM hW zc8 hO.1 rfl 39 (by decide) lf_X8_114 (t := 9) (j := 139) rfl ((gr_of hT).trans (hO.r 39 (by decide) (by decide))) dX8_take_124 (fun hd16_124 => ?_)
      refine lv_iload_n hM.1 hM.2.1 dX8_take_127 rfl (lv_at hl 0 rfl) ?_
      refine lv_iconst (v := 1) hM.1 hM.2.1 dX8_take_128 (by decide) ?_
      refine lv_iadd hM.1 hM.2.1 dX8_take_129 ?_
      rw [← nI_succ]
      refine z_iald hM hW hd16_124 rfl (vin_nI (hO.l 39 (by decide) (by decide)) (by have : mlen 39 = 300 := rfl; omega) (by decide)) (v := gi T 9 (139) (j + 1)) ((congrArg (gi (si (si (si (si (si (si (si T 11 (132) (j) (gi T 11 (132) (j + 1))) 9 (133) (j) (gi T 9 (133) (j + 1))) 9 (134) (j) (gi T 9 (134) (j + 1))) 9 (135) (j) (gi T 9 (135) (j + 1))) 9 (136) (j) (gi T 9 (136) (j + 1))) 9 (137) (j) (gi T 9 (137) (j + 1))) 9 (138) (j) (gi T 9 (138) (j + 1))) 9 (139)) (nI_clamp (by omega))).trans rfl) dX8_take_130 ?_
      refine z_iast hM hW hS hd15_119 rfl (vin_nI (hO.l 39 (by decide) (by decide)) (by have : mlen 39 = 300 := rfl; omega) (by decide)) dX8_take_131 (fun H locs hW hS => ?_)
      rw [nI_clamp (by omega)] at hW
      refine lv_aload_n hM.1 hM.2.1 dX8_take_132 rfl (lv_at hl 1 rfl) ?_
      refine z_getr hM hW zc8 hO.1 rfl 43 (by decide) lf_X8_126 (t := 10) (j := 143) rfl ((gr_of hT).trans (hO.r 43 (by decide) (by decide))) dX8_take_133 (fun hd17_133 => ?_)
      refine lv_iload_n hM.1 hM.2.1 dX8_take_136 rfl (lv_at hl 0 rfl) ?_
      refine lv_aload_n hM.1 hM.2.1 dX8_take_137 rfl (lv_at hl 1 rfl) ?_
      refine z_getr hM hW zc8 hO.1 rfl 43 (by decide) lf_X8_126 (t := 10) (j := 143) rfl ((gr_of hT).trans (hO.r 43 (by decide) (by decide))) dX8_take_138 (fun hd18_138 => ?_)
      refine lv_iload_n hM.1 hM.2.1 dX8_take_141 rfl (lv_at hl 0 rfl) ?_
      refine lv_iconst (v := 1) hM.1 hM.2.1 dX8_take_142 (by decide) ?_
      refine lv_iadd hM.1 hM.2.1 dX8_take_143 ?_
      rw [← nI_succ]
      refine z_lald hM hW hd18_138 rfl (vin_nI (hO.l 43 (by decide) (by decide)) (by have : mlen 43 = 300 := rfl; omega) (by decide)) (v := gj T 10 (143) (j + 1)) ((congrArg (gj (si (si (si (si (si (si (si (si T 11 (132) (j) (gi T 11 (132) (j + 1))) 9 (133) (j) (gi T 9 (133) (j + 1))) 9 (134) (j) (gi T 9 (134) (j + 1))) 9 (135) (j) (gi T 9 (135) (j + 1))) 9 (136) (j) (gi T 9 (136) (j + 1))) 9 (137) (j) (gi T 9 (137) (j + 1))) 9 (138) (j) (gi T 9 (138) (j + 1))) 9 (139) (j) (gi T 9 (139) (j + 1))) 10 (143)) (nI_clamp (by omega))).trans rfl) dX8_take_144 ?_
      refine z_last hM hW hS hd17_133 rfl (vin_nI (hO.l 43 (by decide) (by decide)) (by have : mlen 43 = 300 := rfl; omega) (by decide)) dX8_take_145 (fun H locs hW hS => ?_)
      rw [nI_clamp (by omega)] at hW
      refine lv_aload_n hM.1 hM.2.1 dX8_take_146 rfl (lv_at hl 1 rfl) ?_
      refine z_getr hM hW zc8 hO.1 rfl 40 (by decide) lf_X8_117 (t := 9) (j := 140) rfl ((gr_of hT).trans (hO.r 40 (by decide) (by decide))) dX8_take_147 (fun hd19_147 => ?_)
      refine lv_iload_n hM.1 hM.2.1 dX8_take_150 rfl (lv_at hl 0 rfl) ?_
      refine lv_aload_n hM.1 hM.2.1 dX8_take_151 rfl (lv_at hl 1 rfl) ?_
      refine z_getr hM hW zc8 hO.1 rfl 40 (by decide) lf_X8_117 (t := 9) (j := 140) rfl ((gr_of hT).trans (hO.r 40 (by decide) (by decide))) dX8_take_152 (fun hd20_152 => ?_)
      refine lv_iload_n hM.1 hM.2.1 dX8_take_155 rfl (lv_at hl 0 rfl) ?_
      refine lv_iconst (v := 1) hM.1 hM.2.1 dX8_take_156 (by decide) ?_
      refine lv_iadd hM.1 hM.2.1 dX8_take_157 ?_
      rw [← nI_succ]
      refine z_iald hM hW hd20_152 rfl (vin_nI (hO.l 40 (by decide) (by decide)) (by have : mlen 40 = 300 := rfl; omega) (by decide)) (v := gi T 9 (140) (j + 1)) ((congrArg (gi (sj (si (si (si (si (si (si (si (si T 11 (132) (j) (gi T 11 (132) (j + 1))) 9 (133) (j) (gi T 9 (133) (j + 1))) 9 (134) (j) (gi T 9 (134) (j + 1))) 9 (135) (j) (gi T 9 (135) (j + 1))) 9 (136) (j) (gi T 9 (136) (j + 1))) 9 (137) (j) (gi T 9 (137) (j + 1))) 9 (138) (j) (gi T 9 (138) (j + 1))) 9 (139) (j) (gi T 9 (139) (j + 1))) 10 (143) (j) (gj T 10 (143) (j + 1))) 9 (140)) (nI_clamp (by omega))).trans rfl) dX8_take_158 ?_
      refine z_iast hM hW hS hd19_147 rfl (vin_nI (hO.l 40 (by decide) (by decide)) (by have : mlen 40 = 300 := rfl; omega) (by decide)) dX8_take_159 (fun H locs hW hS => ?_)
      rw [nI_clamp (by omega)] at hW
      refine lv_aload_n hM.1 hM.2.1 dX8_take_160 rfl (lv_at hl 1 rfl) ?_
      refine z_getr hM hW zc8 hO.1 rfl 41 (by decide) lf_X8_120 (t := 9) (j := 141) rfl ((gr_of hT).trans (hO.r 41 (by decide) (by decide))) dX8_take_161 (fun hd21_161 => ?_)
      refine lv_iload_n hM.1 hM.2.1 dX8_take_164 rfl (lv_at hl 0 rfl) ?_
      refine lv_aload_n hM.1 hM.2.1 dX8_take_165 rfl (lv_at hl 1 rfl) ?_
      refine z_getr hM hW zc8 hO.1 rfl 41 (by decide) lf_X8_120 (t := 9) (j := 141) rfl ((gr_of hT).trans (hO.r 41 (by decide) (by decide))) dX8_take_166 (fun hd22_166 => ?_)
      refine lv_iload_n hM.1 hM.2.1 dX8_take_169 rfl (lv_at hl 0 rfl) ?_
      refine lv_iconst (v := 1) hM.1 hM.2.1 dX8_take_170 (by decide) ?_
      refine lv_iadd hM.1 hM.2.1 dX8_take_171 ?_
      rw [← nI_succ]
      refine z_iald hM hW hd22_166 rfl (vin_nI (hO.l 41 (by decide) (by decide)) (by have : mlen 41 = 300 := rfl; omega) (by decide)) (v := gi T 9 (141) (j + 1)) ((congrArg (gi (si (sj (si (si (si (si (si (si (si (si T 11 (132) (j) (gi T 11 (132) (j + 1))) 9 (133) (j) (gi T 9 (133) (j + 1))) 9 (134) (j) (gi T 9 (134) (j + 1))) 9 (135) (j) (gi T 9 (135) (j + 1))) 9 (136) (j) (gi T 9 (136) (j + 1))) 9 (137) (j) (gi T 9 (137) (j + 1))) 9 (138) (j) (gi T 9 (138) (j + 1))) 9 (139) (j) (gi T 9 (139) (j + 1))) 10 (143) (j) (gj T 10 (143) (j + 1))) 9 (140) (j) (gi T 9 (140) (j + 1))) 9 (141)) (nI_clamp (by omega))).trans rfl) dX8_take_172 ?_
      refine z_iast hM hW hS hd21_161 rfl (vin_nI (hO.l 41 (by decide) (by decide)) (by have : mlen 41 = 300 := rfl; omega) (by decide)) dX8_take_173 (fun H locs hW hS => ?_)
      rw [nI_clamp (by omega)] at hW
      refine lv_aload_n hM.1 hM.2.1 dX8_take_174 rfl (lv_at hl 1 rfl) ?_
      refine z_getr hM hW zc8 hO.1 rfl 42 (by decide) lf_X8_123 (t := 9) (j := 142) rfl ((gr_of hT).trans (hO.r 42 (by decide) (by decide))) dX8_take_175 (fun hd23_175 => ?_)
      refine lv_iload_n hM.1 hM.2.1 dX8_take_178 rfl (lv_at hl 0 rfl) ?_
      refine lv_aload_n hM.1 hM.2.1 dX8_take_179 rfl (lv_at hl 1 rfl) ?_
      refine z_getr hM hW zc8 hO.1 rfl 42 (by decide) lf_X8_123 (t := 9) (j := 142) rfl ((gr_of hT).trans (hO.r 42 (by decide) (by decide))) dX8_take_180 (fun hd24_180 => ?_)
      refine lv_iload_n hM.1 hM.2.1 dX8_take_183 rfl (lv_at hl 0 rfl) ?_
      refine lv_iconst (v := 1) hM.1 hM.2.1 dX8_take_184 (by decide) ?_
      refine lv_iadd hM.1 hM.2.1 dX8_take_185 ?_
      rw [← nI_succ]
      refine z_iald hM hW hd24_180 rfl (vin_nI (hO.l 42 (by decide) (by decide)) (by have : mlen 42 = 300 := rfl; omega) (by decide)) (v := gi T 9 (142) (j + 1)) ((congrArg (gi (si (si (sj (si (si (si (si (si (si (si (si T 11 (132) (j) (gi T 11 (132) (j + 1))) 9 (133) (j) (gi T 9 (133) (j + 1))) 9 (134) (j) (gi T 9 (134) (j + 1))) 9 (135) (j) (gi T 9 (135) (j + 1))) 9 (136) (j) (gi T 9 (136) (j + 1))) 9 (137) (j) (gi T 9 (137) (j + 1))) 9 (138) (j) (gi T 9 (138) (j + 1))) 9 (139) (j) (gi T 9 (139) (j + 1))) 10 (143) (j) (gj T 10 (143) (j + 1))) 9 (140) (j) (gi T 9 (140) (j + 1))) 9 (141) (j) (gi T 9 (141) (j + 1))) 9 (142)) (nI_clamp (by omega))).trans rfl) dX8_take_186 ?_
      refine z_iast hM hW hS hd23_175 rfl (vin_nI (hO.l 42 (by decide) (by decide)) (by have : mlen 42 = 300 := rfl; omega) (by decide)) dX8_take_187 (fun H locs hW hS => ?_)
      rw [nI_clamp (by omega)] at hW
      refine lv_iinc hM.1 hM.2.1 dX8_take_188 hl (k := 0) rfl (v := nI (j + 1)) (nI_succ _).symm (by decide) (lv' := [(2, .int (nI (j + 1))), (0, .ref (Z.1 8 (0))), (1, .int (nI k))]) rfl (fun ls hl => ?_)
      refine lv_goto hM.1 hM.2.1 dX8_take_191 (tgt := 12) (by decide) ?_
      exact ih (j + 1) (mShift T j) ls H locs (by omega) hT hT44 (fun i hi => by rw [mShift_b]; split <;> exact hTb _ (by omega)) hE (lv_sub hl [0, 1, 2] rfl) hW hS
  refine lv_aload_n hM.1 hM.2.1 dX8_take_0 rfl (lv_at hl 0 rfl) ?_
  refine lv_dup hM.1 hM.2.1 dX8_take_1 rfl ?_
  refine z_get hM hW zc8 hO.1 rfl 44 (by decide) lf_X8_140 (v := .int (nI cn)) (congrArg Value.int (show gi S 8 (0) (44) = nI cn from hcn)) dX8_take_2 ?_
  refine lv_iconst (v := 1) hM.1 hM.2.1 dX8_take_5 (by decide) ?_
  refine lv_isub hM.1 hM.2.1 dX8_take_6 ?_
  rw [nI_sub1 (by omega) (by omega)]
  refine z_puti hM hW hS zc8 hO.1 rfl 44 (by decide) rfl lf_X8_140 (Or.inl rfl) (tyX8 44) (tyX8_ok 44 (by decide)) rfl rfl dX8_take_7 (fun H locs hW hS => ?_)
  refine lv_iload_n hM.1 hM.2.1 dX8_take_10 rfl (lv_at hl 1 rfl) ?_
  refine lv_istore_n hM.1 hM.2.1 dX8_take_11 rfl hl (by decide) (lv' := [(2, .int (nI k)), (0, .ref (Z.1 8 (0))), (1, .int (nI k))]) rfl (fun ls hl => ?_)
  exact loop (cn - 1 - k) k (si S 8 (0) (44) (nI (cn - 1))) ls _ _ (by omega) rfl (by rw [gi_si, if_pos ⟨rfl, rfl, rfl⟩]) hb rfl (lv_sub hl [0, 1, 2] rfl) hW hS
