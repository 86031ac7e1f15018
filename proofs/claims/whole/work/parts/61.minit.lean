def lC1 : Nat → Nat → zS → zS
  | 0, _, T => T
  | f + 1, k, T => lC1 f (k + 1) (si (si T 9 (109) (k) (1)) 9 (108) (k) (1))
def lC2 : Nat → Nat → zS → zS
  | 0, _, T => T
  | f + 1, k, T => lC2 f (k + 1) (si T 9 (111) (k) ((-1)))
def mCt (n : Nat) (T : zS) : zS := lC2 4 0 (si (si (si (lC1 n 0 (si T 8 0 0 (nI n))) 9 (108) (7) (((nI n) / (2)) + (1))) 9 (108) (8) (((nI n) / (2)) + (1))) 8 (0) (10) (1))
theorem cl0 {x : Int32} (h : 1 ≤ x) : ¬ x < 0 := by
  have e1 : (1 : Int32).toInt = 1 := rfl
  rw [Int32.le_iff_toInt_le, e1] at h
  rw [Int32.lt_iff_toInt_lt, Int32.toInt_zero]; omega
theorem cl1 {x : Int32} (h : 1 ≤ x) : 1 ≤ ix x := by
  have e1 : (1 : Int32).toInt = 1 := rfl
  rw [Int32.le_iff_toInt_le, e1] at h
  show 1 ≤ x.toInt.toNat; omega
theorem cl7 {x : Int32} (_ : 1 ≤ x) (h : x ≤ 7) : ix x ≤ 7 := by
  have e7 : (7 : Int32).toInt = 7 := rfl
  rw [Int32.le_iff_toInt_le, e7] at h
  show x.toInt.toNat ≤ 7; omega
noncomputable def clampN (x : Int32) : Nat := pif (1 ≤ x) (pif (x ≤ 7) (ix x) 7) 1
set_option maxHeartbeats 400000 in
set_option maxRecDepth 100000 in
theorem c_X8_init {l : Launch} {D : va_G} {ar : Nat → ClassId} {A : Nat → Prop} {Z : zZ} {S : zS} {x : Int32} (hi : Z.2.1 8 0) (hfz : ∀ k i, 9 ≤ k → 100 ≤ i → ¬ Z.2.1 k i) : zMet l yX8_init prog_10_method_1_code 3 none ({ frames := 1, cells := 39, slots := 5448, locals := 12 } : Room) D ar A Z S [.ref (Z.1 8 (0)), .int (x)] rvV (fun _ Z' S' => ∃ T, mdI 45 Z S Z' T ∧ S' = mCt (clampN x) T) := by
  refine z_body (by decide +kernel) (Nat.le_of_ble_eq_true rfl) ?_
  intro pX eX sX mX bX methX cX ls hM hr hlk hml hin hl hW hlo
  have hM : zM pX cX mX _ sX prog_10_method_1_code RX8 D ar := hM
  have hS : va_S A sX.heap sX.heap [] := va_S.rf
  have hl : lv_has ls 3 [(0, .ref (Z.1 8 (0))), (1, .int (x))] := hl
  refine lv_aload_n hM.1 hM.2.1 dX8_init_0 rfl (lv_at hl 0 rfl) ?_
  refine W.objInit hM.1 hM.2.1 hM.2.2.1 (hM.2.2.2.1 _ lm_X8_1) (hM.2.2.2.1 _ li_objectInit) (hM.2.2.2.1 _ lc_objectInit) rfl (hl.1.trans hml.symm) rfl dX8_init_1 (Nat.le_of_ble_eq_true rfl) (Nat.le_of_ble_eq_true rfl) ?_
  refine lv_aload_n hM.1 hM.2.1 dX8_init_4 rfl (lv_at hl 0 rfl) ?_
  refine lv_bipush (v := 7) hM.1 hM.2.1 dX8_init_5 (by decide) ?_
  have md : mdI 0 Z S Z S := mdI.zero
  have md := md.skip (f := 0) rfl
  refine z_newa hM hW hS hlo (k := 10) (100 + 1) (by decide) (fun q => hfz 10 (100 + 1) (by decide) (by decide) (((md.1 10 (100 + 1) (fun ⟨g, q1, _, _, q2⟩ => by omega)).1).mp q)) (atype := .long) (ty := .long) rfl 1 rfl la_long (fun _ _ h => h) (fun _ => rfl) (x := 7) (n := 7) (by decide) rfl (by decide) (Nat.le_of_ble_eq_true rfl) (Nat.le_of_ble_eq_true rfl) dX8_init_7 (fun Zm1 H hx hW hS => ?_)
  have dmm1_0 : Zm1.2.1 8 (0) := (hx.2.1 _ _).mpr (Or.inl hi)
  have ham1_0 : Zm1.1 8 (0) = Z.1 8 (0) := (hx.1 _ _ ((by omega))).1.trans rfl
  have hda : Zm1.2.1 10 (100 + 1) := (hx.2.1 _ _).mpr (Or.inr ⟨rfl, rfl⟩)
  refine z_putr hM hW hS zc8 dmm1_0 ham1_0 1 (by decide) (t := 10) (j := 100 + 1) rfl hda lf_X8_7 (Or.inr ⟨hin, rfl⟩) (tyX8 1) (tyX8_ok 1 (by decide)) (fun _ => rfl) (fun _ => rfl) dX8_init_9 (fun H locs hW hS => ?_)
  obtain ⟨Tm1, hT9⟩ : ∃ q, q = (sr (sz S 10 (100 + 1)) 8 (0) (1) (some (100 + 1))) := ⟨_, rfl⟩
  have hW : zW D ar A Zm1 Tm1 H := by rw [hT9]; exact hW
  have md : mdI 2 Z S Zm1 Tm1 := by rw [hT9]; exact md.step (K := 10) rfl (by decide) hx
  refine lv_aload_n hM.1 hM.2.1 dX8_init_12 rfl (lv_at hl 0 rfl) ?_
  refine lv_bipush (v := 7) hM.1 hM.2.1 dX8_init_13 (by decide) ?_
  refine z_newa hM hW hS hlo (k := 9) (100 + 2) (by decide) (fun q => hfz 9 (100 + 2) (by decide) (by decide) (((md.1 9 (100 + 2) (fun ⟨g, q1, _, _, q2⟩ => by omega)).1).mp q)) (atype := .int) (ty := .int) rfl 0 rfl la_int (fun _ _ h => h) (fun _ => rfl) (x := 7) (n := 7) (by decide) rfl (by decide) (Nat.le_of_ble_eq_true rfl) (Nat.le_of_ble_eq_true rfl) dX8_init_15 (fun Zm2 H hx hW hS => ?_)
  have dmm2_0 : Zm2.2.1 8 (0) := (hx.2.1 _ _).mpr (Or.inl dmm1_0)
  have ham2_0 : Zm2.1 8 (0) = Z.1 8 (0) := (hx.1 _ _ ((by omega))).1.trans ham1_0
  have hda : Zm2.2.1 9 (100 + 2) := (hx.2.1 _ _).mpr (Or.inr ⟨rfl, rfl⟩)
  refine z_putr hM hW hS zc8 dmm2_0 ham2_0 2 (by decide) (t := 9) (j := 100 + 2) rfl hda lf_X8_13 (Or.inr ⟨hin, rfl⟩) (tyX8 2) (tyX8_ok 2 (by decide)) (fun _ => rfl) (fun _ => rfl) dX8_init_17 (fun H locs hW hS => ?_)
  obtain ⟨Tm2, hT9⟩ : ∃ q, q = (sr (sz Tm1 9 (100 + 2)) 8 (0) (2) (some (100 + 2))) := ⟨_, rfl⟩
  have hW : zW D ar A Zm2 Tm2 H := by rw [hT9]; exact hW
  have md : mdI 3 Z S Zm2 Tm2 := by rw [hT9]; exact md.step (K := 9) rfl (by decide) hx
  refine lv_aload_n hM.1 hM.2.1 dX8_init_20 rfl (lv_at hl 0 rfl) ?_
  refine lv_bipush (v := 7) hM.1 hM.2.1 dX8_init_21 (by decide) ?_
  refine z_newa hM hW hS hlo (k := 9) (100 + 3) (by decide) (fun q => hfz 9 (100 + 3) (by decide) (by decide) (((md.1 9 (100 + 3) (fun ⟨g, q1, _, _, q2⟩ => by omega)).1).mp q)) (atype := .int) (ty := .int) rfl 0 rfl la_int (fun _ _ h => h) (fun _ => rfl) (x := 7) (n := 7) (by decide) rfl (by decide) (Nat.le_of_ble_eq_true rfl) (Nat.le_of_ble_eq_true rfl) dX8_init_23 (fun Zm3 H hx hW hS => ?_)
  have dmm3_0 : Zm3.2.1 8 (0) := (hx.2.1 _ _).mpr (Or.inl dmm2_0)
  have ham3_0 : Zm3.1 8 (0) = Z.1 8 (0) := (hx.1 _ _ ((by omega))).1.trans ham2_0
  have hda : Zm3.2.1 9 (100 + 3) := (hx.2.1 _ _).mpr (Or.inr ⟨rfl, rfl⟩)
  refine z_putr hM hW hS zc8 dmm3_0 ham3_0 3 (by decide) (t := 9) (j := 100 + 3) rfl hda lf_X8_17 (Or.inr ⟨hin, rfl⟩) (tyX8 3) (tyX8_ok 3 (by decide)) (fun _ => rfl) (fun _ => rfl) dX8_init_25 (fun H locs hW hS => ?_)
  obtain ⟨Tm3, hT9⟩ : ∃ q, q = (sr (sz Tm2 9 (100 + 3)) 8 (0) (3) (some (100 + 3))) := ⟨_, rfl⟩
  have hW : zW D ar A Zm3 Tm3 H := by rw [hT9]; exact hW
  have md : mdI 4 Z S Zm3 Tm3 := by rw [hT9]; exact md.step (K := 9) rfl (by decide) hx
  refine lv_aload_n hM.1 hM.2.1 dX8_init_28 rfl (lv_at hl 0 rfl) ?_
  refine lv_bipush (v := 7) hM.1 hM.2.1 dX8_init_29 (by decide) ?_
  refine z_newa hM hW hS hlo (k := 9) (100 + 4) (by decide) (fun q => hfz 9 (100 + 4) (by decide) (by decide) (((md.1 9 (100 + 4) (fun ⟨g, q1, _, _, q2⟩ => by omega)).1).mp q)) (atype := .int) (ty := .int) rfl 0 rfl la_int (fun _ _ h => h) (fun _ => rfl) (x := 7) (n := 7) (by decide) rfl (by decide) (Nat.le_of_ble_eq_true rfl) (Nat.le_of_ble_eq_true rfl) dX8_init_31 (fun Zm4 H hx hW hS => ?_)
  have dmm4_0 : Zm4.2.1 8 (0) := (hx.2.1 _ _).mpr (Or.inl dmm3_0)
  have ham4_0 : Zm4.1 8 (0) = Z.1 8 (0) := (hx.1 _ _ ((by omega))).1.trans ham3_0
  have hda : Zm4.2.1 9 (100 + 4) := (hx.2.1 _ _).mpr (Or.inr ⟨rfl, rfl⟩)
  refine z_putr hM hW hS zc8 dmm4_0 ham4_0 4 (by decide) (t := 9) (j := 100 + 4) rfl hda lf_X8_20 (Or.inr ⟨hin, rfl⟩) (tyX8 4) (tyX8_ok 4 (by decide)) (fun _ => rfl) (fun _ => rfl) dX8_init_33 (fun H locs hW hS => ?_)
  obtain ⟨Tm4, hT9⟩ : ∃ q, q = (sr (sz Tm3 9 (100 + 4)) 8 (0) (4) (some (100 + 4))) := ⟨_, rfl⟩
  have hW : zW D ar A Zm4 Tm4 H := by rw [hT9]; exact hW
  have md : mdI 5 Z S Zm4 Tm4 := by rw [hT9]; exact md.step (K := 9) rfl (by decide) hx
  refine lv_aload_n hM.1 hM.2.1 dX8_init_36 rfl (lv_at hl 0 rfl) ?_
  refine lv_bipush (v := 7) hM.1 hM.2.1 dX8_init_37 (by decide) ?_
  refine z_newa hM hW hS hlo (k := 9) (100 + 5) (by decide) (fun q => hfz 9 (100 + 5) (by decide) (by decide) (((md.1 9 (100 + 5) (fun ⟨g, q1, _, _, q2⟩ => by omega)).1).mp q)) (atype := .int) (ty := .int) rfl 0 rfl la_int (fun _ _ h => h) (fun _ => rfl) (x := 7) (n := 7) (by decide) rfl (by decide) (Nat.le_of_ble_eq_true rfl) (Nat.le_of_ble_eq_true rfl) dX8_init_39 (fun Zm5 H hx hW hS => ?_)
  have dmm5_0 : Zm5.2.1 8 (0) := (hx.2.1 _ _).mpr (Or.inl dmm4_0)
  have ham5_0 : Zm5.1 8 (0) = Z.1 8 (0) := (hx.1 _ _ ((by omega))).1.trans ham4_0
  have hda : Zm5.2.1 9 (100 + 5) := (hx.2.1 _ _).mpr (Or.inr ⟨rfl, rfl⟩)
  refine z_putr hM hW hS zc8 dmm5_0 ham5_0 5 (by decide) (t := 9) (j := 100 + 5) rfl hda lf_X8_23 (Or.inr ⟨hin, rfl⟩) (tyX8 5) (tyX8_ok 5 (by decide)) (fun _ => rfl) (fun _ => rfl) dX8_init_41 (fun H locs hW hS => ?_)
  obtain ⟨Tm5, hT9⟩ : ∃ q, q = (sr (sz Tm4 9 (100 + 5)) 8 (0) (5) (some (100 + 5))) := ⟨_, rfl⟩
  have hW : zW D ar A Zm5 Tm5 H := by rw [hT9]; exact hW
  have md : mdI 6 Z S Zm5 Tm5 := by rw [hT9]; exact md.step (K := 9) rfl (by decide) hx
  refine lv_aload_n hM.1 hM.2.1 dX8_init_44 rfl (lv_at hl 0 rfl) ?_
  refine lv_bipush (v := 7) hM.1 hM.2.1 dX8_init_45 (by decide) ?_
  refine z_newa hM hW hS hlo (k := 9) (100 + 6) (by decide) (fun q => hfz 9 (100 + 6) (by decide) (by decide) (((md.1 9 (100 + 6) (fun ⟨g, q1, _, _, q2⟩ => by omega)).1).mp q)) (atype := .int) (ty := .int) rfl 0 rfl la_int (fun _ _ h => h) (fun _ => rfl) (x := 7) (n := 7) (by decide) rfl (by decide) (Nat.le_of_ble_eq_true rfl) (Nat.le_of_ble_eq_true rfl) dX8_init_47 (fun Zm6 H hx hW hS => ?_)
  have dmm6_0 : Zm6.2.1 8 (0) := (hx.2.1 _ _).mpr (Or.inl dmm5_0)
  have ham6_0 : Zm6.1 8 (0) = Z.1 8 (0) := (hx.1 _ _ ((by omega))).1.trans ham5_0
  have hda : Zm6.2.1 9 (100 + 6) := (hx.2.1 _ _).mpr (Or.inr ⟨rfl, rfl⟩)
  refine z_putr hM hW hS zc8 dmm6_0 ham6_0 6 (by decide) (t := 9) (j := 100 + 6) rfl hda lf_X8_26 (Or.inr ⟨hin, rfl⟩) (tyX8 6) (tyX8_ok 6 (by decide)) (fun _ => rfl) (fun _ => rfl) dX8_init_49 (fun H locs hW hS => ?_)
  obtain ⟨Tm6, hT9⟩ : ∃ q, q = (sr (sz Tm5 9 (100 + 6)) 8 (0) (6) (some (100 + 6))) := ⟨_, rfl⟩
  have hW : zW D ar A Zm6 Tm6 H := by rw [hT9]; exact hW
  have md : mdI 7 Z S Zm6 Tm6 := by rw [hT9]; exact md.step (K := 9) rfl (by decide) hx
  refine lv_aload_n hM.1 hM.2.1 dX8_init_52 rfl (lv_at hl 0 rfl) ?_
  refine lv_bipush (v := 7) hM.1 hM.2.1 dX8_init_53 (by decide) ?_
  refine z_newa hM hW hS hlo (k := 11) (100 + 7) (by decide) (fun q => hfz 11 (100 + 7) (by decide) (by decide) (((md.1 11 (100 + 7) (fun ⟨g, q1, _, _, q2⟩ => by omega)).1).mp q)) (atype := .boolean) (ty := .boolean) rfl 2 rfl la_boolean (fun _ _ h => h) (fun _ => rfl) (x := 7) (n := 7) (by decide) rfl (by decide) (Nat.le_of_ble_eq_true rfl) (Nat.le_of_ble_eq_true rfl) dX8_init_55 (fun Zm7 H hx hW hS => ?_)
  have dmm7_0 : Zm7.2.1 8 (0) := (hx.2.1 _ _).mpr (Or.inl dmm6_0)
  have ham7_0 : Zm7.1 8 (0) = Z.1 8 (0) := (hx.1 _ _ ((by omega))).1.trans ham6_0
  have hda : Zm7.2.1 11 (100 + 7) := (hx.2.1 _ _).mpr (Or.inr ⟨rfl, rfl⟩)
  refine z_putr hM hW hS zc8 dmm7_0 ham7_0 7 (by decide) (t := 11) (j := 100 + 7) rfl hda lf_X8_29 (Or.inr ⟨hin, rfl⟩) (tyX8 7) (tyX8_ok 7 (by decide)) (fun _ => rfl) (fun _ => rfl) dX8_init_57 (fun H locs hW hS => ?_)
  obtain ⟨Tm7, hT9⟩ : ∃ q, q = (sr (sz Tm6 11 (100 + 7)) 8 (0) (7) (some (100 + 7))) := ⟨_, rfl⟩
  have hW : zW D ar A Zm7 Tm7 H := by rw [hT9]; exact hW
  have md : mdI 8 Z S Zm7 Tm7 := by rw [hT9]; exact md.step (K := 11) rfl (by decide) hx
  refine lv_aload_n hM.1 hM.2.1 dX8_init_60 rfl (lv_at hl 0 rfl) ?_
  refine lv_sipush (v := 144) hM.1 hM.2.1 dX8_init_61 (by decide) ?_
  refine z_newa hM hW hS hlo (k := 9) (100 + 8) (by decide) (fun q => hfz 9 (100 + 8) (by decide) (by decide) (((md.1 9 (100 + 8) (fun ⟨g, q1, _, _, q2⟩ => by omega)).1).mp q)) (atype := .int) (ty := .int) rfl 0 rfl la_int (fun _ _ h => h) (fun _ => rfl) (x := 144) (n := 144) (by decide) rfl (by decide) (Nat.le_of_ble_eq_true rfl) (Nat.le_of_ble_eq_true rfl) dX8_init_64 (fun Zm8 H hx hW hS => ?_)
  have dmm8_0 : Zm8.2.1 8 (0) := (hx.2.1 _ _).mpr (Or.inl dmm7_0)
  have ham8_0 : Zm8.1 8 (0) = Z.1 8 (0) := (hx.1 _ _ ((by omega))).1.trans ham7_0
  have hda : Zm8.2.1 9 (100 + 8) := (hx.2.1 _ _).mpr (Or.inr ⟨rfl, rfl⟩)
  refine z_putr hM hW hS zc8 dmm8_0 ham8_0 8 (by decide) (t := 9) (j := 100 + 8) rfl hda lf_X8_33 (Or.inr ⟨hin, rfl⟩) (tyX8 8) (tyX8_ok 8 (by decide)) (fun _ => rfl) (fun _ => rfl) dX8_init_66 (fun H locs hW hS => ?_)
  obtain ⟨Tm8, hT9⟩ : ∃ q, q = (sr (sz Tm7 9 (100 + 8)) 8 (0) (8) (some (100 + 8))) := ⟨_, rfl⟩
  have hW : zW D ar A Zm8 Tm8 H := by rw [hT9]; exact hW
  have md : mdI 9 Z S Zm8 Tm8 := by rw [hT9]; exact md.step (K := 9) rfl (by decide) hx
  refine lv_aload_n hM.1 hM.2.1 dX8_init_69 rfl (lv_at hl 0 rfl) ?_
  refine lv_bipush (v := 7) hM.1 hM.2.1 dX8_init_70 (by decide) ?_
  refine z_newa hM hW hS hlo (k := 9) (100 + 9) (by decide) (fun q => hfz 9 (100 + 9) (by decide) (by decide) (((md.1 9 (100 + 9) (fun ⟨g, q1, _, _, q2⟩ => by omega)).1).mp q)) (atype := .int) (ty := .int) rfl 0 rfl la_int (fun _ _ h => h) (fun _ => rfl) (x := 7) (n := 7) (by decide) rfl (by decide) (Nat.le_of_ble_eq_true rfl) (Nat.le_of_ble_eq_true rfl) dX8_init_72 (fun Zm9 H hx hW hS => ?_)
  have dmm9_0 : Zm9.2.1 8 (0) := (hx.2.1 _ _).mpr (Or.inl dmm8_0)
  have ham9_0 : Zm9.1 8 (0) = Z.1 8 (0) := (hx.1 _ _ ((by omega))).1.trans ham8_0
  have hda : Zm9.2.1 9 (100 + 9) := (hx.2.1 _ _).mpr (Or.inr ⟨rfl, rfl⟩)
  refine z_putr hM hW hS zc8 dmm9_0 ham9_0 9 (by decide) (t := 9) (j := 100 + 9) rfl hda lf_X8_36 (Or.inr ⟨hin, rfl⟩) (tyX8 9) (tyX8_ok 9 (by decide)) (fun _ => rfl) (fun _ => rfl) dX8_init_74 (fun H locs hW hS => ?_)
  obtain ⟨Tm9, hT9⟩ : ∃ q, q = (sr (sz Tm8 9 (100 + 9)) 8 (0) (9) (some (100 + 9))) := ⟨_, rfl⟩
  have hW : zW D ar A Zm9 Tm9 H := by rw [hT9]; exact hW
  have md : mdI 10 Z S Zm9 Tm9 := by rw [hT9]; exact md.step (K := 9) rfl (by decide) hx
  refine lv_aload_n hM.1 hM.2.1 dX8_init_77 rfl (lv_at hl 0 rfl) ?_
  refine lv_iconst (v := 4) hM.1 hM.2.1 dX8_init_78 (by decide) ?_
  have md := md.skip (f := 10) rfl
  refine z_newa hM hW hS hlo (k := 9) (100 + 11) (by decide) (fun q => hfz 9 (100 + 11) (by decide) (by decide) (((md.1 9 (100 + 11) (fun ⟨g, q1, _, _, q2⟩ => by omega)).1).mp q)) (atype := .int) (ty := .int) rfl 0 rfl la_int (fun _ _ h => h) (fun _ => rfl) (x := 4) (n := 4) (by decide) rfl (by decide) (Nat.le_of_ble_eq_true rfl) (Nat.le_of_ble_eq_true rfl) dX8_init_79 (fun Zm11 H hx hW hS => ?_)
  have dmm11_0 : Zm11.2.1 8 (0) := (hx.2.1 _ _).mpr (Or.inl dmm9_0)
  have ham11_0 : Zm11.1 8 (0) = Z.1 8 (0) := (hx.1 _ _ ((by omega))).1.trans ham9_0
  have hda : Zm11.2.1 9 (100 + 11) := (hx.2.1 _ _).mpr (Or.inr ⟨rfl, rfl⟩)
  refine z_putr hM hW hS zc8 dmm11_0 ham11_0 11 (by decide) (t := 9) (j := 100 + 11) rfl hda lf_X8_39 (Or.inr ⟨hin, rfl⟩) (tyX8 11) (tyX8_ok 11 (by decide)) (fun _ => rfl) (fun _ => rfl) dX8_init_81 (fun H locs hW hS => ?_)
  obtain ⟨Tm11, hT9⟩ : ∃ q, q = (sr (sz Tm9 9 (100 + 11)) 8 (0) (11) (some (100 + 11))) := ⟨_, rfl⟩
  have hW : zW D ar A Zm11 Tm11 H := by rw [hT9]; exact hW
  have md : mdI 12 Z S Zm11 Tm11 := by rw [hT9]; exact md.step (K := 9) rfl (by decide) hx
  refine lv_aload_n hM.1 hM.2.1 dX8_init_84 rfl (lv_at hl 0 rfl) ?_
  refine lv_iconst (v := 4) hM.1 hM.2.1 dX8_init_85 (by decide) ?_
  refine z_newa hM hW hS hlo (k := 9) (100 + 12) (by decide) (fun q => hfz 9 (100 + 12) (by decide) (by decide) (((md.1 9 (100 + 12) (fun ⟨g, q1, _, _, q2⟩ => by omega)).1).mp q)) (atype := .int) (ty := .int) rfl 0 rfl la_int (fun _ _ h => h) (fun _ => rfl) (x := 4) (n := 4) (by decide) rfl (by decide) (Nat.le_of_ble_eq_true rfl) (Nat.le_of_ble_eq_true rfl) dX8_init_86 (fun Zm12 H hx hW hS => ?_)
  have dmm12_0 : Zm12.2.1 8 (0) := (hx.2.1 _ _).mpr (Or.inl dmm11_0)
  have ham12_0 : Zm12.1 8 (0) = Z.1 8 (0) := (hx.1 _ _ ((by omega))).1.trans ham11_0
  have hda : Zm12.2.1 9 (100 + 12) := (hx.2.1 _ _).mpr (Or.inr ⟨rfl, rfl⟩)
  refine z_putr hM hW hS zc8 dmm12_0 ham12_0 12 (by decide) (t := 9) (j := 100 + 12) rfl hda lf_X8_42 (Or.inr ⟨hin, rfl⟩) (tyX8 12) (tyX8_ok 12 (by decide)) (fun _ => rfl) (fun _ => rfl) dX8_init_88 (fun H locs hW hS => ?_)
  obtain ⟨Tm12, hT9⟩ : ∃ q, q = (sr (sz Tm11 9 (100 + 12)) 8 (0) (12) (some (100 + 12))) := ⟨_, rfl⟩
  have hW : zW D ar A Zm12 Tm12 H := by rw [hT9]; exact hW
  have md : mdI 13 Z S Zm12 Tm12 := by rw [hT9]; exact md.step (K := 9) rfl (by decide) hx
  refine lv_aload_n hM.1 hM.2.1 dX8_init_91 rfl (lv_at hl 0 rfl) ?_
  refine lv_iconst (v := 4) hM.1 hM.2.1 dX8_init_92 (by decide) ?_
  refine z_newa hM hW hS hlo (k := 9) (100 + 13) (by decide) (fun q => hfz 9 (100 + 13) (by decide) (by decide) (((md.1 9 (100 + 13) (fun ⟨g, q1, _, _, q2⟩ => by omega)).1).mp q)) (atype := .int) (ty := .int) rfl 0 rfl la_int (fun _ _ h => h) (fun _ => rfl) (x := 4) (n := 4) (by decide) rfl (by decide) (Nat.le_of_ble_eq_true rfl) (Nat.le_of_ble_eq_true rfl) dX8_init_93 (fun Zm13 H hx hW hS => ?_)
  have dmm13_0 : Zm13.2.1 8 (0) := (hx.2.1 _ _).mpr (Or.inl dmm12_0)
  have ham13_0 : Zm13.1 8 (0) = Z.1 8 (0) := (hx.1 _ _ ((by omega))).1.trans ham12_0
  have hda : Zm13.2.1 9 (100 + 13) := (hx.2.1 _ _).mpr (Or.inr ⟨rfl, rfl⟩)
  refine z_putr hM hW hS zc8 dmm13_0 ham13_0 13 (by decide) (t := 9) (j := 100 + 13) rfl hda lf_X8_45 (Or.inr ⟨hin, rfl⟩) (tyX8 13) (tyX8_ok 13 (by decide)) (fun _ => rfl) (fun _ => rfl) dX8_init_95 (fun H locs hW hS => ?_)
  obtain ⟨Tm13, hT9⟩ : ∃ q, q = (sr (sz Tm12 9 (100 + 13)) 8 (0) (13) (some (100 + 13))) := ⟨_, rfl⟩
  have hW : zW D ar A Zm13 Tm13 H := by rw [hT9]; exact hW
  have md : mdI 14 Z S Zm13 Tm13 := by rw [hT9]; exact md.step (K := 9) rfl (by decide) hx
  refine lv_aload_n hM.1 hM.2.1 dX8_init_98 rfl (lv_at hl 0 rfl) ?_
  refine lv_iconst (v := 4) hM.1 hM.2.1 dX8_init_99 (by decide) ?_
  refine z_newa hM hW hS hlo (k := 9) (100 + 14) (by decide) (fun q => hfz 9 (100 + 14) (by decide) (by decide) (((md.1 9 (100 + 14) (fun ⟨g, q1, _, _, q2⟩ => by omega)).1).mp q)) (atype := .int) (ty := .int) rfl 0 rfl la_int (fun _ _ h => h) (fun _ => rfl) (x := 4) (n := 4) (by decide) rfl (by decide) (Nat.le_of_ble_eq_true rfl) (Nat.le_of_ble_eq_true rfl) dX8_init_100 (fun Zm14 H hx hW hS => ?_)
  have dmm14_0 : Zm14.2.1 8 (0) := (hx.2.1 _ _).mpr (Or.inl dmm13_0)
  have ham14_0 : Zm14.1 8 (0) = Z.1 8 (0) := (hx.1 _ _ ((by omega))).1.trans ham13_0
  have hda : Zm14.2.1 9 (100 + 14) := (hx.2.1 _ _).mpr (Or.inr ⟨rfl, rfl⟩)
  refine z_putr hM hW hS zc8 dmm14_0 ham14_0 14 (by decide) (t := 9) (j := 100 + 14) rfl hda lf_X8_48 (Or.inr ⟨hin, rfl⟩) (tyX8 14) (tyX8_ok 14 (by decide)) (fun _ => rfl) (fun _ => rfl) dX8_init_102 (fun H locs hW hS => ?_)
  obtain ⟨Tm14, hT9⟩ : ∃ q, q = (sr (sz Tm13 9 (100 + 14)) 8 (0) (14) (some (100 + 14))) := ⟨_, rfl⟩
  have hW : zW D ar A Zm14 Tm14 H := by rw [hT9]; exact hW
  have md : mdI 15 Z S Zm14 Tm14 := by rw [hT9]; exact md.step (K := 9) rfl (by decide) hx
  refine lv_aload_n hM.1 hM.2.1 dX8_init_105 rfl (lv_at hl 0 rfl) ?_
  refine lv_iconst (v := 4) hM.1 hM.2.1 dX8_init_106 (by decide) ?_
  refine z_newa hM hW hS hlo (k := 9) (100 + 15) (by decide) (fun q => hfz 9 (100 + 15) (by decide) (by decide) (((md.1 9 (100 + 15) (fun ⟨g, q1, _, _, q2⟩ => by omega)).1).mp q)) (atype := .int) (ty := .int) rfl 0 rfl la_int (fun _ _ h => h) (fun _ => rfl) (x := 4) (n := 4) (by decide) rfl (by decide) (Nat.le_of_ble_eq_true rfl) (Nat.le_of_ble_eq_true rfl) dX8_init_107 (fun Zm15 H hx hW hS => ?_)
  have dmm15_0 : Zm15.2.1 8 (0) := (hx.2.1 _ _).mpr (Or.inl dmm14_0)
  have ham15_0 : Zm15.1 8 (0) = Z.1 8 (0) := (hx.1 _ _ ((by omega))).1.trans ham14_0
  have hda : Zm15.2.1 9 (100 + 15) := (hx.2.1 _ _).mpr (Or.inr ⟨rfl, rfl⟩)
  refine z_putr hM hW hS zc8 dmm15_0 ham15_0 15 (by decide) (t := 9) (j := 100 + 15) rfl hda lf_X8_51 (Or.inr ⟨hin, rfl⟩) (tyX8 15) (tyX8_ok 15 (by decide)) (fun _ => rfl) (fun _ => rfl) dX8_init_109 (fun H locs hW hS => ?_)
  obtain ⟨Tm15, hT9⟩ : ∃ q, q = (sr (sz Tm14 9 (100 + 15)) 8 (0) (15) (some (100 + 15))) := ⟨_, rfl⟩
  have hW : zW D ar A Zm15 Tm15 H := by rw [hT9]; exact hW
  have md : mdI 16 Z S Zm15 Tm15 := by rw [hT9]; exact md.step (K := 9) rfl (by decide) hx
  refine lv_aload_n hM.1 hM.2.1 dX8_init_112 rfl (lv_at hl 0 rfl) ?_
  refine lv_iconst (v := 4) hM.1 hM.2.1 dX8_init_113 (by decide) ?_
  refine z_newa hM hW hS hlo (k := 9) (100 + 16) (by decide) (fun q => hfz 9 (100 + 16) (by decide) (by decide) (((md.1 9 (100 + 16) (fun ⟨g, q1, _, _, q2⟩ => by omega)).1).mp q)) (atype := .int) (ty := .int) rfl 0 rfl la_int (fun _ _ h => h) (fun _ => rfl) (x := 4) (n := 4) (by decide) rfl (by decide) (Nat.le_of_ble_eq_true rfl) (Nat.le_of_ble_eq_true rfl) dX8_init_114 (fun Zm16 H hx hW hS => ?_)
  have dmm16_0 : Zm16.2.1 8 (0) := (hx.2.1 _ _).mpr (Or.inl dmm15_0)
  have ham16_0 : Zm16.1 8 (0) = Z.1 8 (0) := (hx.1 _ _ ((by omega))).1.trans ham15_0
  have hda : Zm16.2.1 9 (100 + 16) := (hx.2.1 _ _).mpr (Or.inr ⟨rfl, rfl⟩)
  refine z_putr hM hW hS zc8 dmm16_0 ham16_0 16 (by decide) (t := 9) (j := 100 + 16) rfl hda lf_X8_54 (Or.inr ⟨hin, rfl⟩) (tyX8 16) (tyX8_ok 16 (by decide)) (fun _ => rfl) (fun _ => rfl) dX8_init_116 (fun H locs hW hS => ?_)
  obtain ⟨Tm16, hT9⟩ : ∃ q, q = (sr (sz Tm15 9 (100 + 16)) 8 (0) (16) (some (100 + 16))) := ⟨_, rfl⟩
  have hW : zW D ar A Zm16 Tm16 H := by rw [hT9]; exact hW
  have md : mdI 17 Z S Zm16 Tm16 := by rw [hT9]; exact md.step (K := 9) rfl (by decide) hx
  refine lv_aload_n hM.1 hM.2.1 dX8_init_119 rfl (lv_at hl 0 rfl) ?_
  refine lv_iconst (v := 4) hM.1 hM.2.1 dX8_init_120 (by decide) ?_
  refine z_newa hM hW hS hlo (k := 9) (100 + 17) (by decide) (fun q => hfz 9 (100 + 17) (by decide) (by decide) (((md.1 9 (100 + 17) (fun ⟨g, q1, _, _, q2⟩ => by omega)).1).mp q)) (atype := .int) (ty := .int) rfl 0 rfl la_int (fun _ _ h => h) (fun _ => rfl) (x := 4) (n := 4) (by decide) rfl (by decide) (Nat.le_of_ble_eq_true rfl) (Nat.le_of_ble_eq_true rfl) dX8_init_121 (fun Zm17 H hx hW hS => ?_)
  have dmm17_0 : Zm17.2.1 8 (0) := (hx.2.1 _ _).mpr (Or.inl dmm16_0)
  have ham17_0 : Zm17.1 8 (0) = Z.1 8 (0) := (hx.1 _ _ ((by omega))).1.trans ham16_0
  have hda : Zm17.2.1 9 (100 + 17) := (hx.2.1 _ _).mpr (Or.inr ⟨rfl, rfl⟩)
  refine z_putr hM hW hS zc8 dmm17_0 ham17_0 17 (by decide) (t := 9) (j := 100 + 17) rfl hda lf_X8_57 (Or.inr ⟨hin, rfl⟩) (tyX8 17) (tyX8_ok 17 (by decide)) (fun _ => rfl) (fun _ => rfl) dX8_init_123 (fun H locs hW hS => ?_)
  obtain ⟨Tm17, hT9⟩ : ∃ q, q = (sr (sz Tm16 9 (100 + 17)) 8 (0) (17) (some (100 + 17))) := ⟨_, rfl⟩
  have hW : zW D ar A Zm17 Tm17 H := by rw [hT9]; exact hW
  have md : mdI 18 Z S Zm17 Tm17 := by rw [hT9]; exact md.step (K := 9) rfl (by decide) hx
  refine lv_aload_n hM.1 hM.2.1 dX8_init_126 rfl (lv_at hl 0 rfl) ?_
  refine lv_iconst (v := 4) hM.1 hM.2.1 dX8_init_127 (by decide) ?_
  refine z_newa hM hW hS hlo (k := 9) (100 + 18) (by decide) (fun q => hfz 9 (100 + 18) (by decide) (by decide) (((md.1 9 (100 + 18) (fun ⟨g, q1, _, _, q2⟩ => by omega)).1).mp q)) (atype := .int) (ty := .int) rfl 0 rfl la_int (fun _ _ h => h) (fun _ => rfl) (x := 4) (n := 4) (by decide) rfl (by decide) (Nat.le_of_ble_eq_true rfl) (Nat.le_of_ble_eq_true rfl) dX8_init_128 (fun Zm18 H hx hW hS => ?_)
  have dmm18_0 : Zm18.2.1 8 (0) := (hx.2.1 _ _).mpr (Or.inl dmm17_0)
  have ham18_0 : Zm18.1 8 (0) = Z.1 8 (0) := (hx.1 _ _ ((by omega))).1.trans ham17_0
  have hda : Zm18.2.1 9 (100 + 18) := (hx.2.1 _ _).mpr (Or.inr ⟨rfl, rfl⟩)
  refine z_putr hM hW hS zc8 dmm18_0 ham18_0 18 (by decide) (t := 9) (j := 100 + 18) rfl hda lf_X8_60 (Or.inr ⟨hin, rfl⟩) (tyX8 18) (tyX8_ok 18 (by decide)) (fun _ => rfl) (fun _ => rfl) dX8_init_130 (fun H locs hW hS => ?_)
  obtain ⟨Tm18, hT9⟩ : ∃ q, q = (sr (sz Tm17 9 (100 + 18)) 8 (0) (18) (some (100 + 18))) := ⟨_, rfl⟩
  have hW : zW D ar A Zm18 Tm18 H := by rw [hT9]; exact hW
  have md : mdI 19 Z S Zm18 Tm18 := by rw [hT9]; exact md.step (K := 9) rfl (by decide) hx
  refine lv_aload_n hM.1 hM.2.1 dX8_init_133 rfl (lv_at hl 0 rfl) ?_
  refine lv_iconst (v := 4) hM.1 hM.2.1 dX8_init_134 (by decide) ?_
  refine z_newa hM hW hS hlo (k := 9) (100 + 19) (by decide) (fun q => hfz 9 (100 + 19) (by decide) (by decide) (((md.1 9 (100 + 19) (fun ⟨g, q1, _, _, q2⟩ => by omega)).1).mp q)) (atype := .int) (ty := .int) rfl 0 rfl la_int (fun _ _ h => h) (fun _ => rfl) (x := 4) (n := 4) (by decide) rfl (by decide) (Nat.le_of_ble_eq_true rfl) (Nat.le_of_ble_eq_true rfl) dX8_init_135 (fun Zm19 H hx hW hS => ?_)
  have dmm19_0 : Zm19.2.1 8 (0) := (hx.2.1 _ _).mpr (Or.inl dmm18_0)
  have ham19_0 : Zm19.1 8 (0) = Z.1 8 (0) := (hx.1 _ _ ((by omega))).1.trans ham18_0
  have hda : Zm19.2.1 9 (100 + 19) := (hx.2.1 _ _).mpr (Or.inr ⟨rfl, rfl⟩)
  refine z_putr hM hW hS zc8 dmm19_0 ham19_0 19 (by decide) (t := 9) (j := 100 + 19) rfl hda lf_X8_63 (Or.inr ⟨hin, rfl⟩) (tyX8 19) (tyX8_ok 19 (by decide)) (fun _ => rfl) (fun _ => rfl) dX8_init_137 (fun H locs hW hS => ?_)
  obtain ⟨Tm19, hT9⟩ : ∃ q, q = (sr (sz Tm18 9 (100 + 19)) 8 (0) (19) (some (100 + 19))) := ⟨_, rfl⟩
  have hW : zW D ar A Zm19 Tm19 H := by rw [hT9]; exact hW
  have md : mdI 20 Z S Zm19 Tm19 := by rw [hT9]; exact md.step (K := 9) rfl (by decide) hx
  refine lv_aload_n hM.1 hM.2.1 dX8_init_140 rfl (lv_at hl 0 rfl) ?_
  refine lv_iconst (v := 4) hM.1 hM.2.1 dX8_init_141 (by decide) ?_
  refine z_newa hM hW hS hlo (k := 10) (100 + 20) (by decide) (fun q => hfz 10 (100 + 20) (by decide) (by decide) (((md.1 10 (100 + 20) (fun ⟨g, q1, _, _, q2⟩ => by omega)).1).mp q)) (atype := .long) (ty := .long) rfl 1 rfl la_long (fun _ _ h => h) (fun _ => rfl) (x := 4) (n := 4) (by decide) rfl (by decide) (Nat.le_of_ble_eq_true rfl) (Nat.le_of_ble_eq_true rfl) dX8_init_142 (fun Zm20 H hx hW hS => ?_)
  have dmm20_0 : Zm20.2.1 8 (0) := (hx.2.1 _ _).mpr (Or.inl dmm19_0)
  have ham20_0 : Zm20.1 8 (0) = Z.1 8 (0) := (hx.1 _ _ ((by omega))).1.trans ham19_0
  have hda : Zm20.2.1 10 (100 + 20) := (hx.2.1 _ _).mpr (Or.inr ⟨rfl, rfl⟩)
  refine z_putr hM hW hS zc8 dmm20_0 ham20_0 20 (by decide) (t := 10) (j := 100 + 20) rfl hda lf_X8_66 (Or.inr ⟨hin, rfl⟩) (tyX8 20) (tyX8_ok 20 (by decide)) (fun _ => rfl) (fun _ => rfl) dX8_init_144 (fun H locs hW hS => ?_)
  obtain ⟨Tm20, hT9⟩ : ∃ q, q = (sr (sz Tm19 10 (100 + 20)) 8 (0) (20) (some (100 + 20))) := ⟨_, rfl⟩
  have hW : zW D ar A Zm20 Tm20 H := by rw [hT9]; exact hW
  have md : mdI 21 Z S Zm20 Tm20 := by rw [hT9]; exact md.step (K := 10) rfl (by decide) hx
  refine lv_aload_n hM.1 hM.2.1 dX8_init_147 rfl (lv_at hl 0 rfl) ?_
  refine lv_sipush (v := 201) hM.1 hM.2.1 dX8_init_148 (by decide) ?_
  refine z_newa hM hW hS hlo (k := 9) (100 + 21) (by decide) (fun q => hfz 9 (100 + 21) (by decide) (by decide) (((md.1 9 (100 + 21) (fun ⟨g, q1, _, _, q2⟩ => by omega)).1).mp q)) (atype := .int) (ty := .int) rfl 0 rfl la_int (fun _ _ h => h) (fun _ => rfl) (x := 201) (n := 201) (by decide) rfl (by decide) (Nat.le_of_ble_eq_true rfl) (Nat.le_of_ble_eq_true rfl) dX8_init_151 (fun Zm21 H hx hW hS => ?_)
  have dmm21_0 : Zm21.2.1 8 (0) := (hx.2.1 _ _).mpr (Or.inl dmm20_0)
  have ham21_0 : Zm21.1 8 (0) = Z.1 8 (0) := (hx.1 _ _ ((by omega))).1.trans ham20_0
  have hda : Zm21.2.1 9 (100 + 21) := (hx.2.1 _ _).mpr (Or.inr ⟨rfl, rfl⟩)
  refine z_putr hM hW hS zc8 dmm21_0 ham21_0 21 (by decide) (t := 9) (j := 100 + 21) rfl hda lf_X8_69 (Or.inr ⟨hin, rfl⟩) (tyX8 21) (tyX8_ok 21 (by decide)) (fun _ => rfl) (fun _ => rfl) dX8_init_153 (fun H locs hW hS => ?_)
  obtain ⟨Tm21, hT9⟩ : ∃ q, q = (sr (sz Tm20 9 (100 + 21)) 8 (0) (21) (some (100 + 21))) := ⟨_, rfl⟩
  have hW : zW D ar A Zm21 Tm21 H := by rw [hT9]; exact hW
  have md : mdI 22 Z S Zm21 Tm21 := by rw [hT9]; exact md.step (K := 9) rfl (by decide) hx
  refine lv_aload_n hM.1 hM.2.1 dX8_init_156 rfl (lv_at hl 0 rfl) ?_
  refine lv_sipush (v := 201) hM.1 hM.2.1 dX8_init_157 (by decide) ?_
  refine z_newa hM hW hS hlo (k := 9) (100 + 22) (by decide) (fun q => hfz 9 (100 + 22) (by decide) (by decide) (((md.1 9 (100 + 22) (fun ⟨g, q1, _, _, q2⟩ => by omega)).1).mp q)) (atype := .int) (ty := .int) rfl 0 rfl la_int (fun _ _ h => h) (fun _ => rfl) (x := 201) (n := 201) (by decide) rfl (by decide) (Nat.le_of_ble_eq_true rfl) (Nat.le_of_ble_eq_true rfl) dX8_init_160 (fun Zm22 H hx hW hS => ?_)
  have dmm22_0 : Zm22.2.1 8 (0) := (hx.2.1 _ _).mpr (Or.inl dmm21_0)
  have ham22_0 : Zm22.1 8 (0) = Z.1 8 (0) := (hx.1 _ _ ((by omega))).1.trans ham21_0
  have hda : Zm22.2.1 9 (100 + 22) := (hx.2.1 _ _).mpr (Or.inr ⟨rfl, rfl⟩)
  refine z_putr hM hW hS zc8 dmm22_0 ham22_0 22 (by decide) (t := 9) (j := 100 + 22) rfl hda lf_X8_72 (Or.inr ⟨hin, rfl⟩) (tyX8 22) (tyX8_ok 22 (by decide)) (fun _ => rfl) (fun _ => rfl) dX8_init_162 (fun H locs hW hS => ?_)
  obtain ⟨Tm22, hT9⟩ : ∃ q, q = (sr (sz Tm21 9 (100 + 22)) 8 (0) (22) (some (100 + 22))) := ⟨_, rfl⟩
  have hW : zW D ar A Zm22 Tm22 H := by rw [hT9]; exact hW
  have md : mdI 23 Z S Zm22 Tm22 := by rw [hT9]; exact md.step (K := 9) rfl (by decide) hx
  refine lv_aload_n hM.1 hM.2.1 dX8_init_165 rfl (lv_at hl 0 rfl) ?_
  refine lv_sipush (v := 201) hM.1 hM.2.1 dX8_init_166 (by decide) ?_
  refine z_newa hM hW hS hlo (k := 9) (100 + 23) (by decide) (fun q => hfz 9 (100 + 23) (by decide) (by decide) (((md.1 9 (100 + 23) (fun ⟨g, q1, _, _, q2⟩ => by omega)).1).mp q)) (atype := .int) (ty := .int) rfl 0 rfl la_int (fun _ _ h => h) (fun _ => rfl) (x := 201) (n := 201) (by decide) rfl (by decide) (Nat.le_of_ble_eq_true rfl) (Nat.le_of_ble_eq_true rfl) dX8_init_169 (fun Zm23 H hx hW hS => ?_)
  have dmm23_0 : Zm23.2.1 8 (0) := (hx.2.1 _ _).mpr (Or.inl dmm22_0)
  have ham23_0 : Zm23.1 8 (0) = Z.1 8 (0) := (hx.1 _ _ ((by omega))).1.trans ham22_0
  have hda : Zm23.2.1 9 (100 + 23) := (hx.2.1 _ _).mpr (Or.inr ⟨rfl, rfl⟩)
  refine z_putr hM hW hS zc8 dmm23_0 ham23_0 23 (by decide) (t := 9) (j := 100 + 23) rfl hda lf_X8_75 (Or.inr ⟨hin, rfl⟩) (tyX8 23) (tyX8_ok 23 (by decide)) (fun _ => rfl) (fun _ => rfl) dX8_init_171 (fun H locs hW hS => ?_)
  obtain ⟨Tm23, hT9⟩ : ∃ q, q = (sr (sz Tm22 9 (100 + 23)) 8 (0) (23) (some (100 + 23))) := ⟨_, rfl⟩
  have hW : zW D ar A Zm23 Tm23 H := by rw [hT9]; exact hW
  have md : mdI 24 Z S Zm23 Tm23 := by rw [hT9]; exact md.step (K := 9) rfl (by decide) hx
  refine lv_aload_n hM.1 hM.2.1 dX8_init_174 rfl (lv_at hl 0 rfl) ?_
  refine lv_sipush (v := 201) hM.1 hM.2.1 dX8_init_175 (by decide) ?_
  refine z_newa hM hW hS hlo (k := 9) (100 + 24) (by decide) (fun q => hfz 9 (100 + 24) (by decide) (by decide) (((md.1 9 (100 + 24) (fun ⟨g, q1, _, _, q2⟩ => by omega)).1).mp q)) (atype := .int) (ty := .int) rfl 0 rfl la_int (fun _ _ h => h) (fun _ => rfl) (x := 201) (n := 201) (by decide) rfl (by decide) (Nat.le_of_ble_eq_true rfl) (Nat.le_of_ble_eq_true rfl) dX8_init_178 (fun Zm24 H hx hW hS => ?_)
  have dmm24_0 : Zm24.2.1 8 (0) := (hx.2.1 _ _).mpr (Or.inl dmm23_0)
  have ham24_0 : Zm24.1 8 (0) = Z.1 8 (0) := (hx.1 _ _ ((by omega))).1.trans ham23_0
  have hda : Zm24.2.1 9 (100 + 24) := (hx.2.1 _ _).mpr (Or.inr ⟨rfl, rfl⟩)
  refine z_putr hM hW hS zc8 dmm24_0 ham24_0 24 (by decide) (t := 9) (j := 100 + 24) rfl hda lf_X8_78 (Or.inr ⟨hin, rfl⟩) (tyX8 24) (tyX8_ok 24 (by decide)) (fun _ => rfl) (fun _ => rfl) dX8_init_180 (fun H locs hW hS => ?_)
  obtain ⟨Tm24, hT9⟩ : ∃ q, q = (sr (sz Tm23 9 (100 + 24)) 8 (0) (24) (some (100 + 24))) := ⟨_, rfl⟩
  have hW : zW D ar A Zm24 Tm24 H := by rw [hT9]; exact hW
  have md : mdI 25 Z S Zm24 Tm24 := by rw [hT9]; exact md.step (K := 9) rfl (by decide) hx
  refine lv_aload_n hM.1 hM.2.1 dX8_init_183 rfl (lv_at hl 0 rfl) ?_
  refine lv_sipush (v := 201) hM.1 hM.2.1 dX8_init_184 (by decide) ?_
  refine z_newa hM hW hS hlo (k := 9) (100 + 25) (by decide) (fun q => hfz 9 (100 + 25) (by decide) (by decide) (((md.1 9 (100 + 25) (fun ⟨g, q1, _, _, q2⟩ => by omega)).1).mp q)) (atype := .int) (ty := .int) rfl 0 rfl la_int (fun _ _ h => h) (fun _ => rfl) (x := 201) (n := 201) (by decide) rfl (by decide) (Nat.le_of_ble_eq_true rfl) (Nat.le_of_ble_eq_true rfl) dX8_init_187 (fun Zm25 H hx hW hS => ?_)
  have dmm25_0 : Zm25.2.1 8 (0) := (hx.2.1 _ _).mpr (Or.inl dmm24_0)
  have ham25_0 : Zm25.1 8 (0) = Z.1 8 (0) := (hx.1 _ _ ((by omega))).1.trans ham24_0
  have hda : Zm25.2.1 9 (100 + 25) := (hx.2.1 _ _).mpr (Or.inr ⟨rfl, rfl⟩)
  refine z_putr hM hW hS zc8 dmm25_0 ham25_0 25 (by decide) (t := 9) (j := 100 + 25) rfl hda lf_X8_81 (Or.inr ⟨hin, rfl⟩) (tyX8 25) (tyX8_ok 25 (by decide)) (fun _ => rfl) (fun _ => rfl) dX8_init_189 (fun H locs hW hS => ?_)
  obtain ⟨Tm25, hT9⟩ : ∃ q, q = (sr (sz Tm24 9 (100 + 25)) 8 (0) (25) (some (100 + 25))) := ⟨_, rfl⟩
  have hW : zW D ar A Zm25 Tm25 H := by rw [hT9]; exact hW
  have md : mdI 26 Z S Zm25 Tm25 := by rw [hT9]; exact md.step (K := 9) rfl (by decide) hx
  refine lv_aload_n hM.1 hM.2.1 dX8_init_192 rfl (lv_at hl 0 rfl) ?_
  refine lv_sipush (v := 201) hM.1 hM.2.1 dX8_init_193 (by decide) ?_
  refine z_newa hM hW hS hlo (k := 9) (100 + 26) (by decide) (fun q => hfz 9 (100 + 26) (by decide) (by decide) (((md.1 9 (100 + 26) (fun ⟨g, q1, _, _, q2⟩ => by omega)).1).mp q)) (atype := .int) (ty := .int) rfl 0 rfl la_int (fun _ _ h => h) (fun _ => rfl) (x := 201) (n := 201) (by decide) rfl (by decide) (Nat.le_of_ble_eq_true rfl) (Nat.le_of_ble_eq_true rfl) dX8_init_196 (fun Zm26 H hx hW hS => ?_)
  have dmm26_0 : Zm26.2.1 8 (0) := (hx.2.1 _ _).mpr (Or.inl dmm25_0)
  have ham26_0 : Zm26.1 8 (0) = Z.1 8 (0) := (hx.1 _ _ ((by omega))).1.trans ham25_0
  have hda : Zm26.2.1 9 (100 + 26) := (hx.2.1 _ _).mpr (Or.inr ⟨rfl, rfl⟩)
  refine z_putr hM hW hS zc8 dmm26_0 ham26_0 26 (by decide) (t := 9) (j := 100 + 26) rfl hda lf_X8_84 (Or.inr ⟨hin, rfl⟩) (tyX8 26) (tyX8_ok 26 (by decide)) (fun _ => rfl) (fun _ => rfl) dX8_init_198 (fun H locs hW hS => ?_)
  obtain ⟨Tm26, hT9⟩ : ∃ q, q = (sr (sz Tm25 9 (100 + 26)) 8 (0) (26) (some (100 + 26))) := ⟨_, rfl⟩
  have hW : zW D ar A Zm26 Tm26 H := by rw [hT9]; exact hW
  have md : mdI 27 Z S Zm26 Tm26 := by rw [hT9]; exact md.step (K := 9) rfl (by decide) hx
  refine lv_aload_n hM.1 hM.2.1 dX8_init_201 rfl (lv_at hl 0 rfl) ?_
  refine lv_sipush (v := 201) hM.1 hM.2.1 dX8_init_202 (by decide) ?_
  refine z_newa hM hW hS hlo (k := 9) (100 + 27) (by decide) (fun q => hfz 9 (100 + 27) (by decide) (by decide) (((md.1 9 (100 + 27) (fun ⟨g, q1, _, _, q2⟩ => by omega)).1).mp q)) (atype := .int) (ty := .int) rfl 0 rfl la_int (fun _ _ h => h) (fun _ => rfl) (x := 201) (n := 201) (by decide) rfl (by decide) (Nat.le_of_ble_eq_true rfl) (Nat.le_of_ble_eq_true rfl) dX8_init_205 (fun Zm27 H hx hW hS => ?_)
  have dmm27_0 : Zm27.2.1 8 (0) := (hx.2.1 _ _).mpr (Or.inl dmm26_0)
  have ham27_0 : Zm27.1 8 (0) = Z.1 8 (0) := (hx.1 _ _ ((by omega))).1.trans ham26_0
  have hda : Zm27.2.1 9 (100 + 27) := (hx.2.1 _ _).mpr (Or.inr ⟨rfl, rfl⟩)
  refine z_putr hM hW hS zc8 dmm27_0 ham27_0 27 (by decide) (t := 9) (j := 100 + 27) rfl hda lf_X8_87 (Or.inr ⟨hin, rfl⟩) (tyX8 27) (tyX8_ok 27 (by decide)) (fun _ => rfl) (fun _ => rfl) dX8_init_207 (fun H locs hW hS => ?_)
  obtain ⟨Tm27, hT9⟩ : ∃ q, q = (sr (sz Tm26 9 (100 + 27)) 8 (0) (27) (some (100 + 27))) := ⟨_, rfl⟩
  have hW : zW D ar A Zm27 Tm27 H := by rw [hT9]; exact hW
  have md : mdI 28 Z S Zm27 Tm27 := by rw [hT9]; exact md.step (K := 9) rfl (by decide) hx
  refine lv_aload_n hM.1 hM.2.1 dX8_init_210 rfl (lv_at hl 0 rfl) ?_
  refine lv_sipush (v := 201) hM.1 hM.2.1 dX8_init_211 (by decide) ?_
  refine z_newa hM hW hS hlo (k := 10) (100 + 28) (by decide) (fun q => hfz 10 (100 + 28) (by decide) (by decide) (((md.1 10 (100 + 28) (fun ⟨g, q1, _, _, q2⟩ => by omega)).1).mp q)) (atype := .long) (ty := .long) rfl 1 rfl la_long (fun _ _ h => h) (fun _ => rfl) (x := 201) (n := 201) (by decide) rfl (by decide) (Nat.le_of_ble_eq_true rfl) (Nat.le_of_ble_eq_true rfl) dX8_init_214 (fun Zm28 H hx hW hS => ?_)
  have dmm28_0 : Zm28.2.1 8 (0) := (hx.2.1 _ _).mpr (Or.inl dmm27_0)
  have ham28_0 : Zm28.1 8 (0) = Z.1 8 (0) := (hx.1 _ _ ((by omega))).1.trans ham27_0
  have hda : Zm28.2.1 10 (100 + 28) := (hx.2.1 _ _).mpr (Or.inr ⟨rfl, rfl⟩)
  refine z_putr hM hW hS zc8 dmm28_0 ham28_0 28 (by decide) (t := 10) (j := 100 + 28) rfl hda lf_X8_90 (Or.inr ⟨hin, rfl⟩) (tyX8 28) (tyX8_ok 28 (by decide)) (fun _ => rfl) (fun _ => rfl) dX8_init_216 (fun H locs hW hS => ?_)
  obtain ⟨Tm28, hT9⟩ : ∃ q, q = (sr (sz Tm27 10 (100 + 28)) 8 (0) (28) (some (100 + 28))) := ⟨_, rfl⟩
  have hW : zW D ar A Zm28 Tm28 H := by rw [hT9]; exact hW
  have md : mdI 29 Z S Zm28 Tm28 := by rw [hT9]; exact md.step (K := 10) rfl (by decide) hx
  refine lv_aload_n hM.1 hM.2.1 dX8_init_219 rfl (lv_at hl 0 rfl) ?_
  refine lv_sipush (v := 300) hM.1 hM.2.1 dX8_init_220 (by decide) ?_
  have md := md.skip (f := 29) rfl
  have md := md.skip (f := 30) rfl
  have md := md.skip (f := 31) rfl
  refine z_newa hM hW hS hlo (k := 11) (100 + 32) (by decide) (fun q => hfz 11 (100 + 32) (by decide) (by decide) (((md.1 11 (100 + 32) (fun ⟨g, q1, _, _, q2⟩ => by omega)).1).mp q)) (atype := .boolean) (ty := .boolean) rfl 2 rfl la_boolean (fun _ _ h => h) (fun _ => rfl) (x := 300) (n := 300) (by decide) rfl (by decide) (Nat.le_of_ble_eq_true rfl) (Nat.le_of_ble_eq_true rfl) dX8_init_223 (fun Zm32 H hx hW hS => ?_)
  have dmm32_0 : Zm32.2.1 8 (0) := (hx.2.1 _ _).mpr (Or.inl dmm28_0)
  have ham32_0 : Zm32.1 8 (0) = Z.1 8 (0) := (hx.1 _ _ ((by omega))).1.trans ham28_0
  have hda : Zm32.2.1 11 (100 + 32) := (hx.2.1 _ _).mpr (Or.inr ⟨rfl, rfl⟩)
  refine z_putr hM hW hS zc8 dmm32_0 ham32_0 32 (by decide) (t := 11) (j := 100 + 32) rfl hda lf_X8_93 (Or.inr ⟨hin, rfl⟩) (tyX8 32) (tyX8_ok 32 (by decide)) (fun _ => rfl) (fun _ => rfl) dX8_init_225 (fun H locs hW hS => ?_)
  obtain ⟨Tm32, hT9⟩ : ∃ q, q = (sr (sz Tm28 11 (100 + 32)) 8 (0) (32) (some (100 + 32))) := ⟨_, rfl⟩
  have hW : zW D ar A Zm32 Tm32 H := by rw [hT9]; exact hW
  have md : mdI 33 Z S Zm32 Tm32 := by rw [hT9]; exact md.step (K := 11) rfl (by decide) hx
  refine lv_aload_n hM.1 hM.2.1 dX8_init_228 rfl (lv_at hl 0 rfl) ?_
  refine lv_sipush (v := 300) hM.1 hM.2.1 dX8_init_229 (by decide) ?_
  refine z_newa hM hW hS hlo (k := 9) (100 + 33) (by decide) (fun q => hfz 9 (100 + 33) (by decide) (by decide) (((md.1 9 (100 + 33) (fun ⟨g, q1, _, _, q2⟩ => by omega)).1).mp q)) (atype := .int) (ty := .int) rfl 0 rfl la_int (fun _ _ h => h) (fun _ => rfl) (x := 300) (n := 300) (by decide) rfl (by decide) (Nat.le_of_ble_eq_true rfl) (Nat.le_of_ble_eq_true rfl) dX8_init_232 (fun Zm33 H hx hW hS => ?_)
  have dmm33_0 : Zm33.2.1 8 (0) := (hx.2.1 _ _).mpr (Or.inl dmm32_0)
  have ham33_0 : Zm33.1 8 (0) = Z.1 8 (0) := (hx.1 _ _ ((by omega))).1.trans ham32_0
  have hda : Zm33.2.1 9 (100 + 33) := (hx.2.1 _ _).mpr (Or.inr ⟨rfl, rfl⟩)
  refine z_putr hM hW hS zc8 dmm33_0 ham33_0 33 (by decide) (t := 9) (j := 100 + 33) rfl hda lf_X8_96 (Or.inr ⟨hin, rfl⟩) (tyX8 33) (tyX8_ok 33 (by decide)) (fun _ => rfl) (fun _ => rfl) dX8_init_234 (fun H locs hW hS => ?_)
  obtain ⟨Tm33, hT9⟩ : ∃ q, q = (sr (sz Tm32 9 (100 + 33)) 8 (0) (33) (some (100 + 33))) := ⟨_, rfl⟩
  have hW : zW D ar A Zm33 Tm33 H := by rw [hT9]; exact hW
  have md : mdI 34 Z S Zm33 Tm33 := by rw [hT9]; exact md.step (K := 9) rfl (by decide) hx
  refine lv_aload_n hM.1 hM.2.1 dX8_init_237 rfl (lv_at hl 0 rfl) ?_
  refine lv_sipush (v := 300) hM.1 hM.2.1 dX8_init_238 (by decide) ?_
  refine z_newa hM hW hS hlo (k := 9) (100 + 34) (by decide) (fun q => hfz 9 (100 + 34) (by decide) (by decide) (((md.1 9 (100 + 34) (fun ⟨g, q1, _, _, q2⟩ => by omega)).1).mp q)) (atype := .int) (ty := .int) rfl 0 rfl la_int (fun _ _ h => h) (fun _ => rfl) (x := 300) (n := 300) (by decide) rfl (by decide) (Nat.le_of_ble_eq_true rfl) (Nat.le_of_ble_eq_true rfl) dX8_init_241 (fun Zm34 H hx hW hS => ?_)
  have dmm34_0 : Zm34.2.1 8 (0) := (hx.2.1 _ _).mpr (Or.inl dmm33_0)
  have ham34_0 : Zm34.1 8 (0) = Z.1 8 (0) := (hx.1 _ _ ((by omega))).1.trans ham33_0
  have hda : Zm34.2.1 9 (100 + 34) := (hx.2.1 _ _).mpr (Or.inr ⟨rfl, rfl⟩)
  refine z_putr hM hW hS zc8 dmm34_0 ham34_0 34 (by decide) (t := 9) (j := 100 + 34) rfl hda lf_X8_99 (Or.inr ⟨hin, rfl⟩) (tyX8 34) (tyX8_ok 34 (by decide)) (fun _ => rfl) (fun _ => rfl) dX8_init_243 (fun H locs hW hS => ?_)
  obtain ⟨Tm34, hT9⟩ : ∃ q, q = (sr (sz Tm33 9 (100 + 34)) 8 (0) (34) (some (100 + 34))) := ⟨_, rfl⟩
  have hW : zW D ar A Zm34 Tm34 H := by rw [hT9]; exact hW
  have md : mdI 35 Z S Zm34 Tm34 := by rw [hT9]; exact md.step (K := 9) rfl (by decide) hx
  refine lv_aload_n hM.1 hM.2.1 dX8_init_246 rfl (lv_at hl 0 rfl) ?_
  refine lv_sipush (v := 300) hM.1 hM.2.1 dX8_init_247 (by decide) ?_
  refine z_newa hM hW hS hlo (k := 9) (100 + 35) (by decide) (fun q => hfz 9 (100 + 35) (by decide) (by decide) (((md.1 9 (100 + 35) (fun ⟨g, q1, _, _, q2⟩ => by omega)).1).mp q)) (atype := .int) (ty := .int) rfl 0 rfl la_int (fun _ _ h => h) (fun _ => rfl) (x := 300) (n := 300) (by decide) rfl (by decide) (Nat.le_of_ble_eq_true rfl) (Nat.le_of_ble_eq_true rfl) dX8_init_250 (fun Zm35 H hx hW hS => ?_)
  have dmm35_0 : Zm35.2.1 8 (0) := (hx.2.1 _ _).mpr (Or.inl dmm34_0)
  have ham35_0 : Zm35.1 8 (0) = Z.1 8 (0) := (hx.1 _ _ ((by omega))).1.trans ham34_0
  have hda : Zm35.2.1 9 (100 + 35) := (hx.2.1 _ _).mpr (Or.inr ⟨rfl, rfl⟩)
  refine z_putr hM hW hS zc8 dmm35_0 ham35_0 35 (by decide) (t := 9) (j := 100 + 35) rfl hda lf_X8_102 (Or.inr ⟨hin, rfl⟩) (tyX8 35) (tyX8_ok 35 (by decide)) (fun _ => rfl) (fun _ => rfl) dX8_init_252 (fun H locs hW hS => ?_)
  obtain ⟨Tm35, hT9⟩ : ∃ q, q = (sr (sz Tm34 9 (100 + 35)) 8 (0) (35) (some (100 + 35))) := ⟨_, rfl⟩
  have hW : zW D ar A Zm35 Tm35 H := by rw [hT9]; exact hW
  have md : mdI 36 Z S Zm35 Tm35 := by rw [hT9]; exact md.step (K := 9) rfl (by decide) hx
  refine lv_aload_n hM.1 hM.2.1 dX8_init_255 rfl (lv_at hl 0 rfl) ?_
  refine lv_sipush (v := 300) hM.1 hM.2.1 dX8_init_256 (by decide) ?_
  refine z_newa hM hW hS hlo (k := 9) (100 + 36) (by decide) (fun q => hfz 9 (100 + 36) (by decide) (by decide) (((md.1 9 (100 + 36) (fun ⟨g, q1, _, _, q2⟩ => by omega)).1).mp q)) (atype := .int) (ty := .int) rfl 0 rfl la_int (fun _ _ h => h) (fun _ => rfl) (x := 300) (n := 300) (by decide) rfl (by decide) (Nat.le_of_ble_eq_true rfl) (Nat.le_of_ble_eq_true rfl) dX8_init_259 (fun Zm36 H hx hW hS => ?_)
  have dmm36_0 : Zm36.2.1 8 (0) := (hx.2.1 _ _).mpr (Or.inl dmm35_0)
  have ham36_0 : Zm36.1 8 (0) = Z.1 8 (0) := (hx.1 _ _ ((by omega))).1.trans ham35_0
  have hda : Zm36.2.1 9 (100 + 36) := (hx.2.1 _ _).mpr (Or.inr ⟨rfl, rfl⟩)
  refine z_putr hM hW hS zc8 dmm36_0 ham36_0 36 (by decide) (t := 9) (j := 100 + 36) rfl hda lf_X8_105 (Or.inr ⟨hin, rfl⟩) (tyX8 36) (tyX8_ok 36 (by decide)) (fun _ => rfl) (fun _ => rfl) dX8_init_261 (fun H locs hW hS => ?_)
  obtain ⟨Tm36, hT9⟩ : ∃ q, q = (sr (sz Tm35 9 (100 + 36)) 8 (0) (36) (some (100 + 36))) := ⟨_, rfl⟩
  have hW : zW D ar A Zm36 Tm36 H := by rw [hT9]; exact hW
  have md : mdI 37 Z S Zm36 Tm36 := by rw [hT9]; exact md.step (K := 9) rfl (by decide) hx
  refine lv_aload_n hM.1 hM.2.1 dX8_init_264 rfl (lv_at hl 0 rfl) ?_
  refine lv_sipush (v := 300) hM.1 hM.2.1 dX8_init_265 (by decide) ?_
  refine z_newa hM hW hS hlo (k := 9) (100 + 37) (by decide) (fun q => hfz 9 (100 + 37) (by decide) (by decide) (((md.1 9 (100 + 37) (fun ⟨g, q1, _, _, q2⟩ => by omega)).1).mp q)) (atype := .int) (ty := .int) rfl 0 rfl la_int (fun _ _ h => h) (fun _ => rfl) (x := 300) (n := 300) (by decide) rfl (by decide) (Nat.le_of_ble_eq_true rfl) (Nat.le_of_ble_eq_true rfl) dX8_init_268 (fun Zm37 H hx hW hS => ?_)
  have dmm37_0 : Zm37.2.1 8 (0) := (hx.2.1 _ _).mpr (Or.inl dmm36_0)
  have ham37_0 : Zm37.1 8 (0) = Z.1 8 (0) := (hx.1 _ _ ((by omega))).1.trans ham36_0
  have hda : Zm37.2.1 9 (100 + 37) := (hx.2.1 _ _).mpr (Or.inr ⟨rfl, rfl⟩)
  refine z_putr hM hW hS zc8 dmm37_0 ham37_0 37 (by decide) (t := 9) (j := 100 + 37) rfl hda lf_X8_108 (Or.inr ⟨hin, rfl⟩) (tyX8 37) (tyX8_ok 37 (by decide)) (fun _ => rfl) (fun _ => rfl) dX8_init_270 (fun H locs hW hS => ?_)
  obtain ⟨Tm37, hT9⟩ : ∃ q, q = (sr (sz Tm36 9 (100 + 37)) 8 (0) (37) (some (100 + 37))) := ⟨_, rfl⟩
  have hW : zW D ar A Zm37 Tm37 H := by rw [hT9]; exact hW
  have md : mdI 38 Z S Zm37 Tm37 := by rw [hT9]; exact md.step (K := 9) rfl (by decide) hx
  refine lv_aload_n hM.1 hM.2.1 dX8_init_273 rfl (lv_at hl 0 rfl) ?_
  refine lv_sipush (v := 300) hM.1 hM.2.1 dX8_init_274 (by decide) ?_
  refine z_newa hM hW hS hlo (k := 9) (100 + 38) (by decide) (fun q => hfz 9 (100 + 38) (by decide) (by decide) (((md.1 9 (100 + 38) (fun ⟨g, q1, _, _, q2⟩ => by omega)).1).mp q)) (atype := .int) (ty := .int) rfl 0 rfl la_int (fun _ _ h => h) (fun _ => rfl) (x := 300) (n := 300) (by decide) rfl (by decide) (Nat.le_of_ble_eq_true rfl) (Nat.le_of_ble_eq_true rfl) dX8_init_277 (fun Zm38 H hx hW hS => ?_)
  have dmm38_0 : Zm38.2.1 8 (0) := (hx.2.1 _ _).mpr (Or.inl dmm37_0)
  have ham38_0 : Zm38.1 8 (0) = Z.1 8 (0) := (hx.1 _ _ ((by omega))).1.trans ham37_0
  have hda : Zm38.2.1 9 (100 + 38) := (hx.2.1 _ _).mpr (Or.inr ⟨rfl, rfl⟩)
  refine z_putr hM hW hS zc8 dmm38_0 ham38_0 38 (by decide) (t := 9) (j := 100 + 38) rfl hda lf_X8_111 (Or.inr ⟨hin, rfl⟩) (tyX8 38) (tyX8_ok 38 (by decide)) (fun _ => rfl) (fun _ => rfl) dX8_init_279 (fun H locs hW hS => ?_)
  obtain ⟨Tm38, hT9⟩ : ∃ q, q = (sr (sz Tm37 9 (100 + 38)) 8 (0) (38) (some (100 + 38))) := ⟨_, rfl⟩
  have hW : zW D ar A Zm38 Tm38 H := by rw [hT9]; exact hW
  have md : mdI 39 Z S Zm38 Tm38 := by rw [hT9]; exact md.step (K := 9) rfl (by decide) hx
  refine lv_aload_n hM.1 hM.2.1 dX8_init_282 rfl (lv_at hl 0 rfl) ?_
  refine lv_sipush (v := 300) hM.1 hM.2.1 dX8_init_283 (by decide) ?_
  refine z_newa hM hW hS hlo (k := 9) (100 + 39) (by decide) (fun q => hfz 9 (100 + 39) (by decide) (by decide) (((md.1 9 (100 + 39) (fun ⟨g, q1, _, _, q2⟩ => by omega)).1).mp q)) (atype := .int) (ty := .int) rfl 0 rfl la_int (fun _ _ h => h) (fun _ => rfl) (x := 300) (n := 300) (by decide) rfl (by decide) (Nat.le_of_ble_eq_true rfl) (Nat.le_of_ble_eq_true rfl) dX8_init_286 (fun Zm39 H hx hW hS => ?_)
  have dmm39_0 : Zm39.2.1 8 (0) := (hx.2.1 _ _).mpr (Or.inl dmm38_0)
  have ham39_0 : Zm39.1 8 (0) = Z.1 8 (0) := (hx.1 _ _ ((by omega))).1.trans ham38_0
  have hda : Zm39.2.1 9 (100 + 39) := (hx.2.1 _ _).mpr (Or.inr ⟨rfl, rfl⟩)
  refine z_putr hM hW hS zc8 dmm39_0 ham39_0 39 (by decide) (t := 9) (j := 100 + 39) rfl hda lf_X8_114 (Or.inr ⟨hin, rfl⟩) (tyX8 39) (tyX8_ok 39 (by decide)) (fun _ => rfl) (fun _ => rfl) dX8_init_288 (fun H locs hW hS => ?_)
  obtain ⟨Tm39, hT9⟩ : ∃ q, q = (sr (sz Tm38 9 (100 + 39)) 8 (0) (39) (some (100 + 39))) := ⟨_, rfl⟩
  have hW : zW D ar A Zm39 Tm39 H := by rw [hT9]; exact hW
  have md : mdI 40 Z S Zm39 Tm39 := by rw [hT9]; exact md.step (K := 9) rfl (by decide) hx
  refine lv_aload_n hM.1 hM.2.1 dX8_init_291 rfl (lv_at hl 0 rfl) ?_
  refine lv_sipush (v := 300) hM.1 hM.2.1 dX8_init_292 (by decide) ?_
  refine z_newa hM hW hS hlo (k := 9) (100 + 40) (by decide) (fun q => hfz 9 (100 + 40) (by decide) (by decide) (((md.1 9 (100 + 40) (fun ⟨g, q1, _, _, q2⟩ => by omega)).1).mp q)) (atype := .int) (ty := .int) rfl 0 rfl la_int (fun _ _ h => h) (fun _ => rfl) (x := 300) (n := 300) (by decide) rfl (by decide) (Nat.le_of_ble_eq_true rfl) (Nat.le_of_ble_eq_true rfl) dX8_init_295 (fun Zm40 H hx hW hS => ?_)
  have dmm40_0 : Zm40.2.1 8 (0) := (hx.2.1 _ _).mpr (Or.inl dmm39_0)
  have ham40_0 : Zm40.1 8 (0) = Z.1 8 (0) := (hx.1 _ _ ((by omega))).1.trans ham39_0
  have hda : Zm40.2.1 9 (100 + 40) := (hx.2.1 _ _).mpr (Or.inr ⟨rfl, rfl⟩)
  refine z_putr hM hW hS zc8 dmm40_0 ham40_0 40 (by decide) (t := 9) (j := 100 + 40) rfl hda lf_X8_117 (Or.inr ⟨hin, rfl⟩) (tyX8 40) (tyX8_ok 40 (by decide)) (fun _ => rfl) (fun _ => rfl) dX8_init_297 (fun H locs hW hS => ?_)
  obtain ⟨Tm40, hT9⟩ : ∃ q, q = (sr (sz Tm39 9 (100 + 40)) 8 (0) (40) (some (100 + 40))) := ⟨_, rfl⟩
  have hW : zW D ar A Zm40 Tm40 H := by rw [hT9]; exact hW
  have md : mdI 41 Z S Zm40 Tm40 := by rw [hT9]; exact md.step (K := 9) rfl (by decide) hx
  refine lv_aload_n hM.1 hM.2.1 dX8_init_300 rfl (lv_at hl 0 rfl) ?_
  refine lv_sipush (v := 300) hM.1 hM.2.1 dX8_init_301 (by decide) ?_
  refine z_newa hM hW hS hlo (k := 9) (100 + 41) (by decide) (fun q => hfz 9 (100 + 41) (by decide) (by decide) (((md.1 9 (100 + 41) (fun ⟨g, q1, _, _, q2⟩ => by omega)).1).mp q)) (atype := .int) (ty := .int) rfl 0 rfl la_int (fun _ _ h => h) (fun _ => rfl) (x := 300) (n := 300) (by decide) rfl (by decide) (Nat.le_of_ble_eq_true rfl) (Nat.le_of_ble_eq_true rfl) dX8_init_304 (fun Zm41 H hx hW hS => ?_)
  have dmm41_0 : Zm41.2.1 8 (0) := (hx.2.1 _ _).mpr (Or.inl dmm40_0)
  have ham41_0 : Zm41.1 8 (0) = Z.1 8 (0) := (hx.1 _ _ ((by omega))).1.trans ham40_0
  have hda : Zm41.2.1 9 (100 + 41) := (hx.2.1 _ _).mpr (Or.inr ⟨rfl, rfl⟩)
  refine z_putr hM hW hS zc8 dmm41_0 ham41_0 41 (by decide) (t := 9) (j := 100 + 41) rfl hda lf_X8_120 (Or.inr ⟨hin, rfl⟩) (tyX8 41) (tyX8_ok 41 (by decide)) (fun _ => rfl) (fun _ => rfl) dX8_init_306 (fun H locs hW hS => ?_)
  obtain ⟨Tm41, hT9⟩ : ∃ q, q = (sr (sz Tm40 9 (100 + 41)) 8 (0) (41) (some (100 + 41))) := ⟨_, rfl⟩
  have hW : zW D ar A Zm41 Tm41 H := by rw [hT9]; exact hW
  have md : mdI 42 Z S Zm41 Tm41 := by rw [hT9]; exact md.step (K := 9) rfl (by decide) hx
  refine lv_aload_n hM.1 hM.2.1 dX8_init_309 rfl (lv_at hl 0 rfl) ?_
  refine lv_sipush (v := 300) hM.1 hM.2.1 dX8_init_310 (by decide) ?_
  refine z_newa hM hW hS hlo (k := 9) (100 + 42) (by decide) (fun q => hfz 9 (100 + 42) (by decide) (by decide) (((md.1 9 (100 + 42) (fun ⟨g, q1, _, _, q2⟩ => by omega)).1).mp q)) (atype := .int) (ty := .int) rfl 0 rfl la_int (fun _ _ h => h) (fun _ => rfl) (x := 300) (n := 300) (by decide) rfl (by decide) (Nat.le_of_ble_eq_true rfl) (Nat.le_of_ble_eq_true rfl) dX8_init_313 (fun Zm42 H hx hW hS => ?_)
  have dmm42_0 : Zm42.2.1 8 (0) := (hx.2.1 _ _).mpr (Or.inl dmm41_0)
  have ham42_0 : Zm42.1 8 (0) = Z.1 8 (0) := (hx.1 _ _ ((by omega))).1.trans ham41_0
  have hda : Zm42.2.1 9 (100 + 42) := (hx.2.1 _ _).mpr (Or.inr ⟨rfl, rfl⟩)
  refine z_putr hM hW hS zc8 dmm42_0 ham42_0 42 (by decide) (t := 9) (j := 100 + 42) rfl hda lf_X8_123 (Or.inr ⟨hin, rfl⟩) (tyX8 42) (tyX8_ok 42 (by decide)) (fun _ => rfl) (fun _ => rfl) dX8_init_315 (fun H locs hW hS => ?_)
  obtain ⟨Tm42, hT9⟩ : ∃ q, q = (sr (sz Tm41 9 (100 + 42)) 8 (0) (42) (some (100 + 42))) := ⟨_, rfl⟩
  have hW : zW D ar A Zm42 Tm42 H := by rw [hT9]; exact hW
  have md : mdI 43 Z S Zm42 Tm42 := by rw [hT9]; exact md.step (K := 9) rfl (by decide) hx
  refine lv_aload_n hM.1 hM.2.1 dX8_init_318 rfl (lv_at hl 0 rfl) ?_
  refine lv_sipush (v := 300) hM.1 hM.2.1 dX8_init_319 (by decide) ?_
  refine z_newa hM hW hS hlo (k := 10) (100 + 43) (by decide) (fun q => hfz 10 (100 + 43) (by decide) (by decide) (((md.1 10 (100 + 43) (fun ⟨g, q1, _, _, q2⟩ => by omega)).1).mp q)) (atype := .long) (ty := .long) rfl 1 rfl la_long (fun _ _ h => h) (fun _ => rfl) (x := 300) (n := 300) (by decide) rfl (by decide) (Nat.le_of_ble_eq_true rfl) (Nat.le_of_ble_eq_true rfl) dX8_init_322 (fun Zm43 H hx hW hS => ?_)
  have dmm43_0 : Zm43.2.1 8 (0) := (hx.2.1 _ _).mpr (Or.inl dmm42_0)
  have ham43_0 : Zm43.1 8 (0) = Z.1 8 (0) := (hx.1 _ _ ((by omega))).1.trans ham42_0
  have hda : Zm43.2.1 10 (100 + 43) := (hx.2.1 _ _).mpr (Or.inr ⟨rfl, rfl⟩)
  refine z_putr hM hW hS zc8 dmm43_0 ham43_0 43 (by decide) (t := 10) (j := 100 + 43) rfl hda lf_X8_126 (Or.inr ⟨hin, rfl⟩) (tyX8 43) (tyX8_ok 43 (by decide)) (fun _ => rfl) (fun _ => rfl) dX8_init_324 (fun H locs hW hS => ?_)
  obtain ⟨Tm43, hT9⟩ : ∃ q, q = (sr (sz Tm42 10 (100 + 43)) 8 (0) (43) (some (100 + 43))) := ⟨_, rfl⟩
  have hW : zW D ar A Zm43 Tm43 H := by rw [hT9]; exact hW
  have md : mdI 44 Z S Zm43 Tm43 := by rw [hT9]; exact md.step (K := 10) rfl (by decide) hx
  have md := md.skip (f := 44) rfl
  have hO : mOK Zm43 Tm43.2.2 := ⟨dmm43_0, fun f h1 h2 => ⟨(md.2.2 f h1 h2).2.2.1, (md.2.2 f h1 h2).2.1⟩⟩
  refine W.widen (k := 39) (n := 5448) (Nat.le_of_ble_eq_true rfl) (Nat.le_of_ble_eq_true rfl) ?_
  refine W.eq (g2 := F0 mX 327 ls []) rfl ?_
  have main : ∀ (n : Nat) (ls : Array Slot) (H : Heap) (locs : List Loc), 1 ≤ n → n ≤ 7 → n = clampN x → lv_has ls 3 [(0, .ref (Z.1 8 (0))), (1, .int (x))] → zW D ar A Zm43 (si Tm43 8 (0) (0) (nI n)) H → va_S A sX.heap H locs → W pX l eX ({ frames := 1, cells := 39, slots := 5448, locals := 12 } : Room) sX mX ([.ref (Z.1 8 (0)), .int (x)] : List Value).toArray bX methX cX H locs 39 5448 (MQ bX (zQ D ar A rvV (fun _ Z' S' => ∃ T, mdI 45 Z S Z' T ∧ S' = mCt (clampN x) T)) ([.ref (Z.1 8 (0)), .int (x)] : List Value).toArray sX 39 5448 A) (F0 mX 352 ls []) := by
    intro n ls H locs hn1 hn7 hnc hl hW hS
    have loop2 : ∀ (f k : Nat) (V : zS) (ls : Array Slot) (H : Heap) (locs : List Loc), k + f = 4 → V.2.2 = Tm43.2.2 → lC2 f k V = mCt n Tm43 → lv_has ls 3 [(2, .int (nI k)), (0, .ref (Z.1 8 (0))), (1, .int (x))] → zW D ar A Zm43 V H → va_S A sX.heap H locs → W pX l eX ({ frames := 1, cells := 39, slots := 5448, locals := 12 } : Room) sX mX ([.ref (Z.1 8 (0)), .int (x)] : List Value).toArray bX methX cX H locs 39 5448 (MQ bX (zQ D ar A rvV (fun _ Z' S' => ∃ T, mdI 45 Z S Z' T ∧ S' = mCt (clampN x) T)) ([.ref (Z.1 8 (0)), .int (x)] : List Value).toArray sX 39 5448 A) (F0 mX 419 ls []) := by
      intro f
      induction f with
      | zero =>
        intro k V ls H locs hk hU hE hl hW hS
        have hc9 : (4 : Int32) ≤ nI k := by rw [show k = 4 by omega]; exact Int32.le_refl _
        refine lv_iload_n hM.1 hM.2.1 dX8_init_419 rfl (lv_at hl 0 rfl) ?_
        refine lv_iconst (v := 4) hM.1 hM.2.1 dX8_init_420 (by decide) ?_
        refine lv_icmp_ge hM.1 hM.2.1 dX8_init_421 (tgt := 437) (by decide) (fun _ => ?_) (fun h => absurd hc9 h)
        exact z_vret hM hlk hr hW hS ⟨Tm43, md, by rw [← hnc]; exact hE⟩ dX8_init_437
      | succ f ih =>
        intro k V ls H locs hk hU hE hl hW hS
        have hc9 : ¬ (4 : Int32) ≤ nI k := nI_ge (a := k) (b := 4) (by omega) (by omega)
        refine lv_iload_n hM.1 hM.2.1 dX8_init_419 rfl (lv_at hl 0 rfl) ?_
        refine lv_iconst (v := 4) hM.1 hM.2.1 dX8_init_420 (by decide) ?_
        refine lv_icmp_ge hM.1 hM.2.1 dX8_init_421 (tgt := 437) (by decide) (fun h => absurd h hc9) (fun _ => ?_)
        refine lv_aload_n hM.1 hM.2.1 dX8_init_424 rfl (lv_at hl 1 rfl) ?_
        refine z_getr hM hW zc8 dmm43_0 ham43_0 11 (by decide) lf_X8_39 (t := 9) (j := 111) rfl ((gr_of hU).trans (hO.r 11 (by decide) (by decide))) dX8_init_425 (fun hd1_425 => ?_)
        refine lv_iload_n hM.1 hM.2.1 dX8_init_428 rfl (lv_at hl 0 rfl) ?_
        refine lv_iconst (v := (-1)) hM.1 hM.2.1 dX8_init_429 (by decide) ?_
        refine z_iast hM hW hS hd1_425 rfl (vin_nI (hO.l 11 (by decide) (by decide)) (by have : mlen 11 = 4 := rfl; omega) (by decide)) dX8_init_430 (fun H locs hW hS => ?_)
        rw [nI_clamp (by omega)] at hW
        refine lv_iinc hM.1 hM.2.1 dX8_init_431 hl (k := 0) rfl (v := nI (k + 1)) (nI_succ _).symm (by decide) (lv' := [(2, .int (nI (k + 1))), (0, .ref (Z.1 8 (0))), (1, .int (x))]) rfl (fun ls hl => ?_)
        refine lv_goto hM.1 hM.2.1 dX8_init_434 (tgt := 419) (by decide) ?_
        exact ih (k + 1) (si V 9 (111) (k) ((-1))) ls H locs (by omega) hU hE (lv_sub hl [0, 1, 2] rfl) hW hS
    have loop1 : ∀ (f k : Nat) (U : zS) (ls : Array Slot) (H : Heap) (locs : List Loc), k + f = n → U.2.2 = Tm43.2.2 → gi U 8 0 0 = nI n → lC1 f k U = lC1 n 0 (si Tm43 8 0 0 (nI n)) → lv_has ls 3 [(2, .int (nI k)), (0, .ref (Z.1 8 (0))), (1, .int (x))] → zW D ar A Zm43 U H → va_S A sX.heap H locs → W pX l eX ({ frames := 1, cells := 39, slots := 5448, locals := 12 } : Room) sX mX ([.ref (Z.1 8 (0)), .int (x)] : List Value).toArray bX methX cX H locs 39 5448 (MQ bX (zQ D ar A rvV (fun _ Z' S' => ∃ T, mdI 45 Z S Z' T ∧ S' = mCt (clampN x) T)) ([.ref (Z.1 8 (0)), .int (x)] : List Value).toArray sX 39 5448 A) (F0 mX 354 ls []) := by
      intro f
      induction f with
      | zero =>
        intro k U ls H locs hk hU hn hE hl hW hS
        have hc9 : nI n ≤ nI k := by rw [show k = n by omega]; exact Int32.le_refl _
        have hE : U = lC1 n 0 (si Tm43 8 0 0 (nI n)) := hE
        refine lv_iload_n hM.1 hM.2.1 dX8_init_354 rfl (lv_at hl 0 rfl) ?_
        refine lv_aload_n hM.1 hM.2.1 dX8_init_355 rfl (lv_at hl 1 rfl) ?_
        refine z_get hM hW zc8 dmm43_0 ham43_0 0 (by decide) lf_X8_129 (v := .int (nI n)) (congrArg Value.int (show gi U 8 (0) (0) = nI n from hn)) dX8_init_356 ?_
        refine lv_icmp_ge hM.1 hM.2.1 dX8_init_359 (tgt := 382) (by decide) (fun _ => ?_) (fun h => absurd hc9 h)
        refine lv_aload_n hM.1 hM.2.1 dX8_init_382 rfl (lv_at hl 1 rfl) ?_
        refine z_getr hM hW zc8 dmm43_0 ham43_0 8 (by decide) lf_X8_33 (t := 9) (j := 108) rfl ((gr_of hU).trans (hO.r 8 (by decide) (by decide))) dX8_init_383 (fun hd2_383 => ?_)
        refine lv_bipush (v := 7) hM.1 hM.2.1 dX8_init_386 (by decide) ?_
        refine lv_aload_n hM.1 hM.2.1 dX8_init_388 rfl (lv_at hl 1 rfl) ?_
        refine z_get hM hW zc8 dmm43_0 ham43_0 0 (by decide) lf_X8_129 (v := .int (nI n)) (congrArg Value.int (show gi U 8 (0) (0) = nI n from hn)) dX8_init_389 ?_
        refine lv_iconst (v := 2) hM.1 hM.2.1 dX8_init_392 (by decide) ?_
        refine lv_idiv hM.1 hM.2.1 dX8_init_393 (by decide) ?_
        refine lv_iconst (v := 1) hM.1 hM.2.1 dX8_init_394 (by decide) ?_
        refine lv_iadd hM.1 hM.2.1 dX8_init_395 ?_
        refine z_iast hM hW hS hd2_383 rfl (vin_nI (X := 7) (hO.l 8 (by decide) (by decide)) (by decide) (by decide)) dX8_init_396 (fun H locs hW hS => ?_)
        refine lv_aload_n hM.1 hM.2.1 dX8_init_397 rfl (lv_at hl 1 rfl) ?_
        refine z_getr hM hW zc8 dmm43_0 ham43_0 8 (by decide) lf_X8_33 (t := 9) (j := 108) rfl ((gr_of hU).trans (hO.r 8 (by decide) (by decide))) dX8_init_398 (fun hd3_398 => ?_)
        refine lv_bipush (v := 8) hM.1 hM.2.1 dX8_init_401 (by decide) ?_
        refine lv_aload_n hM.1 hM.2.1 dX8_init_403 rfl (lv_at hl 1 rfl) ?_
        refine z_get hM hW zc8 dmm43_0 ham43_0 0 (by decide) lf_X8_129 (v := .int (nI n)) (congrArg Value.int (show gi (si U 9 (108) (7) (((nI n) / (2)) + (1))) 8 (0) (0) = nI n from hn)) dX8_init_404 ?_
        refine lv_iconst (v := 2) hM.1 hM.2.1 dX8_init_407 (by decide) ?_
        refine lv_idiv hM.1 hM.2.1 dX8_init_408 (by decide) ?_
        refine lv_iconst (v := 1) hM.1 hM.2.1 dX8_init_409 (by decide) ?_
        refine lv_iadd hM.1 hM.2.1 dX8_init_410 ?_
        refine z_iast hM hW hS hd3_398 rfl (vin_nI (X := 8) (hO.l 8 (by decide) (by decide)) (by decide) (by decide)) dX8_init_411 (fun H locs hW hS => ?_)
        refine lv_aload_n hM.1 hM.2.1 dX8_init_412 rfl (lv_at hl 1 rfl) ?_
        refine lv_iconst (v := 1) hM.1 hM.2.1 dX8_init_413 (by decide) ?_
        refine z_puti hM hW hS zc8 dmm43_0 ham43_0 10 (by decide) rfl lf_X8_133 (Or.inl rfl) (tyX8 10) (tyX8_ok 10 (by decide)) rfl rfl dX8_init_414 (fun H locs hW hS => ?_)
        refine lv_iconst (v := 0) hM.1 hM.2.1 dX8_init_417 (by decide) ?_
        refine lv_istore_n hM.1 hM.2.1 dX8_init_418 rfl hl (by decide) (lv' := [(2, .int (0)), (0, .ref (Z.1 8 (0))), (1, .int (x))]) rfl (fun ls hl => ?_)
        exact loop2 4 0 (si (si (si U 9 (108) (7) (((nI n) / (2)) + (1))) 9 (108) (8) (((nI n) / (2)) + (1))) 8 (0) (10) (1)) ls _ _ (by omega) hU (by rw [hE]; rfl) (lv_sub hl [0, 1, 2] rfl) hW hS
      | succ f ih =>
        intro k U ls H locs hk hU hn hE hl hW hS
        have hc9 : ¬ nI n ≤ nI k := nI_ge (by omega) (by omega)
        refine lv_iload_n hM.1 hM.2.1 dX8_init_354 rfl (lv_at hl 0 rfl) ?_
        refine lv_aload_n hM.1 hM.2.1 dX8_init_355 rfl (lv_at hl 1 rfl) ?_
        refine z_get hM hW zc8 dmm43_0 ham43_0 0 (by decide) lf_X8_129 (v := .int (nI n)) (congrArg Value.int (show gi U 8 (0) (0) = nI n from hn)) dX8_init_356 ?_
        refine lv_icmp_ge hM.1 hM.2.1 dX8_init_359 (tgt := 382) (by decide) (fun h => absurd h hc9) (fun _ => ?_)
        refine lv_aload_n hM.1 hM.2.1 dX8_init_362 rfl (lv_at hl 1 rfl) ?_
        refine z_getr hM hW zc8 dmm43_0 ham43_0 9 (by decide) lf_X8_36 (t := 9) (j := 109) rfl ((gr_of hU).trans (hO.r 9 (by decide) (by decide))) dX8_init_363 (fun hd4_363 => ?_)
        refine lv_iload_n hM.1 hM.2.1 dX8_init_366 rfl (lv_at hl 0 rfl) ?_
        refine lv_iconst (v := 1) hM.1 hM.2.1 dX8_init_367 (by decide) ?_
        refine z_iast hM hW hS hd4_363 rfl (vin_nI (hO.l 9 (by decide) (by decide)) (by have : mlen 9 = 7 := rfl; omega) (by decide)) dX8_init_368 (fun H locs hW hS => ?_)
        rw [nI_clamp (by omega)] at hW
        refine lv_aload_n hM.1 hM.2.1 dX8_init_369 rfl (lv_at hl 1 rfl) ?_
        refine z_getr hM hW zc8 dmm43_0 ham43_0 8 (by decide) lf_X8_33 (t := 9) (j := 108) rfl ((gr_of hU).trans (hO.r 8 (by decide) (by decide))) dX8_init_370 (fun hd5_370 => ?_)
        refine lv_iload_n hM.1 hM.2.1 dX8_init_373 rfl (lv_at hl 0 rfl) ?_
        refine lv_iconst (v := 1) hM.1 hM.2.1 dX8_init_374 (by decide) ?_
        refine z_iast hM hW hS hd5_370 rfl (vin_nI (hO.l 8 (by decide) (by decide)) (by have : mlen 8 = 144 := rfl; omega) (by decide)) dX8_init_375 (fun H locs hW hS => ?_)
        rw [nI_clamp (by omega)] at hW
        refine lv_iinc hM.1 hM.2.1 dX8_init_376 hl (k := 0) rfl (v := nI (k + 1)) (nI_succ _).symm (by decide) (lv' := [(2, .int (nI (k + 1))), (0, .ref (Z.1 8 (0))), (1, .int (x))]) rfl (fun ls hl => ?_)
        refine lv_goto hM.1 hM.2.1 dX8_init_379 (tgt := 354) (by decide) ?_
        exact ih (k + 1) (si (si U 9 (109) (k) (1)) 9 (108) (k) (1)) ls H locs (by omega) hU hn hE (lv_sub hl [0, 1, 2] rfl) hW hS
    refine lv_iconst (v := 0) hM.1 hM.2.1 dX8_init_352 (by decide) ?_
    refine lv_istore_n hM.1 hM.2.1 dX8_init_353 rfl hl (by decide) (lv' := [(2, .int (0)), (0, .ref (Z.1 8 (0))), (1, .int (x))]) rfl (fun ls hl => ?_)
    exact loop1 n 0 (si Tm43 8 (0) (0) (nI n)) ls _ _ (by omega) rfl (by rw [gi_si, if_pos ⟨rfl, rfl, rfl⟩]) rfl (lv_sub hl [0, 1, 2] rfl) hW hS
  refine lv_aload_n hM.1 hM.2.1 dX8_init_327 rfl (lv_at hl 0 rfl) ?_
  refine lv_iload_n hM.1 hM.2.1 dX8_init_328 rfl (lv_at hl 1 rfl) ?_
  refine lv_iconst (v := 1) hM.1 hM.2.1 dX8_init_329 (by decide) ?_
  refine lv_icmp_ge hM.1 hM.2.1 dX8_init_330 (tgt := 337) (by decide) (fun h_330 => ?_) (fun h_330 => ?_)
  ·
    refine lv_iload_n hM.1 hM.2.1 dX8_init_337 rfl (lv_at hl 1 rfl) ?_
    refine lv_bipush (v := 7) hM.1 hM.2.1 dX8_init_338 (by decide) ?_
    refine lv_icmp_le hM.1 hM.2.1 dX8_init_340 (tgt := 348) (by decide) (fun h_340 => ?_) (fun h_340 => ?_)
    ·
      refine lv_iload_n hM.1 hM.2.1 dX8_init_348 rfl (lv_at hl 1 rfl) ?_
      refine z_puti hM hW hS zc8 dmm43_0 ham43_0 0 (by decide) rfl lf_X8_129 (Or.inr ⟨hin, rfl⟩) (tyX8 0) (tyX8_ok 0 (by decide)) rfl rfl dX8_init_349 (fun H locs hW hS => ?_)
      exact main (ix x) ls _ _ (cl1 h_330) (cl7 h_330 h_340) (by unfold clampN; rw [pif_pos h_330, pif_pos h_340]) (lv_sub hl [0, 1] rfl) (by rw [nI_ix (cl0 h_330)]; exact hW) hS
    ·
      refine lv_bipush (v := 7) hM.1 hM.2.1 dX8_init_343 (by decide) ?_
      refine lv_goto hM.1 hM.2.1 dX8_init_345 (tgt := 349) (by decide) ?_
      refine z_puti hM hW hS zc8 dmm43_0 ham43_0 0 (by decide) rfl lf_X8_129 (Or.inr ⟨hin, rfl⟩) (tyX8 0) (tyX8_ok 0 (by decide)) rfl rfl dX8_init_349 (fun H locs hW hS => ?_)
      exact main 7 ls _ _ (by decide) (by decide) (by unfold clampN; rw [pif_pos h_330, pif_neg h_340]) (lv_sub hl [0, 1] rfl) hW hS
  ·
    refine lv_iconst (v := 1) hM.1 hM.2.1 dX8_init_333 (by decide) ?_
    refine lv_goto hM.1 hM.2.1 dX8_init_334 (tgt := 349) (by decide) ?_
    refine z_puti hM hW hS zc8 dmm43_0 ham43_0 0 (by decide) rfl lf_X8_129 (Or.inr ⟨hin, rfl⟩) (tyX8 0) (tyX8_ok 0 (by decide)) rfl rfl dX8_init_349 (fun H locs hW hS => ?_)
    exact main 1 ls _ _ (by decide) (by decide) (by unfold clampN; rw [pif_neg h_330]) (lv_sub hl [0, 1] rfl) hW hS
