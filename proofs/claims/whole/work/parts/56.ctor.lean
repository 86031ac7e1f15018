def s_X4_init (S : zS) (j : Nat) : zS := sr (sz S 6 (20 + j)) 4 j 0 (some (20 + j))
def s_X3_init (S : zS) (c : Nat) : zS := sr (sz S 6 c) 3 c 0 (some c)
def s_X2_init (S : zS) (c : Nat) (x : Int32) : zS := si (sr (sz S 6 (10 + c)) 2 c 1 (some (10 + c))) 2 c 0 x
set_option maxHeartbeats 400000 in
set_option maxRecDepth 100000 in
theorem c_X4_init {l : Launch} {D : va_G} {ar : Nat → ClassId} {A : Nat → Prop} {Z : zZ} {S : zS} {j : Nat} (hj : Z.2.1 4 j) (hfr : ¬ Z.2.1 6 (20 + j)) : zMet l yX4_init prog_6_method_1_code 1 none ({ frames := 2, cells := 1, slots := 3, locals := 32 } : Room) D ar A Z S [.ref (Z.1 4 (j))] rvV (fun _ Z' S' => S' = s_X4_init S j ∧ zext Z Z' 6 (20 + j) 0) := by
  refine z_body (by decide +kernel) (Nat.le_of_ble_eq_true rfl) ?_
  intro pX eX sX mX bX methX cX ls hM hr hlk hml hin hl hW hlo
  have hM : zM pX cX mX _ sX prog_6_method_1_code RX4 D ar := hM
  have hS : va_S A sX.heap sX.heap [] := va_S.rf
  have hl : lv_has ls 1 [(0, .ref (Z.1 4 (j)))] := hl
  refine lv_aload_n hM.1 hM.2.1 dX4_init_0 rfl (lv_at hl 0 rfl) ?_
  refine W.objInit hM.1 hM.2.1 hM.2.2.1 (hM.2.2.2.1 _ lm_X4_1) (hM.2.2.2.1 _ li_objectInit) (hM.2.2.2.1 _ lc_objectInit) rfl (hl.1.trans hml.symm) rfl dX4_init_1 (Nat.le_of_ble_eq_true rfl) (Nat.le_of_ble_eq_true rfl) ?_
  refine lv_aload_n hM.1 hM.2.1 dX4_init_4 rfl (lv_at hl 0 rfl) ?_
  refine z_new hM hW hS hlo zc6 (20 + j) hfr lk_X4_7 lt_X6 lz_X6 (Nat.le_of_ble_eq_true rfl) (Nat.le_of_ble_eq_true rfl) dX4_init_5 (fun Z1 H hx1 hW hS => ?_)
  have dm1_0 : Z1.2.1 4 (j) := (hx1.2.1 _ _).mpr (Or.inl hj)
  have ha1_0 : Z1.1 4 (j) = Z.1 4 (j) := (hx1.1 _ _ ((by omega))).1.trans rfl
  have hdv : Z1.2.1 6 (20 + j) := (hx1.2.1 _ _).mpr (Or.inr ⟨rfl, rfl⟩)
  refine lv_dup hM.1 hM.2.1 dX4_init_8 rfl ?_
  refine z_NFv hM (hml.trans hl.1.symm) hW hS hlo zyX6_init rfl (host := RX7) hM.2.2.2.2.2.2.2.2.2.2.1 li_yX6_init (As := []) (rest := [.ref (Z1.1 6 (20 + j)), .ref (Z.1 4 (j))]) (c_X6_init hdv) rfl rfl (Nat.le_of_ble_eq_true rfl) ⟨Nat.le_of_ble_eq_true rfl, Nat.le_of_ble_eq_true rfl⟩ ⟨Nat.le_of_ble_eq_true rfl, Nat.le_of_ble_eq_true rfl⟩ dX4_init_9 (fun H locs hW hS => ?_)
  refine z_putr hM hW hS zc4 dm1_0 ha1_0 0 (by decide) (t := 6) (j := 20 + j) rfl hdv lf_X4_10 (Or.inr ⟨hin, rfl⟩) (tyX4 0) (tyX4_ok 0 (by decide)) (fun _ => rfl) (fun _ => rfl) dX4_init_12 (fun H locs hW hS => ?_)
  refine W.widen (k := 1) (n := 3) (Nat.le_of_ble_eq_true rfl) (Nat.le_of_ble_eq_true rfl) ?_
  exact z_vret hM hlk hr hW hS ⟨rfl, hx1⟩ dX4_init_15

set_option maxHeartbeats 400000 in
set_option maxRecDepth 100000 in
theorem c_X3_init {l : Launch} {D : va_G} {ar : Nat → ClassId} {A : Nat → Prop} {Z : zZ} {S : zS} {c : Nat} (hj : Z.2.1 3 c) (hfr : ¬ Z.2.1 6 (c)) : zMet l yX3_init prog_5_method_1_code 1 none ({ frames := 2, cells := 1, slots := 3, locals := 32 } : Room) D ar A Z S [.ref (Z.1 3 (c))] rvV (fun _ Z' S' => S' = s_X3_init S c ∧ zext Z Z' 6 (c) 0) := by
  refine z_body (by decide +kernel) (Nat.le_of_ble_eq_true rfl) ?_
  intro pX eX sX mX bX methX cX ls hM hr hlk hml hin hl hW hlo
  have hM : zM pX cX mX _ sX prog_5_method_1_code RX3 D ar := hM
  have hS : va_S A sX.heap sX.heap [] := va_S.rf
  have hl : lv_has ls 1 [(0, .ref (Z.1 3 (c)))] := hl
  refine lv_aload_n hM.1 hM.2.1 dX3_init_0 rfl (lv_at hl 0 rfl) ?_
  refine W.objInit hM.1 hM.2.1 hM.2.2.1 (hM.2.2.2.1 _ lm_X3_3) (hM.2.2.2.1 _ li_objectInit) (hM.2.2.2.1 _ lc_objectInit) rfl (hl.1.trans hml.symm) rfl dX3_init_1 (Nat.le_of_ble_eq_true rfl) (Nat.le_of_ble_eq_true rfl) ?_
  refine lv_aload_n hM.1 hM.2.1 dX3_init_4 rfl (lv_at hl 0 rfl) ?_
  refine z_new hM hW hS hlo zc6 (c) hfr lk_X3_9 lt_X6 lz_X6 (Nat.le_of_ble_eq_true rfl) (Nat.le_of_ble_eq_true rfl) dX3_init_5 (fun Z1 H hx1 hW hS => ?_)
  have dm1_0 : Z1.2.1 3 (c) := (hx1.2.1 _ _).mpr (Or.inl hj)
  have ha1_0 : Z1.1 3 (c) = Z.1 3 (c) := (hx1.1 _ _ ((by omega))).1.trans rfl
  have hdv : Z1.2.1 6 (c) := (hx1.2.1 _ _).mpr (Or.inr ⟨rfl, rfl⟩)
  refine lv_dup hM.1 hM.2.1 dX3_init_8 rfl ?_
  refine z_NFv hM (hml.trans hl.1.symm) hW hS hlo zyX6_init rfl (host := RX7) hM.2.2.2.2.2.2.2.1 li_yX6_init (As := []) (rest := [.ref (Z1.1 6 (c)), .ref (Z.1 3 (c))]) (c_X6_init hdv) rfl rfl (Nat.le_of_ble_eq_true rfl) ⟨Nat.le_of_ble_eq_true rfl, Nat.le_of_ble_eq_true rfl⟩ ⟨Nat.le_of_ble_eq_true rfl, Nat.le_of_ble_eq_true rfl⟩ dX3_init_9 (fun H locs hW hS => ?_)
  refine z_putr hM hW hS zc3 dm1_0 ha1_0 0 (by decide) (t := 6) (j := c) rfl hdv lf_X3_12 (Or.inr ⟨hin, rfl⟩) (tyX3 0) (tyX3_ok 0 (by decide)) (fun _ => rfl) (fun _ => rfl) dX3_init_12 (fun H locs hW hS => ?_)
  refine W.widen (k := 1) (n := 3) (Nat.le_of_ble_eq_true rfl) (Nat.le_of_ble_eq_true rfl) ?_
  exact z_vret hM hlk hr hW hS ⟨rfl, hx1⟩ dX3_init_15

set_option maxHeartbeats 400000 in
set_option maxRecDepth 100000 in
theorem c_X2_init {l : Launch} {D : va_G} {ar : Nat → ClassId} {A : Nat → Prop} {Z : zZ} {S : zS} {c : Nat} {x : Int32} (hj : Z.2.1 2 c) (hfr : ¬ Z.2.1 6 (10 + c)) : zMet l yX2_init prog_4_method_1_code 2 none ({ frames := 2, cells := 1, slots := 3, locals := 32 } : Room) D ar A Z S [.ref (Z.1 2 (c)), .int (x)] rvV (fun _ Z' S' => S' = s_X2_init S c x ∧ zext Z Z' 6 (10 + c) 0) := by
  refine z_body (by decide +kernel) (Nat.le_of_ble_eq_true rfl) ?_
  intro pX eX sX mX bX methX cX ls hM hr hlk hml hin hl hW hlo
  have hM : zM pX cX mX _ sX prog_4_method_1_code RX2 D ar := hM
  have hS : va_S A sX.heap sX.heap [] := va_S.rf
  have hl : lv_has ls 2 [(0, .ref (Z.1 2 (c))), (1, .int (x))] := hl
  refine lv_aload_n hM.1 hM.2.1 dX2_init_0 rfl (lv_at hl 0 rfl) ?_
  refine W.objInit hM.1 hM.2.1 hM.2.2.1 (hM.2.2.2.1 _ lm_X2_3) (hM.2.2.2.1 _ li_objectInit) (hM.2.2.2.1 _ lc_objectInit) rfl (hl.1.trans hml.symm) rfl dX2_init_1 (Nat.le_of_ble_eq_true rfl) (Nat.le_of_ble_eq_true rfl) ?_
  refine lv_aload_n hM.1 hM.2.1 dX2_init_4 rfl (lv_at hl 0 rfl) ?_
  refine z_new hM hW hS hlo zc6 (10 + c) hfr lk_X2_9 lt_X6 lz_X6 (Nat.le_of_ble_eq_true rfl) (Nat.le_of_ble_eq_true rfl) dX2_init_5 (fun Z1 H hx1 hW hS => ?_)
  have dm1_0 : Z1.2.1 2 (c) := (hx1.2.1 _ _).mpr (Or.inl hj)
  have ha1_0 : Z1.1 2 (c) = Z.1 2 (c) := (hx1.1 _ _ ((by omega))).1.trans rfl
  have hdv : Z1.2.1 6 (10 + c) := (hx1.2.1 _ _).mpr (Or.inr ⟨rfl, rfl⟩)
  refine lv_dup hM.1 hM.2.1 dX2_init_8 rfl ?_
  refine z_NFv hM (hml.trans hl.1.symm) hW hS hlo zyX6_init rfl (host := RX7) hM.2.2.2.2.2.2.2.2.1 li_yX6_init (As := []) (rest := [.ref (Z1.1 6 (10 + c)), .ref (Z.1 2 (c))]) (c_X6_init hdv) rfl rfl (Nat.le_of_ble_eq_true rfl) ⟨Nat.le_of_ble_eq_true rfl, Nat.le_of_ble_eq_true rfl⟩ ⟨Nat.le_of_ble_eq_true rfl, Nat.le_of_ble_eq_true rfl⟩ dX2_init_9 (fun H locs hW hS => ?_)
  refine z_putr hM hW hS zc2 dm1_0 ha1_0 1 (by decide) (t := 6) (j := 10 + c) rfl hdv lf_X2_12 (Or.inr ⟨hin, rfl⟩) (tyX2 1) (tyX2_ok 1 (by decide)) (fun _ => rfl) (fun _ => rfl) dX2_init_12 (fun H locs hW hS => ?_)
  refine lv_aload_n hM.1 hM.2.1 dX2_init_15 rfl (lv_at hl 0 rfl) ?_
  refine lv_iload_n hM.1 hM.2.1 dX2_init_16 rfl (lv_at hl 1 rfl) ?_
  refine z_puti hM hW hS zc2 dm1_0 ha1_0 0 (by decide) rfl lf_X2_18 (Or.inr ⟨hin, rfl⟩) (tyX2 0) (tyX2_ok 0 (by decide)) rfl rfl dX2_init_17 (fun H locs hW hS => ?_)
  refine W.widen (k := 1) (n := 3) (Nat.le_of_ble_eq_true rfl) (Nat.le_of_ble_eq_true rfl) ?_
  exact z_vret hM hlk hr hW hS ⟨rfl, hx1⟩ dX2_init_20
