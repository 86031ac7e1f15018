theorem arI0 {Z Z1 Z2 Z3 : zZ} {S : zS} (hx0 : zext Z Z1 15 0 300) (hx1 : zext Z1 Z2 4 300 0) (hx2 : zext Z2 Z3 6 (20 + 300) 0) : arI 0 Z S Z3 (sr (s_X4_init (sz (sr (sz S 15 0) 1 0 0 (some 0)) 4 300) 300) 1 0 1 (some 300)) := by
  have dn : ∀ k i, ¬ (k = 15 ∧ i = 0) → ¬ (k = 4 ∧ i = 300) → ¬ (k = 6 ∧ i = 320) → ((Z3.2.1 k i ↔ Z.2.1 k i) ∧ Z3.1 k i = Z.1 k i ∧ Z3.2.2 k i = Z.2.2 k i) := fun k i q0 q1 q2 =>
    ⟨⟨fun q => ((hx2.2.1 k i).mp q).elim (fun q => ((hx1.2.1 k i).mp q).elim (fun q => ((hx0.2.1 k i).mp q).elim (fun q => q) (fun q => absurd q q0)) (fun q => absurd q q1)) (fun q => absurd q q2), fun q => (hx2.2.1 k i).mpr (Or.inl ((hx1.2.1 k i).mpr (Or.inl ((hx0.2.1 k i).mpr (Or.inl q)))))⟩, (hx2.1 k i q2).1.trans ((hx1.1 k i q1).1.trans (hx0.1 k i q0).1), (hx2.1 k i q2).2.trans ((hx1.1 k i q1).2.trans (hx0.1 k i q0).2)⟩
  unfold s_X4_init
  refine ⟨fun k i n1 n2 n3 => dn k i n1 (by omega) (by omega), fun k i f n1 n2 n3 => ⟨?_, ?_, fun n4 => ?_⟩, ⟨?_, ?_, ?_, ?_⟩, fun j hj => ?_, fun j hj => absurd hj (by omega)⟩
  · rw [gi_sr, gi_sr, gi_sz, if_neg (by omega), gi_sz, if_neg (by omega), gi_sr, gi_sz, if_neg n1]
  · rw [gj_sr, gj_sr, gj_sz, if_neg (by omega), gj_sz, if_neg (by omega), gj_sr, gj_sz, if_neg n1]
  · rw [gr_sr, if_neg (by omega), gr_sr, if_neg (by omega), gr_sz, if_neg (by omega), gr_sz, if_neg (by omega), gr_sr, if_neg (by omega), gr_sz, if_neg n1]
  · exact (hx2.2.1 _ _).mpr (Or.inl ((hx1.2.1 _ _).mpr (Or.inl ((hx0.2.1 _ _).mpr (Or.inr ⟨rfl, rfl⟩)))))
  · rw [(hx2.1 15 0 (by omega)).2, (hx1.1 15 0 (by omega)).2]; exact hx0.2.2
  · rw [gr_sr, if_neg (by omega), gr_sr, if_neg (by omega), gr_sz, if_neg (by omega), gr_sz, if_neg (by omega), gr_sr, if_pos ⟨rfl, rfl, rfl⟩]
  · rw [gr_sr, if_pos ⟨rfl, rfl, rfl⟩]
  · have e : j = 300 := by omega
    subst e
    refine ⟨(hx2.2.1 _ _).mpr (Or.inl ((hx1.2.1 _ _).mpr (Or.inr ⟨rfl, rfl⟩))), (hx2.2.1 _ _).mpr (Or.inr ⟨rfl, rfl⟩), ?_, fun f => ?_, fun f => ?_, fun f => ?_⟩
    · rw [gr_sr, if_neg (by omega), gr_sr, if_pos ⟨rfl, rfl, rfl⟩]
    · rw [gi_sr, gi_sr, gi_sz, if_neg (by omega), gi_sz, if_pos ⟨rfl, rfl⟩]
    · rw [gi_sr, gi_sr, gi_sz, if_pos ⟨rfl, rfl⟩]
    · rw [gj_sr, gj_sr, gj_sz, if_pos ⟨rfl, rfl⟩]
set_option maxHeartbeats 400000 in
set_option maxRecDepth 100000 in
theorem c_X1_init {l : Launch} {D : va_G} {ar : Nat → ClassId} {A : Nat → Prop} {Z : zZ} {S : zS} (hi : Z.2.1 1 0) (hfa : ¬ Z.2.1 15 0) (hfm : ∀ j, j < 301 → ¬ Z.2.1 4 j) (hfv : ∀ j, j < 301 → ¬ Z.2.1 6 (20 + j)) : zMet l yX1_init prog_3_method_1_code 2 none ({ frames := 3, cells := 603, slots := 3912, locals := 52 } : Room) D ar A Z S [.ref (Z.1 1 (0))] rvV (fun _ Z' S' => arI 300 Z S Z' S') := by
  refine z_body (by decide +kernel) (Nat.le_of_ble_eq_true rfl) ?_
  intro pX eX sX mX bX methX cX ls hM hr hlk hml hin hl hW hlo
  have hM : zM pX cX mX _ sX prog_3_method_1_code RX1 D ar := hM
  have hS : va_S A sX.heap sX.heap [] := va_S.rf
  have hl : lv_has ls 2 [(0, .ref (Z.1 1 (0)))] := hl
  have loop : ∀ (f k : Nat) (Zk : zZ) (T : zS) (ls : Array Slot) (H : Heap) (locs : List Loc), k + f = 300 → arI k Z S Zk T → lv_has ls 2 [(1, .int (nI k)), (0, .ref (Z.1 1 (0)))] → zW D ar A Zk T H → va_S A sX.heap H locs → W pX l eX ({ frames := 3, cells := 603, slots := 3912, locals := 52 } : Room) sX mX ([.ref (Z.1 1 (0))] : List Value).toArray bX methX cX H locs (3 + 2 * k) (312 + 12 * k) (MQ bX (zQ D ar A rvV (fun _ Z' S' => arI 300 Z S Z' S')) ([.ref (Z.1 1 (0))] : List Value).toArray sX 603 3912 A) (F0 mX 27 ls []) := by
    intro f
    induction f with
    | zero =>
      intro k Zk T ls H locs hk hA9 hl hW hS
      have hdK : Zk.2.1 1 0 := ((hA9.1 1 0 (by omega) (by omega) (by omega)).1).mpr hi
      have haK : Zk.1 1 (0) = Z.1 1 (0) := (hA9.1 1 0 (by omega) (by omega) (by omega)).2.1
      have hc9 : (300 : Int32) ≤ nI k := by rw [show k = 300 by omega]; exact Int32.le_refl _
      have hA3 : arI 300 Z S Zk T := (show k = 300 by omega) ▸ hA9
      refine W.widen (k := 603) (n := 3912) (by omega) (by omega) ?_
      refine lv_iload_n hM.1 hM.2.1 dX1_init_27 rfl (lv_at hl 0 rfl) ?_
      refine lv_aload_n hM.1 hM.2.1 dX1_init_28 rfl (lv_at hl 1 rfl) ?_
      refine z_getr hM hW zc1 hdK haK 0 (by decide) lf_X1_11 (t := 15) (j := 0) rfl hA9.2.2.1.2.2.1 dX1_init_29 (fun hd1_29 => ?_)
      refine z_alen hM hW hd1_29 (by decide) rfl 6 rfl (v := 300) (by rw [hA9.2.2.1.2.1]; rfl) dX1_init_32 ?_
      refine lv_icmp_ge hM.1 hM.2.1 dX1_init_33 (tgt := 55) (by decide) (fun _ => ?_) (fun h => absurd hc9 h)
      exact z_vret hM hlk hr hW hS hA3 dX1_init_55
    | succ f ih =>
      intro k Zk T ls H locs hk hA9 hl hW hS
      have hdK : Zk.2.1 1 0 := ((hA9.1 1 0 (by omega) (by omega) (by omega)).1).mpr hi
      have haK : Zk.1 1 (0) = Z.1 1 (0) := (hA9.1 1 0 (by omega) (by omega) (by omega)).2.1
      have hc9 : ¬ (300 : Int32) ≤ nI k := nI_ge (a := k) (b := 300) (by omega) (by omega)
      refine lv_iload_n hM.1 hM.2.1 dX1_init_27 rfl (lv_at hl 0 rfl) ?_
      refine lv_aload_n hM.1 hM.2.1 dX1_init_28 rfl (lv_at hl 1 rfl) ?_
      refine z_getr hM hW zc1 hdK haK 0 (by decide) lf_X1_11 (t := 15) (j := 0) rfl hA9.2.2.1.2.2.1 dX1_init_29 (fun hd2_29 => ?_)
      refine z_alen hM hW hd2_29 (by decide) rfl 6 rfl (v := 300) (by rw [hA9.2.2.1.2.1]; rfl) dX1_init_32 ?_
      refine lv_icmp_ge hM.1 hM.2.1 dX1_init_33 (tgt := 55) (by decide) (fun h => absurd h hc9) (fun _ => ?_)
      refine lv_aload_n hM.1 hM.2.1 dX1_init_36 rfl (lv_at hl 1 rfl) ?_
      refine z_getr hM hW zc1 hdK haK 0 (by decide) lf_X1_11 (t := 15) (j := 0) rfl hA9.2.2.1.2.2.1 dX1_init_37 (fun hd3_37 => ?_)
      refine lv_iload_n hM.1 hM.2.1 dX1_init_40 rfl (lv_at hl 0 rfl) ?_
      refine z_new hM hW hS hlo zc4 (k) (fun q => hfm k (by omega) (((hA9.1 4 k (by omega) (by omega) (by omega)).1).mp q)) lk_X1_9 lt_X4 lz_X4 (by show 3 + 2 * k + 1 ≤ 603; omega) (by show 312 + 12 * k + 9 ≤ 3912; omega) dX1_init_41 (fun Z2 H hx1 hW hS => ?_)
      have dm1_0 : Z2.2.1 1 (0) := (hx1.2.1 _ _).mpr (Or.inl hdK)
      have ha1_0 : Z2.1 1 (0) = Z.1 1 (0) := (hx1.1 _ _ ((by omega))).1.trans haK
      have dm1_1 : Z2.2.1 15 (0) := (hx1.2.1 _ _).mpr (Or.inl hd3_37)
      have ha1_1 : Z2.1 15 (0) = Zk.1 15 (0) := (hx1.1 _ _ ((by omega))).1.trans rfl
      have hdm : Z2.2.1 4 (k) := (hx1.2.1 _ _).mpr (Or.inr ⟨rfl, rfl⟩)
      refine lv_dup hM.1 hM.2.1 dX1_init_44 rfl ?_
      refine z_callN hM (hml.trans hl.1.symm) hW hS hlo zyX4_init rfl (host := RX7) hM.2.2.2.2.2.2.2.2.2.1 li_yX4_init (a := Z2.1 4 (k)) (As := []) (rest := [.ref (Z2.1 4 (k)), .int (nI k), .ref (Zk.1 15 (0))]) (c_X4_init (j := k) hdm (fun q => ((hx1.2.1 _ _).mp q).elim (fun q => hfv k (by omega) (((hA9.1 6 (20 + k) (by omega) (by omega) (by omega)).1).mp q)) (by omega))) rfl rfl (Nat.le_of_ble_eq_true rfl) ⟨Nat.le_of_ble_eq_true rfl, Nat.le_of_ble_eq_true rfl⟩ ⟨by show 3 + 2 * k + 1 + 1 ≤ 603; omega, by show 312 + 12 * k + 9 + 3 ≤ 3912; omega⟩ dX1_init_45 (fun r9 Z3 S9 H locs hp hW hS => ?_)
      obtain ⟨e2, hx2⟩ := hp
      subst e2
      refine W.eq (g2 := F0 mX 48 ls [.ref (Z2.1 4 (k)), .int (nI k), .ref (Zk.1 15 (0))]) rfl ?_
      have dm2_0 : Z3.2.1 1 (0) := (hx2.2.1 _ _).mpr (Or.inl dm1_0)
      have ha2_0 : Z3.1 1 (0) = Z.1 1 (0) := (hx2.1 _ _ ((by omega))).1.trans ha1_0
      have dm2_1 : Z3.2.1 4 (k) := (hx2.2.1 _ _).mpr (Or.inl hdm)
      have ha2_1 : Z3.1 4 (k) = Z2.1 4 (k) := (hx2.1 _ _ ((by omega))).1.trans rfl
      have dm2_2 : Z3.2.1 15 (0) := (hx2.2.1 _ _).mpr (Or.inl dm1_1)
      have ha2_2 : Z3.1 15 (0) = Zk.1 15 (0) := (hx2.1 _ _ ((by omega))).1.trans ha1_1
      refine z_aast hM hW hS dm2_2 (by decide) ha2_2 6 rfl (t := 4) (q := k) (fun _ => rfl) zc4 dm2_1 ha2_1 (by rw [(hx2.1 15 0 (by omega)).2, (hx1.1 15 0 (by omega)).2, hA9.2.2.1.2.1]; exact nI_in (by omega) (by decide)) dX1_init_48 (fun H locs hW hS => ?_)
      refine lv_iinc hM.1 hM.2.1 dX1_init_49 hl (k := 0) rfl (v := nI (k + 1)) (nI_succ _).symm (by decide) (lv' := [(1, .int (nI (k + 1))), (0, .ref (Z.1 1 (0)))]) rfl (fun ls hl => ?_)
      refine lv_goto hM.1 hM.2.1 dX1_init_52 (tgt := 27) (by decide) ?_
      exact ih (k + 1) Z3 _ ls H locs (by omega) (hA9.step (by omega) hx1 hx2) (lv_sub hl [0, 1] rfl) hW hS
  refine lv_aload_n hM.1 hM.2.1 dX1_init_0 rfl (lv_at hl 0 rfl) ?_
  refine W.objInit hM.1 hM.2.1 hM.2.2.1 (hM.2.2.2.1 _ lm_X1_3) (hM.2.2.2.1 _ li_objectInit) (hM.2.2.2.1 _ lc_objectInit) rfl (hl.1.trans hml.symm) rfl dX1_init_1 (Nat.le_of_ble_eq_true rfl) (Nat.le_of_ble_eq_true rfl) ?_
  refine lv_aload_n hM.1 hM.2.1 dX1_init_4 rfl (lv_at hl 0 rfl) ?_
  refine lv_sipush (v := 300) hM.1 hM.2.1 dX1_init_5 (by decide) ?_
  refine z_newq hM hW hS hlo (k := 15) 0 (by decide) hfa 6 rfl lk_X1_9 hM.2.2.2.2.2.2.2.2.2.2.2.2.2.2.1 (fun _ => rfl) (x := 300) (n := 300) (by decide) rfl (by decide) (Nat.le_of_ble_eq_true rfl) (Nat.le_of_ble_eq_true rfl) dX1_init_8 (fun Z1 H hx0 hW hS => ?_)
  have dm0_0 : Z1.2.1 1 (0) := (hx0.2.1 _ _).mpr (Or.inl hi)
  have ha0_0 : Z1.1 1 (0) = Z.1 1 (0) := (hx0.1 _ _ ((by omega))).1.trans rfl
  have hdr : Z1.2.1 15 0 := (hx0.2.1 _ _).mpr (Or.inr ⟨rfl, rfl⟩)
  refine z_putr hM hW hS zc1 dm0_0 ha0_0 0 (by decide) (t := 15) (j := 0) rfl hdr lf_X1_11 (Or.inr ⟨hin, rfl⟩) (tyX1 0) (tyX1_ok 0 (by decide)) (fun _ => rfl) (fun _ => rfl) dX1_init_11 (fun H locs hW hS => ?_)
  refine lv_aload_n hM.1 hM.2.1 dX1_init_14 rfl (lv_at hl 0 rfl) ?_
  refine z_new hM hW hS hlo zc4 (300) (fun q => ((hx0.2.1 _ _).mp q).elim (hfm 300 (by omega)) (by omega)) lk_X1_9 lt_X4 lz_X4 (Nat.le_of_ble_eq_true rfl) (Nat.le_of_ble_eq_true rfl) dX1_init_15 (fun Z2 H hx1 hW hS => ?_)
  have dm1_0 : Z2.2.1 1 (0) := (hx1.2.1 _ _).mpr (Or.inl dm0_0)
  have ha1_0 : Z2.1 1 (0) = Z.1 1 (0) := (hx1.1 _ _ ((by omega))).1.trans ha0_0
  have hdm : Z2.2.1 4 (300) := (hx1.2.1 _ _).mpr (Or.inr ⟨rfl, rfl⟩)
  refine lv_dup hM.1 hM.2.1 dX1_init_18 rfl ?_
  refine z_callN hM (hml.trans hl.1.symm) hW hS hlo zyX4_init rfl (host := RX7) hM.2.2.2.2.2.2.2.2.2.1 li_yX4_init (a := Z2.1 4 (300)) (As := []) (rest := [.ref (Z2.1 4 (300)), .ref (Z.1 1 (0))]) (c_X4_init (j := 300) hdm (fun q => ((hx1.2.1 _ _).mp q).elim (fun q => ((hx0.2.1 _ _).mp q).elim (hfv 300 (by omega)) (by omega)) (by omega))) rfl rfl (Nat.le_of_ble_eq_true rfl) ⟨Nat.le_of_ble_eq_true rfl, Nat.le_of_ble_eq_true rfl⟩ ⟨Nat.le_of_ble_eq_true rfl, Nat.le_of_ble_eq_true rfl⟩ dX1_init_19 (fun r9 Z3 S9 H locs hp hW hS => ?_)
  obtain ⟨e2, hx2⟩ := hp
  subst e2
  refine W.eq (g2 := F0 mX 22 ls [.ref (Z2.1 4 (300)), .ref (Z.1 1 (0))]) rfl ?_
  have dm2_0 : Z3.2.1 1 (0) := (hx2.2.1 _ _).mpr (Or.inl dm1_0)
  have ha2_0 : Z3.1 1 (0) = Z.1 1 (0) := (hx2.1 _ _ ((by omega))).1.trans ha1_0
  have dm2_1 : Z3.2.1 4 (300) := (hx2.2.1 _ _).mpr (Or.inl hdm)
  have ha2_1 : Z3.1 4 (300) = Z2.1 4 (300) := (hx2.1 _ _ ((by omega))).1.trans rfl
  have ea_22 : Z3.1 4 (300) = Z2.1 4 (300) := ha2_1
  rw [← ea_22]
  refine z_putr hM hW hS zc1 dm2_0 ha2_0 1 (by decide) (t := 4) (j := 300) rfl dm2_1 lf_X1_18 (Or.inl rfl) (tyX1 1) (tyX1_ok 1 (by decide)) (fun _ => rfl) (fun _ => rfl) dX1_init_22 (fun H locs hW hS => ?_)
  refine lv_iconst (v := 0) hM.1 hM.2.1 dX1_init_25 (by decide) ?_
  refine lv_istore_n hM.1 hM.2.1 dX1_init_26 rfl hl (by decide) (lv' := [(1, .int (0)), (0, .ref (Z.1 1 (0)))]) rfl (fun ls hl => ?_)
  exact loop 300 0 Z3 _ ls _ _ (by omega) (arI0 hx0 hx1 hx2) (lv_sub hl [0, 1] rfl) hW hS
