theorem clamp_eq (x : Int32) : (if (1 : Int32) < (if (7 : Int32) < x then 7 else x) then (if (7 : Int32) < x then 7 else x) else 1) = nI (clampN x) ∧ 1 ≤ clampN x ∧ clampN x ≤ 7 := by
  unfold clampN
  by_cases h1 : 1 ≤ x
  · rw [pif_pos h1]
    by_cases h7 : x ≤ 7
    · rw [pif_pos h7, if_neg (Int32.not_lt.mpr h7)]
      refine ⟨?_, cl1 h1, cl7 h1 h7⟩
      rw [nI_ix (cl0 h1)]
      by_cases h2 : 1 < x
      · rw [if_pos h2]
      · rw [if_neg h2]; exact Int32.le_antisymm h1 (Int32.not_lt.mp h2)
    · rw [pif_neg h7, if_pos (Int32.not_le.mp h7)]
      exact ⟨by decide, by decide, by decide⟩
  · rw [pif_neg h1]
    refine ⟨?_, by decide, by decide⟩
    have hx : x < 1 := Int32.not_le.mp h1
    have h7 : ¬ (7 : Int32) < x := fun q => absurd (Int32.lt_trans q hx) (by decide)
    rw [if_neg h7, if_neg (fun q => h1 (Int32.le_of_lt q))]
    rfl
set_option maxHeartbeats 400000 in
set_option maxRecDepth 100000 in
theorem c_X7_init {l : Launch} {D : va_G} {ar : Nat → ClassId} {A : Nat → Prop} {Z : zZ} {S : zS} {x : Int32} {n : Nat} (hn : n = clampN x) (hd : ∀ K I, Z.2.1 K I ↔ K = 7 ∧ I = 0) (hz : zr S) : zMet l yX7_init prog_1_method_1_code 4 none ({ frames := 4, cells := 633, slots := 4264, locals := 73 } : Room) D ar A Z S [.ref (Z.1 7 (0)), .int (x)] rvV (fun _ Z' S' => vfP n Z' S' ∧ Z'.1 7 0 = Z.1 7 0) := by
  refine z_body (by decide +kernel) (Nat.le_of_ble_eq_true rfl) ?_
  intro pX eX sX mX bX methX cX ls hM hr hlk hml hin hl hW hlo
  have hM : zM pX cX mX _ sX prog_1_method_1_code RX7 D ar := hM
  have hS : va_S A sX.heap sX.heap [] := va_S.rf
  have hl : lv_has ls 4 [(0, .ref (Z.1 7 (0))), (1, .int (x))] := hl
  have hnx := (clamp_eq x).1
  have hn17 : 1 ≤ n ∧ n ≤ 7 := by rw [hn]; exact (clamp_eq x).2
  rw [← hn] at hnx
  have tail : ∀ (Zk : zZ) (T : zS) (ls : Array Slot) (H : Heap) (locs : List Loc), vf2 n 4 Z Zk T → lv_has ls 4 [(2, .int (nI n)), (0, .ref (Z.1 7 (0))), (1, .int (x))] → zW D ar A Zk T H → va_S A sX.heap H locs → W pX l eX ({ frames := 4, cells := 633, slots := 4264, locals := 73 } : Room) sX mX ([.ref (Z.1 7 (0)), .int (x)] : List Value).toArray bX methX cX H locs (25) (122) (MQ bX (zQ D ar A rvV (fun _ Z' S' => vfP n Z' S' ∧ Z'.1 7 0 = Z.1 7 0)) ([.ref (Z.1 7 (0)), .int (x)] : List Value).toArray sX 633 4264 A) (F0 mX 98 ls []) := by
    intro Zk T ls H locs hV2 hl hW hS
    obtain ⟨h1, ⟨haK, l1, l2, l3⟩, h5, h6, h7⟩ := id hV2
    have hdK : Zk.2.1 7 0 := by rw [h1]; unfold vfD2 vfD1; omega
    refine lv_aload_n hM.1 hM.2.1 dX7_init_98 rfl (lv_at hl 1 rfl) ?_
    refine lv_bipush (v := 16) hM.1 hM.2.1 dX7_init_99 (by decide) ?_
    refine z_newq hM hW hS hlo (k := 16) 0 (by decide) (fun q => by rw [h1] at q; unfold vfD2 vfD1 at q; omega) 7 rfl lk_X7_38 hM.2.2.2.2.2.2.2.2.2.2.2.2.2.2.2 (fun _ => rfl) (x := 16) (n := 16) (by decide) rfl (by decide) (by show 25 + 1 ≤ 633; omega) (by show 122 + 16 ≤ 4264; omega) dX7_init_101 (fun Za H xa hW hS => ?_)
    have dma101_0 : Za.2.1 7 (0) := (xa.2.1 _ _).mpr (Or.inl hdK)
    have haa101_0 : Za.1 7 (0) = Z.1 7 (0) := (xa.1 _ _ ((by omega))).1.trans haK
    have hn101 : Za.2.1 16 0 := (xa.2.1 _ _).mpr (Or.inr ⟨rfl, rfl⟩)
    refine z_putr hM hW hS zc7 dma101_0 haa101_0 2 (by decide) (t := 16) (j := 0) rfl hn101 lf_X7_40 (Or.inr ⟨hin, rfl⟩) (tyX7 2) (tyX7_ok 2 (by decide)) (fun _ => rfl) (fun _ => rfl) dX7_init_104 (fun H locs hW hS => ?_)
    refine lv_aload_n hM.1 hM.2.1 dX7_init_107 rfl (lv_at hl 1 rfl) ?_
    refine z_getr hM hW zc7 dma101_0 haa101_0 2 (by decide) lf_X7_40 (t := 16) (j := 0) rfl (by rw [gr_sr, if_pos ⟨rfl, rfl, rfl⟩]) dX7_init_108 (fun hd1_108 => ?_)
    refine lv_iconst (v := 0) hM.1 hM.2.1 dX7_init_111 (by decide) ?_
    refine z_new hM hW hS hlo zc5 (0) (fun q => by rw [xa.2.1, h1] at q; unfold vfD2 vfD1 at q; omega) lk_X7_38 lt_X5 lz_X5 (by show 25 + 1 + 1 ≤ 633; omega) (by show 122 + 16 + 3 ≤ 4264; omega) dX7_init_112 (fun Zb H xb hW hS => ?_)
    have dmn112_0 : Zb.2.1 7 (0) := (xb.2.1 _ _).mpr (Or.inl dma101_0)
    have han112_0 : Zb.1 7 (0) = Z.1 7 (0) := (xb.1 _ _ ((by omega))).1.trans haa101_0
    have dmn112_1 : Zb.2.1 16 (0) := (xb.2.1 _ _).mpr (Or.inl hd1_108)
    have han112_1 : Zb.1 16 (0) = Za.1 16 (0) := (xb.1 _ _ ((by omega))).1.trans rfl
    have hn112 : Zb.2.1 5 (0) := (xb.2.1 _ _).mpr (Or.inr ⟨rfl, rfl⟩)
    refine lv_dup hM.1 hM.2.1 dX7_init_115 rfl ?_
    refine lv_aload_n hM.1 hM.2.1 dX7_init_116 rfl (lv_at hl 1 rfl) ?_
    refine z_getr hM hW zc7 dmn112_0 han112_0 5 (by decide) lf_X7_24 (t := 9) (j := 0) rfl (by rw [gr_sz, if_neg (by omega), gr_sr, if_neg (by omega), gr_sz, if_neg (by omega), h7, if_pos (by omega)]) dX7_init_117 (fun hd2_117 => ?_)
    have hz9 : Zb.2.2 9 0 = n := ((xb.1 _ _ (by omega)).2).trans (((xa.1 _ _ (by omega)).2).trans l2)
    refine z_clone hM (hml.trans hl.1.symm) hW hS hlo hd2_117 rfl 1 (fun q => by rw [xb.2.1, xa.2.1, h1] at q; unfold vfD2 vfD1 at q; omega) lm_X7_44 (Nat.le_of_ble_eq_true rfl) (Nat.le_of_ble_eq_true rfl) (by show 25 + 1 + 1 + 1 ≤ 633; omega) (by show 122 + 16 + 3 + Zb.2.2 9 0 ≤ 4264; rw [hz9]; omega) dX7_init_120 (fun Zc H xc hW hS => ?_)
    refine W.widen (k := 28) (n := 148) (by show 25 + 1 + 1 + 1 ≤ 28; omega) (by show 122 + 16 + 3 + Zb.2.2 9 0 ≤ 148; rw [hz9]; omega) ?_
    rw [hz9] at xc
    have dmc_0 : Zc.2.1 7 (0) := (xc.2.1 _ _).mpr (Or.inl dmn112_0)
    have hac_0 : Zc.1 7 (0) = Z.1 7 (0) := (xc.1 _ _ ((by omega))).1.trans han112_0
    have dmc_1 : Zc.2.1 5 (0) := (xc.2.1 _ _).mpr (Or.inl hn112)
    have hac_1 : Zc.1 5 (0) = Zb.1 5 (0) := (xc.1 _ _ ((by omega))).1.trans rfl
    have dmc_2 : Zc.2.1 16 (0) := (xc.2.1 _ _).mpr (Or.inl dmn112_1)
    have hac_2 : Zc.1 16 (0) = Za.1 16 (0) := (xc.1 _ _ ((by omega))).1.trans han112_1
    have hdq : Zc.2.1 9 1 := (xc.2.1 _ _).mpr (Or.inr ⟨rfl, rfl⟩)
    refine z_cast hM hW hdq rfl lk_X7_45 dX7_init_123 ?_
    refine lv_iload_n hM.1 hM.2.1 dX7_init_126 rfl (lv_at hl 0 rfl) ?_
    refine lv_iconst (v := 2) hM.1 hM.2.1 dX7_init_127 (by decide) ?_
    refine lv_idiv hM.1 hM.2.1 dX7_init_128 (by decide) ?_
    refine lv_iconst (v := 1) hM.1 hM.2.1 dX7_init_129 (by decide) ?_
    refine lv_iadd hM.1 hM.2.1 dX7_init_130 ?_
    refine lv_iload_n hM.1 hM.2.1 dX7_init_131 rfl (lv_at hl 0 rfl) ?_
    refine lv_iconst (v := 2) hM.1 hM.2.1 dX7_init_132 (by decide) ?_
    refine lv_idiv hM.1 hM.2.1 dX7_init_133 (by decide) ?_
    refine lv_iconst (v := 1) hM.1 hM.2.1 dX7_init_134 (by decide) ?_
    refine lv_iadd hM.1 hM.2.1 dX7_init_135 ?_
    refine z_IFv hM (hml.trans hl.1.symm) hW hS hlo zyX5_init rfl lm_X7_49 li_yX5_init (a := Zc.1 5 0) (As := [.ref (Zc.1 9 (1)), .int (((nI n) / (2)) + (1)), .int (((nI n) / (2)) + (1))]) (rest := [.ref (Zb.1 5 (0)), .int (0), .ref (Za.1 16 (0))]) (c_X5_init dmc_1 hdq) rfl (by rw [hac_1]; rfl) (Nat.le_of_ble_eq_true rfl) ⟨Nat.le_of_ble_eq_true rfl, Nat.le_of_ble_eq_true rfl⟩ ⟨Nat.le_of_ble_eq_true rfl, Nat.le_of_ble_eq_true rfl⟩ dX7_init_136 (fun H locs hW hS => ?_)
    refine z_aast hM hW hS dmc_2 (by decide) hac_2 7 rfl (t := 5) (q := 0) (fun _ => rfl) zc5 dmc_1 hac_1 (by rw [(xc.1 16 0 (by omega)).2, (xb.1 16 0 (by omega)).2, xa.2.2]; exact nI_in (c := 0) (N := 16) (by omega) (by decide)) dX7_init_139 (fun H locs hW hS => ?_)
    refine lv_aload_n hM.1 hM.2.1 dX7_init_140 rfl (lv_at hl 1 rfl) ?_
    refine lv_iconst (v := 1) hM.1 hM.2.1 dX7_init_141 (by decide) ?_
    refine z_puti hM hW hS zc7 dmc_0 hac_0 6 (by decide) rfl lf_X7_52 (Or.inl rfl) (tyX7 6) (tyX7_ok 6 (by decide)) rfl rfl dX7_init_142 (fun H locs hW hS => ?_)
    refine lv_aload_n hM.1 hM.2.1 dX7_init_145 rfl (lv_at hl 1 rfl) ?_
    refine lv_sipush (v := 200) hM.1 hM.2.1 dX7_init_146 (by decide) ?_
    refine z_newq hM hW hS hlo (k := 12) 0 (by decide) (fun q => by rw [xc.2.1, xb.2.1, xa.2.1, h1] at q; unfold vfD2 vfD1 at q; omega) 3 rfl lk_X7_56 hM.2.2.2.2.2.2.2.2.2.2.2.1 (fun _ => rfl) (x := 200) (n := 200) (by decide) rfl (by decide) (by show 28 + 1 ≤ 633; omega) (by show 148 + 200 ≤ 4264; omega) dX7_init_149 (fun Zd H xd hW hS => ?_)
    have dma149_0 : Zd.2.1 7 (0) := (xd.2.1 _ _).mpr (Or.inl dmc_0)
    have haa149_0 : Zd.1 7 (0) = Z.1 7 (0) := (xd.1 _ _ ((by omega))).1.trans hac_0
    have hn149 : Zd.2.1 12 0 := (xd.2.1 _ _).mpr (Or.inr ⟨rfl, rfl⟩)
    refine z_putr hM hW hS zc7 dma149_0 haa149_0 3 (by decide) (t := 12) (j := 0) rfl hn149 lf_X7_58 (Or.inr ⟨hin, rfl⟩) (tyX7 3) (tyX7_ok 3 (by decide)) (fun _ => rfl) (fun _ => rfl) dX7_init_152 (fun H locs hW hS => ?_)
    refine lv_aload_n hM.1 hM.2.1 dX7_init_155 rfl (lv_at hl 1 rfl) ?_
    refine z_new hM hW hS hlo zc1 (0) (fun q => by rw [xd.2.1, xc.2.1, xb.2.1, xa.2.1, h1] at q; unfold vfD2 vfD1 at q; omega) lk_X7_62 lt_X1 lz_X1 (by show 28 + 1 + 1 ≤ 633; omega) (by show 148 + 200 + 4 ≤ 4264; omega) dX7_init_156 (fun Ze H xe hW hS => ?_)
    have dmn156_0 : Ze.2.1 7 (0) := (xe.2.1 _ _).mpr (Or.inl dma149_0)
    have han156_0 : Ze.1 7 (0) = Z.1 7 (0) := (xe.1 _ _ ((by omega))).1.trans haa149_0
    have hn156 : Ze.2.1 1 (0) := (xe.2.1 _ _).mpr (Or.inr ⟨rfl, rfl⟩)
    refine lv_dup hM.1 hM.2.1 dX7_init_159 rfl ?_
    have hfe : ∀ K I, (K = 15 ∧ I = 0) ∨ K = 4 ∨ (K = 6 ∧ 20 ≤ I) → ¬ Ze.2.1 K I := fun K I r q => by rw [xe.2.1, xd.2.1, xc.2.1, xb.2.1, xa.2.1, h1] at q; unfold vfD2 vfD1 at q; omega
    refine z_callI hM (hml.trans hl.1.symm) hW hS hlo zyX1_init rfl lm_X7_64 li_yX1_init (a := Ze.1 1 (0)) (As := []) (rest := [.ref (Ze.1 1 (0)), .ref (Z.1 7 (0))]) (c_X1_init hn156 (hfe _ _ (by omega)) (fun j _ => hfe _ _ (by omega)) (fun j _ => hfe _ _ (by omega))) rfl rfl (Nat.le_of_ble_eq_true rfl) ⟨Nat.le_of_ble_eq_true rfl, Nat.le_of_ble_eq_true rfl⟩ ⟨by show 28 + 1 + 1 + 603 ≤ 633; omega, by show 148 + 200 + 4 + 3912 ≤ 4264; omega⟩ dX7_init_160 (fun r9 Zf V H locs har hW hS => ?_)
    refine W.eq (g2 := F0 mX 163 ls [.ref (Ze.1 1 (0)), .ref (Z.1 7 (0))]) rfl ?_
    have dmf_0 : Zf.2.1 7 (0) := ((har.1 7 (0) (by omega) (by omega) (by omega)).1).mpr dmn156_0
    have haf_0 : Zf.1 7 (0) = Z.1 7 (0) := ((har.1 7 (0) (by omega) (by omega) (by omega)).2.1).trans han156_0
    have dmf_1 : Zf.2.1 1 (0) := ((har.1 1 (0) (by omega) (by omega) (by omega)).1).mpr hn156
    have haf_1 : Zf.1 1 (0) = Ze.1 1 (0) := ((har.1 1 (0) (by omega) (by omega) (by omega)).2.1).trans rfl
    have ea_163 : Zf.1 1 (0) = Ze.1 1 (0) := haf_1
    rw [← ea_163]
    refine z_putr hM hW hS zc7 dmf_0 haf_0 4 (by decide) (t := 1) (j := 0) rfl dmf_1 lf_X7_65 (Or.inr ⟨hin, rfl⟩) (tyX7 4) (tyX7_ok 4 (by decide)) (fun _ => rfl) (fun _ => rfl) dX7_init_163 (fun H locs hW hS => ?_)
    exact z_vret hM hlk hr hW hS (vf_end hV2 (by omega) xa xb xc xd xe har) dX7_init_166
  have loop2 : ∀ (f m : Nat) (Zk : zZ) (T : zS) (ls : Array Slot) (H : Heap) (locs : List Loc), m + f = 4 → vf2 n m Z Zk T → lv_has ls 4 [(3, .int (nI m)), (2, .int (nI n)), (0, .ref (Z.1 7 (0))), (1, .int (x))] → zW D ar A Zk T H → va_S A sX.heap H locs → W pX l eX ({ frames := 4, cells := 633, slots := 4264, locals := 73 } : Room) sX mX ([.ref (Z.1 7 (0)), .int (x)] : List Value).toArray bX methX cX H locs (17 + 2 * m) (74 + 12 * m) (MQ bX (zQ D ar A rvV (fun _ Z' S' => vfP n Z' S' ∧ Z'.1 7 0 = Z.1 7 0)) ([.ref (Z.1 7 (0)), .int (x)] : List Value).toArray sX 633 4264 A) (F0 mX 73 ls []) := by
    intro f
    induction f with
    | zero =>
      intro m Zk T ls H locs hm hV2 hl hW hS
      obtain ⟨h1, ⟨haK, l1, l2, l3⟩, h5, h6, h7⟩ := id hV2
      have hdK : Zk.2.1 7 0 := by rw [h1]; unfold vfD2 vfD1; omega
      have hc9 : (4 : Int32) ≤ nI m := by rw [show m = 4 by omega]; exact Int32.le_refl _
      have hV4 : vf2 n 4 Z Zk T := (show m = 4 by omega) ▸ hV2
      refine W.widen (k := 25) (n := 122) (by omega) (by omega) ?_
      refine lv_iload_n hM.1 hM.2.1 dX7_init_73 rfl (lv_at hl 0 rfl) ?_
      refine lv_iconst (v := 4) hM.1 hM.2.1 dX7_init_74 (by decide) ?_
      refine lv_icmp_ge hM.1 hM.2.1 dX7_init_75 (tgt := 98) (by decide) (fun _ => ?_) (fun h => absurd hc9 h)
      exact tail Zk T ls _ _ hV4 (lv_sub hl [1, 2, 3] rfl) hW hS
    | succ f ih =>
      intro m Zk T ls H locs hm hV2 hl hW hS
      obtain ⟨h1, ⟨haK, l1, l2, l3⟩, h5, h6, h7⟩ := id hV2
      have hdK : Zk.2.1 7 0 := by rw [h1]; unfold vfD2 vfD1; omega
      have hc9 : ¬ (4 : Int32) ≤ nI m := nI_ge (a := m) (b := 4) (by omega) (by omega)
      refine lv_iload_n hM.1 hM.2.1 dX7_init_73 rfl (lv_at hl 0 rfl) ?_
      refine lv_iconst (v := 4) hM.1 hM.2.1 dX7_init_74 (by decide) ?_
      refine lv_icmp_ge hM.1 hM.2.1 dX7_init_75 (tgt := 98) (by decide) (fun h => absurd h hc9) (fun _ => ?_)
      refine lv_aload_n hM.1 hM.2.1 dX7_init_78 rfl (lv_at hl 2 rfl) ?_
      refine z_getr hM hW zc7 hdK haK 1 (by decide) lf_X7_31 (t := 13) (j := 0) rfl (by rw [h7, if_pos (by omega)]) dX7_init_79 (fun hd3_79 => ?_)
      refine lv_iload_n hM.1 hM.2.1 dX7_init_82 rfl (lv_at hl 0 rfl) ?_
      refine z_new hM hW hS hlo zc2 (m) (fun q => by rw [h1] at q; unfold vfD2 vfD1 at q; omega) lk_X7_29 lt_X2 lz_X2 (by show 17 + 2 * m + 1 ≤ 633; omega) (by show 74 + 12 * m + 9 ≤ 4264; omega) dX7_init_83 (fun Z1 H hx1 hW hS => ?_)
      have dmn83_0 : Z1.2.1 7 (0) := (hx1.2.1 _ _).mpr (Or.inl hdK)
      have han83_0 : Z1.1 7 (0) = Z.1 7 (0) := (hx1.1 _ _ ((by omega))).1.trans haK
      have dmn83_1 : Z1.2.1 13 (0) := (hx1.2.1 _ _).mpr (Or.inl hd3_79)
      have han83_1 : Z1.1 13 (0) = Zk.1 13 (0) := (hx1.1 _ _ ((by omega))).1.trans rfl
      have hn83 : Z1.2.1 2 (m) := (hx1.2.1 _ _).mpr (Or.inr ⟨rfl, rfl⟩)
      refine lv_dup hM.1 hM.2.1 dX7_init_86 rfl ?_
      refine lv_iload_n hM.1 hM.2.1 dX7_init_87 rfl (lv_at hl 0 rfl) ?_
      refine z_callI hM (hml.trans hl.1.symm) hW hS hlo zyX2_init rfl lm_X7_35 li_yX2_init (a := Z1.1 2 (m)) (As := [.int (nI m)]) (rest := [.ref (Z1.1 2 (m)), .int (nI m), .ref (Zk.1 13 (0))]) (c_X2_init (c := m) (x := nI m) hn83 (fun q => by rw [hx1.2.1, h1] at q; unfold vfD2 vfD1 at q; omega)) rfl rfl (Nat.le_of_ble_eq_true rfl) ⟨Nat.le_of_ble_eq_true rfl, Nat.le_of_ble_eq_true rfl⟩ ⟨by show 17 + 2 * m + 1 + 1 ≤ 633; omega, by show 74 + 12 * m + 9 + 3 ≤ 4264; omega⟩ dX7_init_88 (fun r9 Z2 S9 H locs hp hW hS => ?_)
      obtain ⟨e2, hx2⟩ := hp
      subst e2
      refine W.eq (g2 := F0 mX 91 ls [.ref (Z1.1 2 (m)), .int (nI m), .ref (Zk.1 13 (0))]) rfl ?_
      have dmd_0 : Z2.2.1 7 (0) := (hx2.2.1 _ _).mpr (Or.inl dmn83_0)
      have had_0 : Z2.1 7 (0) = Z.1 7 (0) := (hx2.1 _ _ ((by omega))).1.trans han83_0
      have dmd_1 : Z2.2.1 2 (m) := (hx2.2.1 _ _).mpr (Or.inl hn83)
      have had_1 : Z2.1 2 (m) = Z1.1 2 (m) := (hx2.1 _ _ ((by omega))).1.trans rfl
      have dmd_2 : Z2.2.1 13 (0) := (hx2.2.1 _ _).mpr (Or.inl dmn83_1)
      have had_2 : Z2.1 13 (0) = Zk.1 13 (0) := (hx2.1 _ _ ((by omega))).1.trans han83_1
      refine z_aast hM hW hS dmd_2 (by decide) had_2 4 rfl (t := 2) (q := m) (fun _ => rfl) zc2 dmd_1 had_1 (by rw [(hx2.1 13 0 (by omega)).2, (hx1.1 13 0 (by omega)).2, l3]; exact nI_in (by omega) (by decide)) dX7_init_91 (fun H locs hW hS => ?_)
      refine lv_iinc hM.1 hM.2.1 dX7_init_92 hl (k := 0) rfl (v := nI (m + 1)) (nI_succ _).symm (by decide) (lv' := [(3, .int (nI (m + 1))), (2, .int (nI n)), (0, .ref (Z.1 7 (0))), (1, .int (x))]) rfl (fun ls hl => ?_)
      refine lv_goto hM.1 hM.2.1 dX7_init_95 (tgt := 73) (by decide) ?_
      exact ih (m + 1) Z2 _ ls H locs (by omega) (vf2_s hV2 (by omega) (by omega) hx1 hx2) (lv_sub hl [0, 1, 2, 3] rfl) hW hS
  have loop1 : ∀ (f k : Nat) (Zk : zZ) (T : zS) (ls : Array Slot) (H : Heap) (locs : List Loc), k + f = n → vf1 n k Z Zk T → lv_has ls 4 [(3, .int (nI k)), (2, .int (nI n)), (0, .ref (Z.1 7 (0))), (1, .int (x))] → zW D ar A Zk T H → va_S A sX.heap H locs → W pX l eX ({ frames := 4, cells := 633, slots := 4264, locals := 73 } : Room) sX mX ([.ref (Z.1 7 (0)), .int (x)] : List Value).toArray bX methX cX H locs (2 + 2 * k) (14 + 8 * k) (MQ bX (zQ D ar A rvV (fun _ Z' S' => vfP n Z' S' ∧ Z'.1 7 0 = Z.1 7 0)) ([.ref (Z.1 7 (0)), .int (x)] : List Value).toArray sX 633 4264 A) (F0 mX 32 ls []) := by
    intro f
    induction f with
    | zero =>
      intro k Zk T ls H locs hk hV1 hl hW hS
      obtain ⟨h1, ⟨haK, l1, l2⟩, h5, h6, h7⟩ := id hV1
      have hdK : Zk.2.1 7 0 := by rw [h1]; unfold vfD1; omega
      have hc9 : nI n ≤ nI k := by rw [show k = n by omega]; exact Int32.le_refl _
      have hVn : vf1 n n Z Zk T := (show k = n by omega) ▸ hV1
      refine W.widen (k := 16) (n := 70) (by omega) (by omega) ?_
      refine lv_iload_n hM.1 hM.2.1 dX7_init_32 rfl (lv_at hl 0 rfl) ?_
      refine lv_iload_n hM.1 hM.2.1 dX7_init_33 rfl (lv_at hl 1 rfl) ?_
      refine lv_icmp_ge hM.1 hM.2.1 dX7_init_34 (tgt := 63) (by decide) (fun _ => ?_) (fun h => absurd hc9 h)
      refine lv_aload_n hM.1 hM.2.1 dX7_init_63 rfl (lv_at hl 2 rfl) ?_
      refine lv_iconst (v := 4) hM.1 hM.2.1 dX7_init_64 (by decide) ?_
      refine z_newq hM hW hS hlo (k := 13) 0 (by decide) (fun q => by rw [h1] at q; unfold vfD1 at q; omega) 4 rfl lk_X7_29 hM.2.2.2.2.2.2.2.2.2.2.2.2.1 (fun _ => rfl) (x := 4) (n := 4) (by decide) rfl (by decide) (by show 16 + 1 ≤ 633; omega) (by show 70 + 4 ≤ 4264; omega) dX7_init_65 (fun Z1 H hx1 hW hS => ?_)
      have dma65_0 : Z1.2.1 7 (0) := (hx1.2.1 _ _).mpr (Or.inl hdK)
      have haa65_0 : Z1.1 7 (0) = Z.1 7 (0) := (hx1.1 _ _ ((by omega))).1.trans haK
      have hn65 : Z1.2.1 13 0 := (hx1.2.1 _ _).mpr (Or.inr ⟨rfl, rfl⟩)
      refine z_putr hM hW hS zc7 dma65_0 haa65_0 1 (by decide) (t := 13) (j := 0) rfl hn65 lf_X7_31 (Or.inr ⟨hin, rfl⟩) (tyX7 1) (tyX7_ok 1 (by decide)) (fun _ => rfl) (fun _ => rfl) dX7_init_68 (fun H locs hW hS => ?_)
      refine lv_iconst (v := 0) hM.1 hM.2.1 dX7_init_71 (by decide) ?_
      refine lv_istore_n hM.1 hM.2.1 dX7_init_72 rfl hl (by decide) (lv' := [(3, .int (0)), (2, .int (nI n)), (0, .ref (Z.1 7 (0))), (1, .int (x))]) rfl (fun ls hl => ?_)
      exact loop2 4 0 Z1 _ ls _ _ (by omega) (vf2_0 hVn hx1) (lv_sub hl [0, 1, 2, 3] rfl) hW hS
    | succ f ih =>
      intro k Zk T ls H locs hk hV1 hl hW hS
      obtain ⟨h1, ⟨haK, l1, l2⟩, h5, h6, h7⟩ := id hV1
      have hdK : Zk.2.1 7 0 := by rw [h1]; unfold vfD1; omega
      have hc9 : ¬ nI n ≤ nI k := nI_ge (by omega) (by omega)
      refine lv_iload_n hM.1 hM.2.1 dX7_init_32 rfl (lv_at hl 0 rfl) ?_
      refine lv_iload_n hM.1 hM.2.1 dX7_init_33 rfl (lv_at hl 1 rfl) ?_
      refine lv_icmp_ge hM.1 hM.2.1 dX7_init_34 (tgt := 63) (by decide) (fun h => absurd h hc9) (fun _ => ?_)
      refine lv_aload_n hM.1 hM.2.1 dX7_init_37 rfl (lv_at hl 2 rfl) ?_
      refine z_getr hM hW zc7 hdK haK 0 (by decide) lf_X7_20 (t := 14) (j := 0) rfl (by rw [h7, if_pos (by omega)]) dX7_init_38 (fun hd4_38 => ?_)
      refine lv_iload_n hM.1 hM.2.1 dX7_init_41 rfl (lv_at hl 0 rfl) ?_
      refine z_new hM hW hS hlo zc3 (k) (fun q => by rw [h1] at q; unfold vfD1 at q; omega) lk_X7_18 lt_X3 lz_X3 (by show 2 + 2 * k + 1 ≤ 633; omega) (by show 14 + 8 * k + 5 ≤ 4264; omega) dX7_init_42 (fun Z1 H hx1 hW hS => ?_)
      have dmn42_0 : Z1.2.1 7 (0) := (hx1.2.1 _ _).mpr (Or.inl hdK)
      have han42_0 : Z1.1 7 (0) = Z.1 7 (0) := (hx1.1 _ _ ((by omega))).1.trans haK
      have dmn42_1 : Z1.2.1 14 (0) := (hx1.2.1 _ _).mpr (Or.inl hd4_38)
      have han42_1 : Z1.1 14 (0) = Zk.1 14 (0) := (hx1.1 _ _ ((by omega))).1.trans rfl
      have hn42 : Z1.2.1 3 (k) := (hx1.2.1 _ _).mpr (Or.inr ⟨rfl, rfl⟩)
      refine lv_dup hM.1 hM.2.1 dX7_init_45 rfl ?_
      refine z_callN hM (hml.trans hl.1.symm) hW hS hlo zyX3_init rfl (host := RX7) hM.2.2.2.2.2.2.1 li_yX3_init (a := Z1.1 3 (k)) (As := []) (rest := [.ref (Z1.1 3 (k)), .int (nI k), .ref (Zk.1 14 (0))]) (c_X3_init (c := k) hn42 (fun q => by rw [hx1.2.1, h1] at q; unfold vfD1 at q; omega)) rfl rfl (Nat.le_of_ble_eq_true rfl) ⟨Nat.le_of_ble_eq_true rfl, Nat.le_of_ble_eq_true rfl⟩ ⟨by show 2 + 2 * k + 1 + 1 ≤ 633; omega, by show 14 + 8 * k + 5 + 3 ≤ 4264; omega⟩ dX7_init_46 (fun r9 Z2 S9 H locs hp hW hS => ?_)
      obtain ⟨e2, hx2⟩ := hp
      subst e2
      refine W.eq (g2 := F0 mX 49 ls [.ref (Z1.1 3 (k)), .int (nI k), .ref (Zk.1 14 (0))]) rfl ?_
      have dmd_0 : Z2.2.1 7 (0) := (hx2.2.1 _ _).mpr (Or.inl dmn42_0)
      have had_0 : Z2.1 7 (0) = Z.1 7 (0) := (hx2.1 _ _ ((by omega))).1.trans han42_0
      have dmd_1 : Z2.2.1 3 (k) := (hx2.2.1 _ _).mpr (Or.inl hn42)
      have had_1 : Z2.1 3 (k) = Z1.1 3 (k) := (hx2.1 _ _ ((by omega))).1.trans rfl
      have dmd_2 : Z2.2.1 14 (0) := (hx2.2.1 _ _).mpr (Or.inl dmn42_1)
      have had_2 : Z2.1 14 (0) = Zk.1 14 (0) := (hx2.1 _ _ ((by omega))).1.trans han42_1
      refine z_aast hM hW hS dmd_2 (by decide) had_2 5 rfl (t := 3) (q := k) (fun _ => rfl) zc3 dmd_1 had_1 (by rw [(hx2.1 14 0 (by omega)).2, (hx1.1 14 0 (by omega)).2, l1]; exact nI_in (by omega) (by omega)) dX7_init_49 (fun H locs hW hS => ?_)
      refine lv_aload_n hM.1 hM.2.1 dX7_init_50 rfl (lv_at hl 2 rfl) ?_
      refine z_getr hM hW zc7 dmd_0 had_0 5 (by decide) lf_X7_24 (t := 9) (j := 0) rfl (by unfold s_X3_init; rw [gr_sr, if_neg (by omega), gr_sr, if_neg (by omega), gr_sz, if_neg (by omega), gr_sz, if_neg (by omega), h7, if_pos (by omega)]) dX7_init_51 (fun hd5_51 => ?_)
      refine lv_iload_n hM.1 hM.2.1 dX7_init_54 rfl (lv_at hl 0 rfl) ?_
      refine lv_iconst (v := 1) hM.1 hM.2.1 dX7_init_55 (by decide) ?_
      refine z_iast hM hW hS hd5_51 rfl (by rw [(hx2.1 9 0 (by omega)).2, (hx1.1 9 0 (by omega)).2, l2]; exact nI_in (by omega) (by omega)) dX7_init_56 (fun H locs hW hS => ?_)
      refine lv_iinc hM.1 hM.2.1 dX7_init_57 hl (k := 0) rfl (v := nI (k + 1)) (nI_succ _).symm (by decide) (lv' := [(3, .int (nI (k + 1))), (2, .int (nI n)), (0, .ref (Z.1 7 (0))), (1, .int (x))]) rfl (fun ls hl => ?_)
      refine lv_goto hM.1 hM.2.1 dX7_init_60 (tgt := 32) (by decide) ?_
      exact ih (k + 1) Z2 _ ls H locs (by omega) (vf1_s hV1 (by omega) (by omega) hx1 hx2) (lv_sub hl [0, 1, 2, 3] rfl) hW hS
  refine lv_aload_n hM.1 hM.2.1 dX7_init_0 rfl (lv_at hl 0 rfl) ?_
  refine W.objInit hM.1 hM.2.1 hM.2.2.1 (hM.2.2.2.1 _ lm_X7_1) (hM.2.2.2.1 _ li_objectInit) (hM.2.2.2.1 _ lc_objectInit) rfl (hl.1.trans hml.symm) rfl dX7_init_1 (Nat.le_of_ble_eq_true rfl) (Nat.le_of_ble_eq_true rfl) ?_
  refine W.eq (g2 := F0 mX 4 ls []) rfl ?_
  refine lv_iconst (v := 1) hM.1 hM.2.1 dX7_init_4 (by decide) ?_
  refine lv_iload_n hM.1 hM.2.1 dX7_init_5 rfl (lv_at hl 1 rfl) ?_
  refine lv_bipush (v := 7) hM.1 hM.2.1 dX7_init_6 (by decide) ?_
  refine va_mmin hM.1 hM.2.1 (hml.trans hl.1.symm) hM.2.2.1 (hM.2.2.2.1 _ lm_X7_9) (hM.2.2.2.1 _ ls_J_min) (hM.2.2.2.1 _ lz_J) (hM.2.2.2.1 _ lc_J_min) (Nat.le_of_ble_eq_true rfl) (Nat.le_of_ble_eq_true rfl) (Nat.le_of_ble_eq_true rfl) (Nat.le_of_ble_eq_true rfl) dX7_init_8 ?_
  refine va_mmax hM.1 hM.2.1 (hml.trans hl.1.symm) hM.2.2.1 (hM.2.2.2.1 _ lm_X7_15) (hM.2.2.2.1 _ ls_J_max) (hM.2.2.2.1 _ lz_J) (hM.2.2.2.1 _ lc_J_max) (Nat.le_of_ble_eq_true rfl) (Nat.le_of_ble_eq_true rfl) (Nat.le_of_ble_eq_true rfl) (Nat.le_of_ble_eq_true rfl) dX7_init_11 ?_
  rw [hnx]
  refine lv_istore_n hM.1 hM.2.1 dX7_init_14 rfl hl (by decide) (lv' := [(2, .int (nI n)), (0, .ref (Z.1 7 (0))), (1, .int (x))]) rfl (fun ls hl => ?_)
  refine lv_aload_n hM.1 hM.2.1 dX7_init_15 rfl (lv_at hl 1 rfl) ?_
  refine lv_iload_n hM.1 hM.2.1 dX7_init_16 rfl (lv_at hl 0 rfl) ?_
  refine z_newq hM hW hS hlo (k := 14) 0 (by decide) (fun q => by rw [hd] at q; omega) 5 rfl lk_X7_18 hM.2.2.2.2.2.2.2.2.2.2.2.2.2.1 (fun _ => rfl) (x := nI n) (n := n) (nI_pos (by omega)) (nI_clamp (by omega)) (by omega) (by show 0 + 1 ≤ 633; omega) (by show 0 + n ≤ 4264; omega) dX7_init_17 (fun Z1 H hx1 hW hS => ?_)
  have dma17_0 : Z1.2.1 7 (0) := (hx1.2.1 _ _).mpr (Or.inl ((hd 7 0).mpr ⟨rfl, rfl⟩))
  have haa17_0 : Z1.1 7 (0) = Z.1 7 (0) := (hx1.1 _ _ ((by omega))).1.trans rfl
  have hn17 : Z1.2.1 14 0 := (hx1.2.1 _ _).mpr (Or.inr ⟨rfl, rfl⟩)
  refine z_putr hM hW hS zc7 dma17_0 haa17_0 0 (by decide) (t := 14) (j := 0) rfl hn17 lf_X7_20 (Or.inr ⟨hin, rfl⟩) (tyX7 0) (tyX7_ok 0 (by decide)) (fun _ => rfl) (fun _ => rfl) dX7_init_20 (fun H locs hW hS => ?_)
  refine lv_aload_n hM.1 hM.2.1 dX7_init_23 rfl (lv_at hl 1 rfl) ?_
  refine lv_iload_n hM.1 hM.2.1 dX7_init_24 rfl (lv_at hl 0 rfl) ?_
  refine z_newa hM hW hS hlo (k := 9) 0 (by decide) (fun q => by rw [hx1.2.1, hd] at q; omega) (atype := .int) (ty := .int) rfl 0 rfl la_int (fun _ _ h => h) (fun _ => rfl) (x := nI n) (n := n) (nI_pos (by omega)) (nI_clamp (by omega)) (by show n * 4 ≤ _; omega) (by show 0 + 1 + 1 ≤ 633; omega) (by show 0 + n + n ≤ 4264; omega) dX7_init_25 (fun Z2 H hx2 hW hS => ?_)
  have dmb_0 : Z2.2.1 7 (0) := (hx2.2.1 _ _).mpr (Or.inl dma17_0)
  have hab_0 : Z2.1 7 (0) = Z.1 7 (0) := (hx2.1 _ _ ((by omega))).1.trans haa17_0
  have hnb : Z2.2.1 9 0 := (hx2.2.1 _ _).mpr (Or.inr ⟨rfl, rfl⟩)
  refine z_putr hM hW hS zc7 dmb_0 hab_0 5 (by decide) (t := 9) (j := 0) rfl hnb lf_X7_24 (Or.inr ⟨hin, rfl⟩) (tyX7 5) (tyX7_ok 5 (by decide)) (fun _ => rfl) (fun _ => rfl) dX7_init_27 (fun H locs hW hS => ?_)
  refine lv_iconst (v := 0) hM.1 hM.2.1 dX7_init_30 (by decide) ?_
  refine lv_istore_n hM.1 hM.2.1 dX7_init_31 rfl hl (by decide) (lv' := [(3, .int (0)), (2, .int (nI n)), (0, .ref (Z.1 7 (0))), (1, .int (x))]) rfl (fun ls hl => ?_)
  refine W.widen (k := 2) (n := 14) (by show 0 + 1 + 1 ≤ 2; omega) (by show 0 + n + n ≤ 14; omega) ?_
  exact loop1 n 0 Z2 _ ls _ _ (by omega) (vf1_0 hz hd hx1 hx2) (lv_sub hl [0, 1, 2, 3] rfl) hW hS
