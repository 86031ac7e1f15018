theorem canBegin_lt {S : zS} {n c a : Nat} (hac : gi S 7 0 7 = nI a) (h : ¬ r_X7_canBegin S n c = 0) (ha : a ≤ 200) : a < 200 ∧ gr S 2 c 2 = none := by
  unfold r_X7_canBegin at h
  rcases hq : gr S 2 c 2 with _ | b
  · rw [oel_n hq] at h
    by_cases h2 : gi S 7 0 7 < 200
    · rw [hac] at h2
      refine ⟨?_, rfl⟩
      rcases Nat.lt_or_eq_of_le ha with q | q
      · exact q
      · subst q; exact absurd h2 (by decide)
    · first | (rw [pif_neg h2] at h; exact absurd rfl h) | (rw [pif_pos (Int32.not_lt.mp h2)] at h; exact absurd rfl h)
  · rw [oel_s hq] at h
    exact absurd rfl h
noncomputable def r_X7_read (S : zS) (n : Nat) (a : Nat) (x : Int32) : Int32 :=
  (oel (atI 4 (x)) ((-1)) (fun q2 => 
    (pif ((r_X7_canBegin S n (q2)) = (0)) ((-1)) (r_X7_beginAct (s_X0_init (sz S 0 a) a ((gi (sz S 0 a) 7 (0) (7)) + (1)) (0) (x)) n (q2) (a) (1)))))
noncomputable def s_X7_read (S : zS) (n : Nat) (a : Nat) (x : Int32) : zS :=
  (oel (atI 4 (x)) (S) (fun q2 => 
    (pif ((r_X7_canBegin S n (q2)) = (0)) (S) ((s_X7_beginAct (s_X0_init (sz S 0 a) a ((gi (sz S 0 a) 7 (0) (7)) + (1)) (0) (x)) n (q2) (a) (1))))))
set_option maxHeartbeats 400000 in
set_option maxRecDepth 100000 in
theorem c_X7_read {l : Launch} {D : va_G} {ar : Nat → ClassId} {A : Nat → Prop} {Z : zZ} {S : zS} {n : Nat} {a : Nat} {x : Int32} (hV : zV n Z S.2.2) (hac : gi S 7 0 7 = nI a) (ha0 : a ≤ 200) (hf0 : a < 200 → ¬ Z.2.1 0 a) (hc0 : ¬ gi S 1 0 2 < 0) : zMet l yX7_read prog_1_method_5_code 3 (some .int) ({ frames := 5, cells := 1, slots := 9, locals := 119 } : Room) D ar A Z S [.ref (Z.1 7 (0)), .int (x)] rvI (fun r Z' S' => r = r_X7_read S n a x ∧ S' = s_X7_read S n a x ∧ ((Z' = Z ∧ S' = S) ∨ ∃ c, atI 4 x = some c ∧ gr S 2 c 2 = none ∧ a < 200 ∧ zext Z Z' 0 a 0 ∧ S' = (s_X7_beginAct (s_X0_init (sz S 0 a) a ((gi (sz S 0 a) 7 (0) (7)) + (1)) (0) (x)) n (c) (a) (1)))) := by
  refine z_body (by decide +kernel) (Nat.le_of_ble_eq_true rfl) ?_
  intro pX eX sX mX bX methX cX ls hM hr hlk hml hin hl hW hlo
  have hM : zM pX cX mX _ sX prog_1_method_5_code RX7 D ar := hM
  have hS : va_S A sX.heap sX.heap [] := va_S.rf
  have hl : lv_has ls 3 [(0, .ref (Z.1 7 (0))), (1, .int (x))] := hl
  refine lv_aload_n hM.1 hM.2.1 dX7_read_0 rfl (lv_at hl 0 rfl) ?_
  refine lv_iload_n hM.1 hM.2.1 dX7_read_1 rfl (lv_at hl 1 rfl) ?_
  refine z_Vr hM (hml.trans hl.1.symm) hW hS hlo zc7 hV.d7 rfl zyX7_clientAt lm_X7_69 li_yX7_clientAt le_yX7_clientAt (As := [.int (x)]) (rest := []) (c_X7_clientAt hV) rfl rfl (Nat.le_of_ble_eq_true rfl) ⟨Nat.le_of_ble_eq_true rfl, Nat.le_of_ble_eq_true rfl⟩ ⟨Nat.le_of_ble_eq_true rfl, Nat.le_of_ble_eq_true rfl⟩ dX7_read_2 (fun H locs hW hS => ?_)
  rcases hq_2 : atI 4 (x) with _ | q2
  ·
    refine lv_astore_nN hM.1 hM.2.1 dX7_read_5 rfl hl (by decide) (lv' := [(2, .null), (0, .ref (Z.1 7 (0))), (1, .int (x))]) rfl (fun ls hl => ?_)
    refine lv_aload_nN hM.1 hM.2.1 dX7_read_6 rfl (lv_at hl 0 rfl) ?_
    refine lv_ifnullN hM.1 hM.2.1 dX7_read_7 (tgt := 18) (by decide) ?_
    refine lv_iconst (v := (-1)) hM.1 hM.2.1 dX7_read_18 (by decide) ?_
    refine W.widen (k := 1) (n := 9) (Nat.le_of_ble_eq_true rfl) (Nat.le_of_ble_eq_true rfl) ?_
    exact z_iret hM hlk hr rfl hW hS ⟨(by unfold r_X7_read; rw [oel_n hq_2]; first | done | rfl), (by unfold s_X7_read; rw [oel_n hq_2]; first | done | rfl), (Or.inl ⟨rfl, rfl⟩)⟩ dX7_read_19
  ·
    obtain ⟨he_2, hb_2, hn0_2, hn1_2⟩ := atI_some (by decide) hq_2
    have hd_2 := hV.d2 hb_2
    refine lv_astore_n hM.1 hM.2.1 dX7_read_5 rfl hl (by decide) (lv' := [(2, .ref (Z.1 2 (q2))), (0, .ref (Z.1 7 (0))), (1, .int (x))]) rfl (fun ls hl => ?_)
    refine lv_aload_n hM.1 hM.2.1 dX7_read_6 rfl (lv_at hl 0 rfl) ?_
    refine lv_ifnull hM.1 hM.2.1 dX7_read_7 ?_
    refine lv_aload_n hM.1 hM.2.1 dX7_read_10 rfl (lv_at hl 1 rfl) ?_
    refine lv_aload_n hM.1 hM.2.1 dX7_read_11 rfl (lv_at hl 0 rfl) ?_
    refine z_Vi hM (hml.trans hl.1.symm) hW hS hlo zc7 hV.d7 rfl zyX7_canBegin lm_X7_73 li_yX7_canBegin le_yX7_canBegin (As := [.ref (Z.1 2 (q2))]) (rest := []) (c_X7_canBegin hV hd_2) rfl rfl (Nat.le_of_ble_eq_true rfl) ⟨Nat.le_of_ble_eq_true rfl, Nat.le_of_ble_eq_true rfl⟩ ⟨Nat.le_of_ble_eq_true rfl, Nat.le_of_ble_eq_true rfl⟩ dX7_read_12 (fun H locs hW hS => ?_)
    refine lv_if_ne hM.1 hM.2.1 dX7_read_15 (tgt := 20) (by decide) (fun h_15 => ?_) (fun h_15 => ?_)
    ·
      refine lv_aload_n hM.1 hM.2.1 dX7_read_20 rfl (lv_at hl 1 rfl) ?_
      refine lv_aload_n hM.1 hM.2.1 dX7_read_21 rfl (lv_at hl 0 rfl) ?_
      obtain ⟨ha2, hno⟩ := canBegin_lt hac h_15 ha0
      have hfr := hf0 ha2
      refine z_new hM hW hS hlo zc0 a hfr lk_X7_56 lt_X0 lz_X0 (Nat.le_of_ble_eq_true rfl) (Nat.le_of_ble_eq_true rfl) dX7_read_22 (fun Z1 H hx1 hW hS => ?_)
      have dm1_0 : Z1.2.1 2 (q2) := (hx1.2.1 _ _).mpr (Or.inl hd_2)
      have ha1_0 : Z1.1 2 (q2) = Z.1 2 (q2) := (hx1.1 _ _ ((by omega))).1.trans rfl
      have dm1_1 : Z1.2.1 7 (0) := (hx1.2.1 _ _).mpr (Or.inl hV.d7)
      have ha1_1 : Z1.1 7 (0) = Z.1 7 (0) := (hx1.1 _ _ ((by omega))).1.trans rfl
      have hda : Z1.2.1 0 a := (hx1.2.1 _ _).mpr (Or.inr ⟨rfl, rfl⟩)
      have hV1 : zV n Z1 (sz S 0 a).2.2 := hV.newAct hx1 (fun k i f q => by show gr (sz S 0 a) k i f = _; rw [gr_sz, if_neg (fun r => q r.1)]; rfl)
      refine lv_dup hM.1 hM.2.1 dX7_read_25 rfl ?_
      refine lv_aload_n hM.1 hM.2.1 dX7_read_26 rfl (lv_at hl 1 rfl) ?_
      refine z_get hM hW zc7 dm1_1 ha1_1 7 (by decide) lf_X7_91 (v := .int (gi (sz S 0 a) 7 (0) (7))) rfl dX7_read_27 ?_
      refine lv_iconst (v := 1) hM.1 hM.2.1 dX7_read_30 (by decide) ?_
      refine lv_iadd hM.1 hM.2.1 dX7_read_31 ?_
      refine lv_iconst (v := 0) hM.1 hM.2.1 dX7_read_32 (by decide) ?_
      refine lv_iload_n hM.1 hM.2.1 dX7_read_33 rfl (lv_at hl 2 rfl) ?_
      refine z_IFv hM (hml.trans hl.1.symm) hW hS hlo zyX0_init rfl lm_X7_94 li_yX0_init (As := [.int ((gi (sz S 0 a) 7 (0) (7)) + (1)), .int (0), .int (x)]) (rest := [.ref (Z1.1 0 a), .ref (Z.1 2 (q2)), .ref (Z.1 7 (0))]) (c_X0_init hda) rfl rfl (Nat.le_of_ble_eq_true rfl) ⟨Nat.le_of_ble_eq_true rfl, Nat.le_of_ble_eq_true rfl⟩ ⟨Nat.le_of_ble_eq_true rfl, Nat.le_of_ble_eq_true rfl⟩ dX7_read_34 (fun H locs hW hS => ?_)
      obtain ⟨B1, hB1⟩ : ∃ B, B = (s_X0_init (sz S 0 a) a ((gi (sz S 0 a) 7 (0) (7)) + (1)) (0) (x)) := ⟨_, rfl⟩
      rw [← hB1] at hW
      have gB : ∀ k i f, k ≠ 0 → gi B1 k i f = gi S k i f := by rw [hB1]; exact init0.1
      have hVB : zV n Z1 B1.2.2 := hV.newAct hx1 (by rw [hB1]; exact init0.2)
      refine lv_iconst (v := 1) hM.1 hM.2.1 dX7_read_37 (by decide) ?_
      refine z_Vi hM (hml.trans hl.1.symm) hW hS hlo zc7 dm1_1 ha1_1 zyX7_beginAct lm_X7_97 li_yX7_beginAct le_yX7_beginAct (As := [.ref (Z1.1 2 (q2)), .ref (Z1.1 0 a), .int (1)]) (rest := []) (c_X7_beginAct (n := n) hVB hb_2 hda (by first | exact (gB _ _ _ (by decide)).trans hac | (show gi B1 7 0 7 = nI a; exact (gB _ _ _ (by decide)).trans hac)) ha2 (by show ¬ gi B1 1 0 2 < 0; rw [gB _ _ _ (by decide)]; exact hc0)) rfl (by rw [ha1_0]; rfl) (Nat.le_of_ble_eq_true rfl) ⟨Nat.le_of_ble_eq_true rfl, Nat.le_of_ble_eq_true rfl⟩ ⟨Nat.le_of_ble_eq_true rfl, Nat.le_of_ble_eq_true rfl⟩ dX7_read_38 (fun H locs hW hS => ?_)
      refine W.widen (k := 1) (n := 9) (Nat.le_of_ble_eq_true rfl) (Nat.le_of_ble_eq_true rfl) ?_
      exact z_iret hM hlk hr rfl hW hS ⟨(by subst hB1; unfold r_X7_read; rw [oel_s hq_2, pif_neg h_15]; first | done | rfl), (by subst hB1; unfold s_X7_read; rw [oel_s hq_2, pif_neg h_15]; first | done | rfl), (Or.inr ⟨q2, rfl, hno, ha2, hx1, by subst hB1; rfl⟩)⟩ dX7_read_41
    ·
      refine lv_iconst (v := (-1)) hM.1 hM.2.1 dX7_read_18 (by decide) ?_
      refine W.widen (k := 1) (n := 9) (Nat.le_of_ble_eq_true rfl) (Nat.le_of_ble_eq_true rfl) ?_
      exact z_iret hM hlk hr rfl hW hS ⟨(by unfold r_X7_read; rw [oel_s hq_2, pif_pos h_15]; first | done | rfl), (by unfold s_X7_read; rw [oel_s hq_2, pif_pos h_15]; first | done | rfl), (Or.inl ⟨rfl, rfl⟩)⟩ dX7_read_19

noncomputable def r_X7_write (S : zS) (n : Nat) (a : Nat) (x : Int32) (v : Int64) : Int32 :=
  (oel (atI 4 (x)) ((-1)) (fun q2 => 
    (pif ((r_X7_canBegin S n (q2)) = (0)) ((-1)) (r_X7_beginAct (sj (s_X0_init (sz S 0 a) a ((gi (sz S 0 a) 7 (0) (7)) + (1)) (1) (x)) 0 (a) (8) (v)) n (q2) (a) (1)))))
noncomputable def s_X7_write (S : zS) (n : Nat) (a : Nat) (x : Int32) (v : Int64) : zS :=
  (oel (atI 4 (x)) (S) (fun q2 => 
    (pif ((r_X7_canBegin S n (q2)) = (0)) (S) ((s_X7_beginAct (sj (s_X0_init (sz S 0 a) a ((gi (sz S 0 a) 7 (0) (7)) + (1)) (1) (x)) 0 (a) (8) (v)) n (q2) (a) (1))))))
set_option maxHeartbeats 400000 in
set_option maxRecDepth 100000 in
theorem c_X7_write {l : Launch} {D : va_G} {ar : Nat → ClassId} {A : Nat → Prop} {Z : zZ} {S : zS} {n : Nat} {a : Nat} {x : Int32} {v : Int64} (hV : zV n Z S.2.2) (hac : gi S 7 0 7 = nI a) (ha0 : a ≤ 200) (hf0 : a < 200 → ¬ Z.2.1 0 a) (hc0 : ¬ gi S 1 0 2 < 0) : zMet l yX7_write prog_1_method_6_code 6 (some .int) ({ frames := 5, cells := 1, slots := 9, locals := 119 } : Room) D ar A Z S [.ref (Z.1 7 (0)), .int (x), .long (v)] rvI (fun r Z' S' => r = r_X7_write S n a x v ∧ S' = s_X7_write S n a x v ∧ ((Z' = Z ∧ S' = S) ∨ ∃ c, atI 4 x = some c ∧ gr S 2 c 2 = none ∧ a < 200 ∧ zext Z Z' 0 a 0 ∧ S' = (s_X7_beginAct (sj (s_X0_init (sz S 0 a) a ((gi (sz S 0 a) 7 (0) (7)) + (1)) (1) (x)) 0 (a) (8) (v)) n (c) (a) (1)))) := by
  refine z_body (by decide +kernel) (Nat.le_of_ble_eq_true rfl) ?_
  intro pX eX sX mX bX methX cX ls hM hr hlk hml hin hl hW hlo
  have hM : zM pX cX mX _ sX prog_1_method_6_code RX7 D ar := hM
  have hS : va_S A sX.heap sX.heap [] := va_S.rf
  have hl : lv_has ls 6 [(0, .ref (Z.1 7 (0))), (1, .int (x)), (2, .long (v))] := hl
  refine lv_aload_n hM.1 hM.2.1 dX7_write_0 rfl (lv_at hl 0 rfl) ?_
  refine lv_iload_n hM.1 hM.2.1 dX7_write_1 rfl (lv_at hl 1 rfl) ?_
  refine z_Vr hM (hml.trans hl.1.symm) hW hS hlo zc7 hV.d7 rfl zyX7_clientAt lm_X7_69 li_yX7_clientAt le_yX7_clientAt (As := [.int (x)]) (rest := []) (c_X7_clientAt hV) rfl rfl (Nat.le_of_ble_eq_true rfl) ⟨Nat.le_of_ble_eq_true rfl, Nat.le_of_ble_eq_true rfl⟩ ⟨Nat.le_of_ble_eq_true rfl, Nat.le_of_ble_eq_true rfl⟩ dX7_write_2 (fun H locs hW hS => ?_)
  rcases hq_2 : atI 4 (x) with _ | q2
  ·
    refine lv_astoreN hM.1 hM.2.1 dX7_write_5 hl (by decide) (lv' := [(4, .null), (0, .ref (Z.1 7 (0))), (1, .int (x)), (2, .long (v))]) rfl (fun ls hl => ?_)
    refine lv_aloadN hM.1 hM.2.1 dX7_write_7 (lv_at hl 0 rfl) ?_
    refine lv_ifnullN hM.1 hM.2.1 dX7_write_9 (tgt := 21) (by decide) ?_
    refine lv_iconst (v := (-1)) hM.1 hM.2.1 dX7_write_21 (by decide) ?_
    refine W.widen (k := 1) (n := 9) (Nat.le_of_ble_eq_true rfl) (Nat.le_of_ble_eq_true rfl) ?_
    exact z_iret hM hlk hr rfl hW hS ⟨(by unfold r_X7_write; rw [oel_n hq_2]; first | done | rfl), (by unfold s_X7_write; rw [oel_n hq_2]; first | done | rfl), (Or.inl ⟨rfl, rfl⟩)⟩ dX7_write_22
  ·
    obtain ⟨he_2, hb_2, hn0_2, hn1_2⟩ := atI_some (by decide) hq_2
    have hd_2 := hV.d2 hb_2
    refine lv_astore hM.1 hM.2.1 dX7_write_5 hl (by decide) (lv' := [(4, .ref (Z.1 2 (q2))), (0, .ref (Z.1 7 (0))), (1, .int (x)), (2, .long (v))]) rfl (fun ls hl => ?_)
    refine lv_aload hM.1 hM.2.1 dX7_write_7 (lv_at hl 0 rfl) ?_
    refine lv_ifnull hM.1 hM.2.1 dX7_write_9 ?_
    refine lv_aload_n hM.1 hM.2.1 dX7_write_12 rfl (lv_at hl 1 rfl) ?_
    refine lv_aload hM.1 hM.2.1 dX7_write_13 (lv_at hl 0 rfl) ?_
    refine z_Vi hM (hml.trans hl.1.symm) hW hS hlo zc7 hV.d7 rfl zyX7_canBegin lm_X7_73 li_yX7_canBegin le_yX7_canBegin (As := [.ref (Z.1 2 (q2))]) (rest := []) (c_X7_canBegin hV hd_2) rfl rfl (Nat.le_of_ble_eq_true rfl) ⟨Nat.le_of_ble_eq_true rfl, Nat.le_of_ble_eq_true rfl⟩ ⟨Nat.le_of_ble_eq_true rfl, Nat.le_of_ble_eq_true rfl⟩ dX7_write_15 (fun H locs hW hS => ?_)
    refine lv_if_ne hM.1 hM.2.1 dX7_write_18 (tgt := 23) (by decide) (fun h_18 => ?_) (fun h_18 => ?_)
    ·
      obtain ⟨ha2, hno⟩ := canBegin_lt hac h_18 ha0
      have hfr := hf0 ha2
      refine z_new hM hW hS hlo zc0 a hfr lk_X7_56 lt_X0 lz_X0 (Nat.le_of_ble_eq_true rfl) (Nat.le_of_ble_eq_true rfl) dX7_write_23 (fun Z1 H hx1 hW hS => ?_)
      have dm1_0 : Z1.2.1 2 (q2) := (hx1.2.1 _ _).mpr (Or.inl hd_2)
      have ha1_0 : Z1.1 2 (q2) = Z.1 2 (q2) := (hx1.1 _ _ ((by omega))).1.trans rfl
      have dm1_1 : Z1.2.1 7 (0) := (hx1.2.1 _ _).mpr (Or.inl hV.d7)
      have ha1_1 : Z1.1 7 (0) = Z.1 7 (0) := (hx1.1 _ _ ((by omega))).1.trans rfl
      have hda : Z1.2.1 0 a := (hx1.2.1 _ _).mpr (Or.inr ⟨rfl, rfl⟩)
      have hV1 : zV n Z1 (sz S 0 a).2.2 := hV.newAct hx1 (fun k i f q => by show gr (sz S 0 a) k i f = _; rw [gr_sz, if_neg (fun r => q r.1)]; rfl)
      refine lv_dup hM.1 hM.2.1 dX7_write_26 rfl ?_
      refine lv_aload_n hM.1 hM.2.1 dX7_write_27 rfl (lv_at hl 1 rfl) ?_
      refine z_get hM hW zc7 dm1_1 ha1_1 7 (by decide) lf_X7_91 (v := .int (gi (sz S 0 a) 7 (0) (7))) rfl dX7_write_28 ?_
      refine lv_iconst (v := 1) hM.1 hM.2.1 dX7_write_31 (by decide) ?_
      refine lv_iadd hM.1 hM.2.1 dX7_write_32 ?_
      refine lv_iconst (v := 1) hM.1 hM.2.1 dX7_write_33 (by decide) ?_
      refine lv_iload_n hM.1 hM.2.1 dX7_write_34 rfl (lv_at hl 2 rfl) ?_
      refine z_IFv hM (hml.trans hl.1.symm) hW hS hlo zyX0_init rfl lm_X7_94 li_yX0_init (As := [.int ((gi (sz S 0 a) 7 (0) (7)) + (1)), .int (1), .int (x)]) (rest := [.ref (Z1.1 0 a)]) (c_X0_init hda) rfl rfl (Nat.le_of_ble_eq_true rfl) ⟨Nat.le_of_ble_eq_true rfl, Nat.le_of_ble_eq_true rfl⟩ ⟨Nat.le_of_ble_eq_true rfl, Nat.le_of_ble_eq_true rfl⟩ dX7_write_35 (fun H locs hW hS => ?_)
      obtain ⟨B1, hB1⟩ : ∃ B, B = (s_X0_init (sz S 0 a) a ((gi (sz S 0 a) 7 (0) (7)) + (1)) (1) (x)) := ⟨_, rfl⟩
      rw [← hB1] at hW
      have gB : ∀ k i f, k ≠ 0 → gi B1 k i f = gi S k i f := by rw [hB1]; exact init0.1
      have hVB : zV n Z1 B1.2.2 := hV.newAct hx1 (by rw [hB1]; exact init0.2)
      refine lv_astore hM.1 hM.2.1 dX7_write_38 hl (by decide) (lv' := [(5, .ref (Z1.1 0 a)), (4, .ref (Z.1 2 (q2))), (0, .ref (Z.1 7 (0))), (1, .int (x)), (2, .long (v))]) rfl (fun ls hl => ?_)
      refine lv_aload hM.1 hM.2.1 dX7_write_40 (lv_at hl 0 rfl) ?_
      refine lv_lload_n hM.1 hM.2.1 dX7_write_42 rfl (lv_at hl 4 rfl) ?_
      refine z_putl hM hW hS zc0 hda rfl 8 (by decide) rfl lf_X7_101 (Or.inl rfl) (tyX0_ok 8 (by decide)) dX7_write_43 (fun H locs hW hS => ?_)
      refine lv_aload_n hM.1 hM.2.1 dX7_write_46 rfl (lv_at hl 2 rfl) ?_
      refine lv_aload hM.1 hM.2.1 dX7_write_47 (lv_at hl 1 rfl) ?_
      refine lv_aload hM.1 hM.2.1 dX7_write_49 (lv_at hl 0 rfl) ?_
      refine lv_iconst (v := 1) hM.1 hM.2.1 dX7_write_51 (by decide) ?_
      refine z_Vi hM (hml.trans hl.1.symm) hW hS hlo zc7 dm1_1 ha1_1 zyX7_beginAct lm_X7_97 li_yX7_beginAct le_yX7_beginAct (As := [.ref (Z1.1 2 (q2)), .ref (Z1.1 0 a), .int (1)]) (rest := []) (c_X7_beginAct (n := n) hVB hb_2 hda (by first | exact (gB _ _ _ (by decide)).trans hac | (show gi B1 7 0 7 = nI a; exact (gB _ _ _ (by decide)).trans hac)) ha2 (by show ¬ gi B1 1 0 2 < 0; rw [gB _ _ _ (by decide)]; exact hc0)) rfl (by rw [ha1_0]; rfl) (Nat.le_of_ble_eq_true rfl) ⟨Nat.le_of_ble_eq_true rfl, Nat.le_of_ble_eq_true rfl⟩ ⟨Nat.le_of_ble_eq_true rfl, Nat.le_of_ble_eq_true rfl⟩ dX7_write_52 (fun H locs hW hS => ?_)
      refine W.widen (k := 1) (n := 9) (Nat.le_of_ble_eq_true rfl) (Nat.le_of_ble_eq_true rfl) ?_
      exact z_iret hM hlk hr rfl hW hS ⟨(by subst hB1; unfold r_X7_write; rw [oel_s hq_2, pif_neg h_18]; first | done | rfl), (by subst hB1; unfold s_X7_write; rw [oel_s hq_2, pif_neg h_18]; first | done | rfl), (Or.inr ⟨q2, rfl, hno, ha2, hx1, by subst hB1; rfl⟩)⟩ dX7_write_55
    ·
      refine lv_iconst (v := (-1)) hM.1 hM.2.1 dX7_write_21 (by decide) ?_
      refine W.widen (k := 1) (n := 9) (Nat.le_of_ble_eq_true rfl) (Nat.le_of_ble_eq_true rfl) ?_
      exact z_iret hM hlk hr rfl hW hS ⟨(by unfold r_X7_write; rw [oel_s hq_2, pif_pos h_18]; first | done | rfl), (by unfold s_X7_write; rw [oel_s hq_2, pif_pos h_18]; first | done | rfl), (Or.inl ⟨rfl, rfl⟩)⟩ dX7_write_22
