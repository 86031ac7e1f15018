/-! the calls at a place of the air, good or bad, in one form -/
noncomputable def airR (cn : Nat) (x v : Int32) : Int32 := pif (x < 0 ∨ nI cn ≤ x) 0 v
noncomputable def airS (cn : Nat) (x : Int32) (U M : zS) : zS := pif (x < 0 ∨ nI cn ≤ x) M U
theorem air_ok {cn : Nat} {x : Int32} (hcm : cn ≤ 300) (h : ¬ (x < 0 ∨ nI cn ≤ x)) : x = nI (ix x) ∧ ix x < cn := by
  have h0 : ¬ x < 0 := fun q => h (Or.inl q)
  have h1 : ¬ nI cn ≤ x := fun q => h (Or.inr q)
  exact ⟨(nI_ix h0).symm, ix_lt_nI h0 h1 (by omega)⟩
theorem air_no {n tc ac cn : Nat} {Z : zZ} {S M : zS} {x : Int32} (h : Cx n tc ac cn Z S M) (hb : x < 0 ∨ nI cn ≤ x) : r_X1_at S (pmR S.2.2) x = none := by
  rcases air_cases h x with ⟨e1, -⟩ | ⟨i, -, -, -, e2, e3⟩
  · exact e1
  · rcases hb with q | q
    · exact absurd q e2
    · exact absurd e3 (Int32.not_lt.mpr q)
section MA
variable {l : Launch} {D : va_G} {ar : Nat → ClassId} {A : Nat → Prop} {n tc ac cn : Nat} {Z Zm : zZ} {S M : zS} {x : Int32}
theorem m_deliver (h : Cx n tc ac cn Z S M) (hO : mOK Zm M.2.2) : zMet l yX8_deliver prog_10_method_25_code 2 (some .boolean) ({ frames := 5, cells := 0, slots := 0, locals := 138 } : Room) D ar A Zm M [.ref (Zm.1 8 (0)), .int (x)] rvI (zF (airR cn x (r_X8_deliver M n (ix x))) Zm (airS cn x (s_X8_deliver M n (ix x)) M)) := by
  have hcx : ix (gi M 8 0 44) = cn := by rw [h.mcn, ix_nI (by have := h.cm; omega)]
  unfold airR airS
  by_cases hb : x < 0 ∨ nI cn ≤ x
  · rw [pif_pos hb, pif_pos hb]; exact c_X8_deliver_n (h.mI hO) (by rw [hcx]; exact hb)
  · rw [pif_neg hb, pif_neg hb]
    obtain ⟨e1, e2⟩ := air_ok h.cm hb
    have := c_X8_deliver (l := l) (D := D) (ar := ar) (A := A) (k := ix x) (h.mI hO) (by rw [hcx]; exact e2)
    rw [← e1] at this; exact this
theorem m_lose (h : Cx n tc ac cn Z S M) (hO : mOK Zm M.2.2) : zMet l yX8_lose prog_10_method_27_code 2 (some .boolean) ({ frames := 1, cells := 0, slots := 0, locals := 22 } : Room) D ar A Zm M [.ref (Zm.1 8 (0)), .int (x)] rvI (zF (airR cn x (r_X8_lose M n (ix x))) Zm (airS cn x (s_X8_lose M n (ix x)) M)) := by
  have hcx : ix (gi M 8 0 44) = cn := by rw [h.mcn, ix_nI (by have := h.cm; omega)]
  unfold airR airS
  by_cases hb : x < 0 ∨ nI cn ≤ x
  · rw [pif_pos hb, pif_pos hb]; exact c_X8_lose_n (h.mI hO) (by rw [hcx]; exact hb)
  · rw [pif_neg hb, pif_neg hb]
    obtain ⟨e1, e2⟩ := air_ok h.cm hb
    have := c_X8_lose (l := l) (D := D) (ar := ar) (A := A) (k := ix x) (h.mI hO) (by rw [hcx]; exact e2)
    rw [← e1] at this; exact this
theorem m_twice (h : Cx n tc ac cn Z S M) (hO : mOK Zm M.2.2) : zMet l yX8_twice prog_10_method_28_code 2 (some .boolean) ({ frames := 1, cells := 0, slots := 0, locals := 33 } : Room) D ar A Zm M [.ref (Zm.1 8 (0)), .int (x)] rvI (zF (airR cn x (r_X8_twice M n (ix x))) Zm (airS cn x (s_X8_twice M n (ix x)) M)) := by
  have hcx : ix (gi M 8 0 44) = cn := by rw [h.mcn, ix_nI (by have := h.cm; omega)]
  unfold airR airS
  by_cases hb : x < 0 ∨ nI cn ≤ x
  · rw [pif_pos hb, pif_pos hb]; exact c_X8_twice_n (h.mI hO) (by rw [hcx]; exact hb)
  · rw [pif_neg hb, pif_neg hb]
    obtain ⟨e1, e2⟩ := air_ok h.cm hb
    have := c_X8_twice (l := l) (D := D) (ar := ar) (A := A) (k := ix x) (h.mI hO) (by rw [hcx]; exact e2)
    rw [← e1] at this; exact this
theorem y_deliver (h : Cx n tc ac cn Z S M) : r_X7_deliver S n x = airR cn x (r_X8_deliver M n (ix x)) ∧ ∃ cn2, Cx n tc ac cn2 Z (s_X7_deliver S n x) (airS cn x (s_X8_deliver M n (ix x)) M) := by
  unfold airR airS
  by_cases hb : x < 0 ∨ nI cn ≤ x
  · rw [pif_pos hb, pif_pos hb, (x_deliver_n h (air_no h hb)).1, (x_deliver_n h (air_no h hb)).2]; exact ⟨rfl, cn, h⟩
  · rw [pif_neg hb, pif_neg hb]
    obtain ⟨e1, e2⟩ := air_ok h.cm hb
    obtain ⟨d1, cn2, d2, -⟩ := x_deliver h e2
    rw [← e1] at d1 d2
    exact ⟨d1, cn2, d2⟩
theorem y_lose (h : Cx n tc ac cn Z S M) : r_X7_lose S n x = airR cn x (r_X8_lose M n (ix x)) ∧ ∃ cn2, Cx n tc ac cn2 Z (s_X7_lose S n x) (airS cn x (s_X8_lose M n (ix x)) M) := by
  unfold airR airS
  by_cases hb : x < 0 ∨ nI cn ≤ x
  · rw [pif_pos hb, pif_pos hb, (x_lose_n h (air_no h hb)).1, (x_lose_n h (air_no h hb)).2]; exact ⟨rfl, cn, h⟩
  · rw [pif_neg hb, pif_neg hb]
    obtain ⟨e1, e2⟩ := air_ok h.cm hb
    obtain ⟨d1, d2⟩ := x_lose h e2
    rw [← e1] at d1 d2
    exact ⟨d1, cn - 1, d2⟩
theorem y_twice (h : Cx n tc ac cn Z S M) : r_X7_twice S n x = airR cn x (r_X8_twice M n (ix x)) ∧ ∃ cn2, Cx n tc ac cn2 Z (s_X7_twice S n x) (airS cn x (s_X8_twice M n (ix x)) M) := by
  unfold airR airS
  by_cases hb : x < 0 ∨ nI cn ≤ x
  · rw [pif_pos hb, pif_pos hb, (x_twice_n h (air_no h hb)).1, (x_twice_n h (air_no h hb)).2]; exact ⟨rfl, cn, h⟩
  · rw [pif_neg hb, pif_neg hb]
    obtain ⟨e1, e2⟩ := air_ok h.cm hb
    obtain ⟨d1, cn2, d2⟩ := x_twice h e2
    rw [← e1] at d1 d2
    exact ⟨d1, cn2, d2⟩
end MA
theorem kq_air {cn : Nat} {x : Int32} {U M : zS} (h : kq U M) : kq (airS cn x U M) M := kq_pif rfl h
/-- between two calls -/
def lwI (lo n : Nat) (D : va_G) (ar : Nat → ClassId) (Zc Zm : zZ) (S M : zS) (H : Heap) : Prop := lwW lo D ar Zc Zm S M H ∧ (∃ tc ac cn, Cx n tc ac cn Zc S M ∧ frs tc ac Zc) ∧ mOK Zm M.2.2
theorem Cx.c0 {n tc ac cn : Nat} {Z : zZ} {S M : zS} (h : Cx n tc ac cn Z S M) : ¬ gi S 1 0 2 < 0 := by rw [h.cn]; exact nI_pos (by have := h.cm; omega)
theorem Cx.tcs {n tc ac cn : Nat} {Z : zZ} {S M : zS} (h : Cx n tc ac cn Z S M) : gi S 7 0 6 = nI tc ∧ gi M 8 0 10 = nI tc ∧ tc ≤ 16 ∧ gi M 8 0 29 = nI ac := ⟨h.2.1.1.2.2.2.2.1, h.2.2.1.2.1.symm.trans h.2.1.1.2.2.2.2.1, h.2.1.1.2.1.2, h.2.2.1.2.2.1.symm.trans h.acs.1⟩
theorem law_in {i k L : Nat} (h : i + 4 ≤ L) (hL : L ≤ 2049) (hk : k < 4) : vp_in (nI i + nI k) L := by
  rw [← nI_ad]; exact nI_in (by omega) (by omega)
theorem lg_same (x : Int64) : lg_cmp x x = 0 := by
  unfold lg_cmp
  simp
