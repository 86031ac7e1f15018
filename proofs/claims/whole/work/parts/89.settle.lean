theorem Cx.cI {n tc ac cn : Nat} {Z : zZ} {S M : zS} (h : Cx n tc ac cn Z S M) : cI n Z S := ⟨h.1, ⟨cn, h.cm, h.cn⟩, h.2.1.2.2.2.2.2.2⟩
theorem b16_N {tc : Nat} {x : Int32} (h : ivN tc x) (ht : tc ≤ 16) : b16 x ∧ x < 16 := by
  obtain ⟨t, h1, h2⟩ := h
  refine ⟨⟨?_, ?_⟩, ?_⟩
  · rw [h2, ix_nI (by omega)]
  · rw [h2, ix_nI (by omega)]; omega
  · rw [h2]; exact nI_lt (b := 16) (by omega) (by decide)
theorem Cx.mI {n tc ac cn : Nat} {Z Zm : zZ} {S M : zS} (h : Cx n tc ac cn Z S M) (hO : mOK Zm M.2.2) : mI n Zm M := by
  have hcm := h.cm
  have hn7 := h.n7
  have htc := h.2.1.1.2.1
  have hac := h.2.1.1.2.2.1
  have ha : gi M 8 0 29 = nI ac := h.2.2.1.2.2.1.symm.trans h.2.1.1.2.2.2.2.2.1
  have ht : gi M 8 0 10 = nI tc := h.2.2.1.2.1.symm.trans h.2.1.1.2.2.2.2.1
  refine ⟨hO, ⟨h.1.n1, hn7, h.mn⟩, cnI hcm h.mcn, h.2.2.2.2.2.2.2.2.2, fun k hk => ?_, fun c hc => ?_, ?_, ?_⟩
  · rw [h.mcn, ix_nI (by omega)] at hk
    obtain ⟨e1, e2, e3, e4, e5, e6, e7, e8, e9, e10, e11⟩ := h.2.2.2.2.2.2.2.2.1 k hk
    obtain ⟨k0, c, a, k1, k2, k3, k4, k5, k6, k7, k8, k9⟩ := h.2.1.2.2.2.2.2.1 k hk
    refine ⟨by rw [← e1, k4]; exact vin_nI rfl (by omega) (by omega), by rw [← e2, k5]; exact vin_nI rfl k2 (by omega), ?_⟩
    by_cases hz : gi S 4 (pmR S.2.2 k) 1 = 0
    · rw [(e10 hz).2.1, (e10 hz).2.2]
      exact ⟨⟨rfl, by decide⟩, by decide⟩
    · rw [← (e11 hz).1, ← (e11 hz).2]
      exact ⟨(b16_N (k8 hz).1 htc.2).1, (b16_N (k8 hz).2 htc.2).2⟩
  · obtain ⟨q1, q2, q3, q4, q5, q6⟩ := h.c1 hc
    obtain ⟨i1, i2, i3, i4⟩ := h.ic hc
    refine ⟨by rw [← q4]; exact (b16_N i2 htc.2).1, by rw [← q5]; exact (b16_N i3 htc.2).2, fun hd => ?_⟩
    rcases h.doing hc with ⟨d1, d2, d3⟩ | ⟨a, d0, dc, d1, d2, d3, d4⟩
    · rw [d2] at hd
      exact absurd (by decide) hd
    · have aq := (h.a1 d0).2.2.2.2.2.2.2.1
      have iv := h.ia d0
      rw [d2, ix_nI (by omega), ← aq]
      refine ⟨vin_nI rfl (by omega) (by omega), ?_, fun _ => ?_, fun n1 n2 n3 => ?_⟩
      · rcases iv with e | ⟨t, t1, t2⟩
        · rw [e]; decide
        · rw [t2, ix_nI (by omega)]; omega
      · rcases iv with e | ⟨t, t1, t2⟩
        · rw [e]; decide
        · rw [t2]
          by_cases t0 : t = 0
          · subst t0; decide
          · rw [nI_sub1 (by omega) (by omega)]; exact nI_lt (b := 16) (by omega) (by decide)
      · obtain ⟨-, -, φ, r, b, f1, f2, f3, f4, f5, f6, f7, f8⟩ := i4 a d1
        rw [← q1, f1] at n1 n2 n3
        rcases f7 with f7 | f7
        · exfalso
          have : φ = 1 ∨ φ = 2 := by omega
          rcases this with rfl | rfl
          · exact n1 rfl
          · exact n2 rfl
        · exact (b16_N f7.2.2 htc.2).1
  · rw [ha, ix_nI (by omega)]; exact ⟨rfl, hac⟩
  · rw [ht, ix_nI (by omega)]; exact ⟨rfl, htc⟩
theorem settle_eq {n tc ac X : Nat} {Z : zZ} (hX : X < 2 ^ 31) : ∀ (F k m cn : Nat) (S M : zS), Cx n tc ac cn Z S M → k ≤ 300 → (∀ i, i < k → i < cn → r_X8_canBe M i = 0) → m ≤ X → 301 - k + pot M ≤ F →
    ∃ cn2, Cx n tc ac cn2 Z (lSet n (nI X) F (nI k) (nI m) S).1 (lSt n (X - m) m M).1 ∧ (lSet n (nI X) F (nI k) (nI m) S).2 = (lSt n (X - m) m M).2 := by
  intro F
  induction F with
  | zero => intro k m cn S M h hk _ _ hF; omega
  | succ F ih =>
    intro k m cn S M h hk hlow hm hF
    have hcm := h.cm
    have eL : lSet n (nI X) (F + 1) (nI k) (nI m) S = pif ((nI X) ≤ (nI m)) (S, nI m) (pif ((gi S 1 (0) (2)) ≤ (nI k)) (S, nI m) (pif ((r_X7_deliver S n (nI k)) = (0)) (lSet n (nI X) F (nI k + 1) (nI m) (s_X7_deliver S n (nI k))) (lSet n (nI X) F (nI k) (nI m + 1) (s_X7_deliver S n (nI k))))) := rfl
    rw [eL]
    by_cases hmX : m = X
    · subst hmX
      rw [pif_pos (Int32.le_refl _), Nat.sub_self]
      exact ⟨cn, h, rfl⟩
    · rw [pif_neg (nI_ge (by omega) hX)]
      obtain ⟨g, hg⟩ : ∃ g, X - m = g + 1 := ⟨X - m - 1, by omega⟩
      rw [hg]
      have eM : lSt n (g + 1) m M = pif (mFst M < ix (gi M 8 0 44)) (pif ((r_X8_deliver M n (mFst M)) = (0)) (s_X8_deliver M n (mFst M), nI m) (lSt n g (m + 1) (s_X8_deliver M n (mFst M)))) (M, nI m) := rfl
      have hcx : ix (gi M 8 0 44) = cn := by rw [h.mcn, ix_nI (by omega)]
      by_cases hkc : k < cn
      · rw [pif_neg (by rw [h.cn]; exact nI_ge hkc (by omega))]
        obtain ⟨d1, cn2, d2, d3⟩ := x_deliver h hkc
        by_cases hcb : r_X8_canBe M k = 0
        · have e1 : r_X8_deliver M n k = 0 := by unfold r_X8_deliver; rw [pif_pos hcb]
          have e2 : s_X7_deliver S n (nI k) = S := by
            unfold s_X7_deliver
            rw [oel_s (rAt_nI h.cn hcm hkc), x_pass h hkc, pif_pos hcb]
          rw [pif_pos (d1.trans e1), e2, nI_1, ← hg]
          refine ih (k + 1) m cn S M h (by omega) (fun i q1 q2 => ?_) hm (by omega)
          by_cases e : i = k
          · subst e; exact hcb
          · exact hlow i (by omega) q2
        · have e1 : ¬ r_X8_deliver M n k = 0 := by unfold r_X8_deliver; rw [pif_neg hcb, pif_same]; decide
          have e3 : mFst M = k := by
            unfold mFst
            rw [hcx]
            exact lF_first hcb cn 0 (by omega) (by omega) (fun i _ q => hlow i q (by omega))
          rw [pif_neg (by rw [d1]; exact e1), eM, e3, hcx, pif_pos hkc, pif_neg e1, nI_1]
          have hw := lw_deliver (n := n) hkc h.mcn hcm
          have hp := d3.elim (fun q => absurd q hcb) (fun q => q)
          have := ih k (m + 1) cn2 _ _ d2 hk (fun i q1 q2 => by rw [lw_can hw q1]; exact hlow i q1 (by omega)) (by omega) (by omega)
          rw [show X - (m + 1) = g by omega] at this
          exact this
      · rw [pif_pos (by rw [h.cn]; exact nI_le (by omega) (by omega))]
        have e3 : mFst M = cn := by
          unfold mFst
          rw [hcx, lF_none cn 0 (fun i _ q => hlow i (by omega) (by omega))]
          omega
        rw [eM, e3, hcx, pif_neg (by omega)]
        exact ⟨cn, h, rfl⟩
theorem x_settle {n tc ac cn : Nat} {Z : zZ} {S M : zS} {x : Int32} (h : Cx n tc ac cn Z S M) : r_X7_settle S n x = r_X8_settle M n x ∧ ∃ cn2, Cx n tc ac cn2 Z (s_X7_settle S n x) (s_X8_settle M n x) := by
  unfold r_X7_settle r_X8_settle s_X7_settle s_X8_settle
  by_cases h0 : 0 ≤ x
  · rw [pif_pos h0, pif_pos h0, pif_pos h0, pif_pos h0]
    have hx0 : ¬ x < 0 := Int32.not_lt.mpr h0
    have hx := (nI_ix hx0).symm
    have hb : ix x < 2 ^ 31 := by
      have := Int32.toInt_lt x
      have := toInt_nn hx0
      omega
    have hp := pot_le h.mcn h.cm
    obtain ⟨cn2, g1, g2⟩ := settle_eq (X := ix x) hb 1000000 0 0 cn S M h (by omega) (fun i q _ => absurd q (by omega)) (by omega) (by omega)
    rw [← hx, Nat.sub_zero] at g1 g2
    exact ⟨g2, cn2, g1⟩
  · rw [pif_neg h0, pif_neg h0, pif_neg h0, pif_neg h0]
    exact ⟨rfl, cn, h⟩
/-- the invariant of settle, of the class and of the reference -/
def setC (n tc ac : Nat) (Z : zZ) (S : zS) : Prop := ∃ cn M, Cx n tc ac cn Z S M
def setM (n tc ac : Nat) (Z Zm : zZ) (M : zS) : Prop := (∃ cn S, Cx n tc ac cn Z S M) ∧ mOK Zm M.2.2
theorem setC_d {n tc ac : Nat} {Z : zZ} {S : zS} {y : Int32} (h : setC n tc ac Z S) : setC n tc ac Z (s_X7_deliver S n y) := by
  obtain ⟨cn, M, h⟩ := h
  rcases air_cases h y with ⟨e1, -⟩ | ⟨i, hi, hx, -⟩
  · rw [(x_deliver_n h e1).2]; exact ⟨cn, M, h⟩
  · rw [hx]
    obtain ⟨-, cn2, d2, -⟩ := x_deliver h hi
    exact ⟨cn2, _, d2⟩
theorem setM_d {n tc ac k : Nat} {Z Zm : zZ} {M : zS} (h : setM n tc ac Z Zm M) (hk : k < ix (gi M 8 0 44)) : setM n tc ac Z Zm (s_X8_deliver M n k) := by
  obtain ⟨⟨cn, S, h⟩, hO⟩ := h
  have hcm := h.cm
  rw [h.mcn, ix_nI (by omega)] at hk
  obtain ⟨-, cn2, d2, -⟩ := x_deliver h hk
  exact ⟨⟨cn2, _, d2⟩, hO.of (lw_deliver hk h.mcn hcm).2.2⟩
