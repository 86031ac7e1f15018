theorem x_copy {n tc ac cn : Nat} {Z : zZ} {S M : zS} {x y : Int32} (h : Cx n tc ac cn Z S M) : r_X7_copy S n x y = r_X8_copy M n x y := by
  unfold r_X7_copy r_X8_copy
  rcases copy_cases h.mn h.n7 x with ⟨e1, e2, e3⟩ | ⟨q, hq, hx, e1, e2, e3, e4⟩
  · rw [pif_pos e2, oel_n e1]
  · obtain ⟨q1, q2, q3, q4, q5, q6, q7, q8⟩ := h.2.2.2.1 q hq
    rw [pif_neg e2, oel_s e1, hx, ix_nI (by have := h.n7; omega), q1, q2, q4, q5, q6, q7]
theorem x_kept {n tc ac cn : Nat} {Z : zZ} {S M : zS} {x : Int32} (h : Cx n tc ac cn Z S M) : r_X7_kept S n x = r_X8_kept M n x := by
  unfold r_X7_kept r_X8_kept
  rcases copy_cases h.mn h.n7 x with ⟨e1, e2, e3⟩ | ⟨q, hq, hx, e1, e2, e3, e4⟩
  · rw [pif_pos e2, oel_n e1]
  · obtain ⟨q1, q2, q3, q4, q5, q6, q7, q8⟩ := h.2.2.2.1 q hq
    rw [pif_neg e2, oel_s e1, hx, ix_nI (by have := h.n7; omega), q3]
theorem x_client {n tc ac cn : Nat} {Z : zZ} {S M : zS} {x y : Int32} (h : Cx n tc ac cn Z S M) : r_X7_client S n x y = r_X8_client M x y := by
  unfold r_X7_client r_X8_client
  rcases client_cases (M := M) x with ⟨c1, c2⟩ | ⟨q, hq, hx, c1, c2, c3⟩
  · rw [oel_n c1, pif_pos c2]
  · obtain ⟨q1, q2, q3, q4, q5, q6⟩ := h.2.2.2.2.2.1 q hq
    rw [oel_s c1, pif_neg c2, hx, ix_nI (by omega), q1, q3, q4, q5, q6]
    rcases h.doing hq with ⟨d1, d2, d3⟩ | ⟨a, d0, dc, d1, d2, d3, d4⟩
    · rw [oel_n d1, d2]
    · rw [oel_s d1, d2, d4]
theorem x_about {n tc ac cn : Nat} {Z : zZ} {S M : zS} {x : Int32} (h : Cx n tc ac cn Z S M) : r_X7_about S n x = r_X8_about M x := by
  obtain ⟨a1, a2, a3, a4, a5, a6⟩ := h.2.2.1
  unfold r_X7_about r_X8_about
  rw [a1, a2, a3, a4, a5, a6]
theorem x_air {n tc ac cn : Nat} {Z : zZ} {S M : zS} {x y : Int32} (h : Cx n tc ac cn Z S M) : r_X7_air S n x y = r_X8_air M cn x y := by
  have hcm := h.cm
  unfold r_X7_air r_X8_air
  rcases air_cases h x with ⟨e1, e2⟩ | ⟨i, hi, hx, e1, e2, e3⟩
  · rw [oel_n e1]
    rcases e2 with e2 | e2
    · rw [pif_pos e2]
    · rw [pif_neg (show ¬ x < nI cn from Int32.not_lt.mpr e2), pif_same]
  · obtain ⟨q1, q2, q3, q4, q5, q6, q7, q8, q9, q10, q11⟩ := h.2.2.2.2.2.2.2.2.1 i hi
    rw [oel_s e1, pif_neg e2, pif_pos e3, hx, ix_nI (by omega), ← q9]
    by_cases hb : gi S 4 (pmR S.2.2 i) 1 = 0
    · rw [pif_pos hb, pif_pos hb, q1, q2, q3, q4, q5, q6, q7, (q10 hb).1]
    · rw [pif_neg hb, pif_neg hb, q1, q2, q3, q4, q5, q6, q7, (q11 hb).2]
/-- a number of an act: none such, or act a + 1 -/
theorem act_cases {n tc ac cn : Nat} {Z : zZ} {S M : zS} (h : Cx n tc ac cn Z S M) (x : Int32) : (acAt S x = none ∧ r_X8_isAct M x = 0) ∨ ∃ a, a < ac ∧ x = nI (a + 1) ∧ acAt S x = some a ∧ ¬ r_X8_isAct M x = 0 := by
  have hac := h.2.1.1.2.2.1
  have hm : gi M 8 0 29 = nI ac := h.2.2.1.2.2.1.symm.trans h.2.1.1.2.2.2.2.2.1
  obtain ⟨-, -, r1, r2⟩ := h.2.1.2.2.1
  have e200 : nI 200 = 200 := rfl
  unfold acAt r_X8_isAct
  rw [hm]
  by_cases h1 : x < 1
  · exact Or.inl ⟨by rw [pif_pos h1], by rw [pif_pos h1]⟩
  · obtain ⟨p1, p2⟩ := ix_pred h1
    have hx0 : ¬ x < 0 := fun q => by
      rw [Int32.lt_iff_toInt_lt, Int32.toInt_zero] at q
      rw [Int32.lt_iff_toInt_lt, Int32.toInt_one] at h1
      omega
    have hx := (nI_ix hx0).symm
    have hb : ix x < 2 ^ 31 := by
      have := Int32.toInt_lt x
      have := toInt_nn hx0
      omega
    rw [pif_neg h1, pif_neg h1]
    by_cases h2 : 200 < x
    · refine Or.inl ⟨by rw [pif_pos h2], ?_⟩
      rw [pif_pos]
      rw [hx, ← e200, nI_ltI (by decide) hb] at h2
      rw [hx, nI_ltI (by omega) hb]
      omega
    · rw [pif_neg h2]
      have h3 : ix x ≤ 200 := by
        rw [hx, ← e200, nI_ltI (by decide) hb] at h2
        omega
      by_cases h4 : ix x ≤ ac
      · refine Or.inr ⟨ix (x - 1), by omega, by rw [p1]; exact hx, r1 _ (by omega), ?_⟩
        rw [pif_neg]
        · decide
        · rw [hx, nI_ltI (by omega) hb]; omega
      · refine Or.inl ⟨r2 _ (by omega) (by omega), ?_⟩
        rw [pif_pos]
        rw [hx, nI_ltI (by omega) hb]; omega
theorem x_act {n tc ac cn a0 : Nat} {Z : zZ} {S M : zS} {x y : Int32} (h : Cx n tc ac cn Z S M) : r_X7_act S n x y = r_X8_act M a0 x y := by
  have hac := h.2.1.1.2.2.1
  unfold r_X7_act r_X8_act
  rcases act_cases h x with ⟨e1, e2⟩ | ⟨a, ha, hx, e1, e2⟩
  · rw [oel_n e1, pif_pos e2]
  · obtain ⟨q0, q1, q2, q3, q4, q5, q6, q7, q8⟩ := h.2.2.2.2.2.2.2.1 a ha
    rw [oel_s e1, pif_neg e2, hx, ix_nI (by omega), q1, q2, q3, q4, q5, q6, q7]
theorem x_value {n tc ac cn a0 : Nat} {Z : zZ} {S M : zS} {x : Int32} (h : Cx n tc ac cn Z S M) : r_X7_value S n x = r_X8_value M a0 x := by
  have hac := h.2.1.1.2.2.1
  unfold r_X7_value r_X8_value
  rcases act_cases h x with ⟨e1, e2⟩ | ⟨a, ha, hx, e1, e2⟩
  · rw [oel_n e1, pif_pos e2]
  · obtain ⟨q0, q1, q2, q3, q4, q5, q6, q7, q8⟩ := h.2.2.2.2.2.2.2.1 a ha
    rw [oel_s e1, pif_neg e2, hx, ix_nI (by omega), q8]
/-- a number of a table: none such, or table t -/
theorem tab_cases {n tc ac cn : Nat} {Z : zZ} {S M : zS} (h : Cx n tc ac cn Z S M) (x : Int32) : (tbAt S x = none ∧ (x < 0 ∨ nI tc ≤ x)) ∨ ∃ t, t < tc ∧ x = nI t ∧ tbAt S x = some t ∧ ¬ x < 0 ∧ ¬ nI tc ≤ x := by
  have htc := h.2.1.1.2.1.2
  obtain ⟨r1, r2, -, -⟩ := h.2.1.2.2.1
  have e16 : nI 16 = 16 := rfl
  unfold tbAt
  by_cases h0 : x < 0
  · exact Or.inl ⟨by rw [pif_pos h0], Or.inl h0⟩
  · have hx := (nI_ix h0).symm
    have hb : ix x < 2 ^ 31 := by
      have := Int32.toInt_lt x
      have := toInt_nn h0
      omega
    rw [pif_neg h0]
    by_cases h2 : 16 ≤ x
    · refine Or.inl ⟨by rw [pif_pos h2], Or.inr ?_⟩
      rw [hx, ← e16, nI_leI (by decide) hb] at h2
      rw [hx, nI_leI (by omega) hb]; omega
    · rw [pif_neg h2]
      have h3 : ix x < 16 := by
        rw [hx, ← e16, nI_leI (by decide) hb] at h2
        omega
      by_cases h4 : ix x < tc
      · refine Or.inr ⟨ix x, h4, hx, r1 _ h4, h0, ?_⟩
        rw [hx, nI_leI (by omega) hb]; omega
      · refine Or.inl ⟨r2 _ (by omega) h3, Or.inr ?_⟩
        rw [hx, nI_leI (by omega) hb]; omega
theorem x_table {n tc ac cn : Nat} {Z : zZ} {S M : zS} {x y : Int32} (h : Cx n tc ac cn Z S M) : r_X7_table S n x y = r_X8_table M n x y := by
  have htc := h.2.1.1.2.1.2
  have hn7 := h.n7
  have hm : gi M 8 0 10 = nI tc := h.2.2.1.2.1.symm.trans h.2.1.1.2.2.2.2.1
  have e8 : nI 8 = 8 := rfl
  have e7 : nI 7 = 7 := rfl
  unfold r_X7_table r_X8_table
  rw [hm, ix_nI (by omega)]
  rcases tab_cases h x with ⟨e1, e2⟩ | ⟨t, ht, hx, e1, e2, e3⟩
  · rw [oel_n e1]
    rcases e2 with e2 | e2
    · rw [pif_pos e2]
    · rw [pif_pos e2, pif_same]
  · obtain ⟨g1, g2, g3⟩ := h.2.2.2.2.1 t ht
    rw [oel_s e1, pif_neg e2, pif_neg e3]
    by_cases h0 : y < 0
    · have n7 : ¬ y = 7 := fun q => by rw [q] at h0; exact absurd h0 (by decide)
      have n8 : ¬ y = 8 := fun q => by rw [q] at h0; exact absurd h0 (by decide)
      rw [pif_pos h0, pif_pos h0, pif_neg n7, pif_neg n8]
    · rw [pif_neg h0, pif_neg h0]
      have hy := (nI_ix h0).symm
      have hb : ix y < 2 ^ 31 := by
        have := Int32.toInt_lt y
        have := toInt_nn h0
        omega
      have hix : ∀ w, w < 9 → ix (9 * x + nI w) = 9 * t + w := fun w hw => by
        rw [hx, nI_m9, ← nI_ad, ix_nI (by omega)]
      generalize ix y = w at *
      subst hy
      by_cases h1 : nI n ≤ nI w
      · rw [pif_pos h1]
        have h1' := (nI_leI (by omega) hb).mp h1
        by_cases h7 : w = 7
        · subst h7
          rw [pif_pos (by decide), pif_pos (by decide), pif_pos (by decide), hix 7 (by omega), g2]
        · by_cases h8 : w = 8
          · subst h8
            rw [pif_neg (by decide), pif_pos (by decide), pif_pos (by decide), pif_pos (by decide), hix 8 (by omega), g3]
          · have n7 : ¬ nI w = 7 := by rw [← e7, nI_eq hb (by decide)]; exact h7
            have n8 : ¬ nI w = 8 := by rw [← e8, nI_eq hb (by decide)]; exact h8
            rw [pif_neg n7, pif_neg n8]
            by_cases h9 : nI w ≤ 8
            · have h9' : w ≤ 8 := by rw [← e8, nI_leI hb (by decide)] at h9; exact h9
              have n7' : ¬ (7 : Int32) ≤ nI w := by rw [← e7, nI_leI (by decide) hb]; omega
              have nn : ¬ nI w < nI n := by rw [nI_ltI hb (by omega)]; omega
              rw [pif_pos h9, pif_neg n7', pif_neg nn]
            · rw [pif_neg h9]
      · rw [pif_neg h1]
        have h1' : w < n := by rw [nI_leI (by omega) hb] at h1; omega
        have h9 : nI w ≤ 8 := by rw [← e8, nI_leI hb (by decide)]; omega
        have n7' : ¬ (7 : Int32) ≤ nI w := by rw [← e7, nI_leI (by decide) hb]; omega
        have nn : nI w < nI n := by rw [nI_ltI hb (by omega)]; omega
        rw [pif_pos h9, pif_neg n7', pif_pos nn, hix w (by omega), g1 w h1']
