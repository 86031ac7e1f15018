theorem copy_cases {n : Nat} {M : zS} (hn : gi M 8 0 0 = nI n) (h7 : n ≤ 7) (x : Int32) : (atI n x = none ∧ r_X8_isCopy M x = 0 ∧ (x < 0 ∨ nI n ≤ x)) ∨ ∃ q, q < n ∧ x = nI q ∧ atI n x = some q ∧ ¬ r_X8_isCopy M x = 0 ∧ ¬ x < 0 ∧ ¬ nI n ≤ x := by
  unfold atI r_X8_isCopy
  rw [hn]
  by_cases h0 : x < 0
  · exact Or.inl ⟨by rw [pif_pos h0], by rw [pif_pos h0], Or.inl h0⟩
  · by_cases h1 : nI n ≤ x
    · exact Or.inl ⟨by rw [pif_neg h0, pif_pos h1], by rw [pif_neg h0, pif_pos h1], Or.inr h1⟩
    · exact Or.inr ⟨ix x, ix_lt_nI h0 h1 (by omega), (nI_ix h0).symm, by rw [pif_neg h0, pif_neg h1], by rw [pif_neg h0, pif_neg h1]; decide, h0, h1⟩
theorem client_cases {M : zS} (x : Int32) : (atI 4 x = none ∧ r_X8_isClient M x = 0) ∨ ∃ q, q < 4 ∧ x = nI q ∧ atI 4 x = some q ∧ ¬ r_X8_isClient M x = 0 ∧ ¬ x < 0 := by
  have e4 : nI 4 = 4 := rfl
  unfold atI r_X8_isClient
  rw [e4]
  by_cases h0 : x < 0
  · exact Or.inl ⟨by rw [pif_pos h0], by rw [pif_pos h0]⟩
  · by_cases h1 : 4 ≤ x
    · exact Or.inl ⟨by rw [pif_neg h0, pif_pos h1], by rw [pif_neg h0, pif_pos h1]⟩
    · exact Or.inr ⟨ix x, ix_lt_nI (n := 4) h0 h1 (by decide), (nI_ix h0).symm, by rw [pif_neg h0, pif_neg h1], by rw [pif_neg h0, pif_neg h1]; decide, h0⟩
theorem Cx.n7 {n tc ac cn : Nat} {Z : zZ} {S M : zS} (h : Cx n tc ac cn Z S M) : n ≤ 7 := h.1.n7
theorem Cx.mn {n tc ac cn : Nat} {Z : zZ} {S M : zS} (h : Cx n tc ac cn Z S M) : gi M 8 0 0 = nI n := h.2.2.1.1
theorem Cx.votes {n tc ac cn k : Nat} {Z : zZ} {S M : zS} {y : Int32} (h : Cx n tc ac cn Z S M) : Cx n tc ac cn Z (si S 9 0 k y) (si M 9 109 k y) := by
  obtain ⟨hV, hI, ⟨g1, g2, g3, g4, g5, g6, g7, g8⟩⟩ := h
  refine ⟨hV, hI, ⟨g1, fun k' hk => ?_, fun t ht => ?_, g4, g5, g6, g7, g8⟩⟩
  · obtain ⟨q1, q2, q3, q4, q5, q6, q7, q8⟩ := g2 k' hk
    refine ⟨q1, q2, q3, q4, q5, q6, q7, ?_⟩
    rw [gi_si, gi_si]
    by_cases e : k' = k
    · rw [if_pos ⟨rfl, rfl, e⟩, if_pos ⟨rfl, rfl, e⟩]
    · rw [if_neg (by omega), if_neg (by omega)]; exact q8
  · exact (g3 t ht).tr (fun f => by rw [gi_si, if_neg (by omega)]) (fun f => by rw [gi_si, if_neg (by omega)]) (fun x _ => by rw [gi_si, if_neg (by omega)]) hV.n7
theorem Cx.silent {n tc ac cn k : Nat} {Z : zZ} {S M : zS} {y : Int32} (h : Cx n tc ac cn Z S M) : Cx n tc ac cn Z (si S 3 k 3 y) (si M 11 107 k y) := by
  obtain ⟨hV, hI, ⟨g1, g2, g3, g4, g5, g6, g7, g8⟩⟩ := h
  refine ⟨hV, hI, ⟨g1, fun k' hk => ?_, g3, g4, g5, g6, g7, g8⟩⟩
  obtain ⟨q1, q2, q3, q4, q5, q6, q7, q8⟩ := g2 k' hk
  refine ⟨q1, q2, q3, q4, q5, q6, ?_, q8⟩
  rw [gi_si, gi_si]
  by_cases e : k' = k
  · rw [if_pos ⟨rfl, e, rfl⟩, if_pos ⟨rfl, rfl, e⟩]
  · rw [if_neg (by omega), if_neg (by omega)]; exact q7
theorem Cx.side {n tc ac cn k : Nat} {Z : zZ} {S M : zS} {y : Int32} (h : Cx n tc ac cn Z S M) : Cx n tc ac cn Z (si S 3 k 4 y) (si M 9 106 k y) := by
  obtain ⟨hV, hI, ⟨g1, g2, g3, g4, g5, g6, g7, g8⟩⟩ := h
  refine ⟨hV, hI, ⟨g1, fun k' hk => ?_, g3, g4, g5, g6, g7, g8⟩⟩
  obtain ⟨q1, q2, q3, q4, q5, q6, q7, q8⟩ := g2 k' hk
  refine ⟨q1, q2, q3, q4, q5, ?_, q7, q8⟩
  rw [gi_si, gi_si]
  by_cases e : k' = k
  · rw [if_pos ⟨rfl, e, rfl⟩, if_pos ⟨rfl, rfl, e⟩]
  · rw [if_neg (by omega), if_neg (by omega)]; exact q6
theorem Cx.cside {n tc ac cn c : Nat} {Z : zZ} {S M : zS} {y : Int32} (h : Cx n tc ac cn Z S M) : Cx n tc ac cn Z (si S 2 c 8 y) (si M 9 116 c y) := by
  obtain ⟨hV, hI, ⟨g1, g2, g3, g4, g5, g6, g7, g8⟩⟩ := h
  refine ⟨hV, hI, ⟨g1, g2, g3, fun c' hc => ?_, g5, g6, g7, g8⟩⟩
  obtain ⟨q1, q2, q3, q4, q5, q6⟩ := g4 c' hc
  refine ⟨q1, q2, q3, q4, q5, ?_⟩
  rw [gi_si, gi_si]
  by_cases e : c' = c
  · rw [if_pos ⟨rfl, e, rfl⟩, if_pos ⟨rfl, rfl, e⟩]
  · rw [if_neg (by omega), if_neg (by omega)]; exact q6
theorem x_votes {n tc ac cn : Nat} {Z : zZ} {S M : zS} {x y : Int32} (h : Cx n tc ac cn Z S M) : r_X7_votes S n x y = r_X8_votes M n x y ∧ Cx n tc ac cn Z (s_X7_votes S n x y) (s_X8_votes M n x y) := by
  unfold r_X7_votes r_X8_votes s_X7_votes s_X8_votes
  rcases copy_cases h.mn h.n7 x with ⟨-, e2, e3⟩ | ⟨q, hq, hx, -, e2, e3, e4⟩
  · rw [pif_pos e2, pif_pos e2]
    rcases e3 with e3 | e3
    · rw [pif_pos e3, pif_pos e3]; exact ⟨rfl, h⟩
    · rw [pif_pos e3, pif_pos e3, pif_same, pif_same]; exact ⟨rfl, h⟩
  · rw [pif_neg e3, pif_neg e4, pif_neg e2, pif_neg e3, pif_neg e4, pif_neg e2]
    refine ⟨rfl, ?_⟩
    by_cases h1 : y < 0
    · rw [pif_pos h1, pif_pos h1]; exact h
    · rw [pif_neg h1, pif_neg h1]
      by_cases h2 : y ≤ 9
      · rw [pif_pos h2, pif_pos h2]; exact h.votes
      · rw [pif_neg h2, pif_neg h2]; exact h
theorem x_silent {n tc ac cn : Nat} {Z : zZ} {S M : zS} {x y : Int32} (h : Cx n tc ac cn Z S M) : r_X7_silent S n x y = r_X8_silent M n x y ∧ Cx n tc ac cn Z (s_X7_silent S n x y) (s_X8_silent M n x y) := by
  unfold r_X7_silent r_X8_silent s_X7_silent s_X8_silent
  rcases copy_cases h.mn h.n7 x with ⟨e1, e2, e3⟩ | ⟨q, hq, hx, e1, e2, e3, e4⟩
  · rw [pif_pos e2, pif_pos e2, oel_n e1, oel_n e1]; exact ⟨rfl, h⟩
  · rw [pif_neg e2, pif_neg e2, oel_s e1, oel_s e1, hx, ix_nI (by have := h.n7; omega)]; exact ⟨rfl, h.silent⟩
theorem le3 {y : Int32} : y < 4 ↔ y ≤ 3 := by
  have e4 : (4 : Int32).toInt = 4 := rfl
  have e3 : (3 : Int32).toInt = 3 := rfl
  rw [Int32.lt_iff_toInt_lt, Int32.le_iff_toInt_le, e4, e3]
  omega
theorem x10 {x : Int32} (h : ¬ 10 ≤ x) : ¬ x < 0 → x - 10 < 0 := by
  intro h0
  have e1 : (10 : Int32).toInt = 10 := rfl
  rw [Int32.le_iff_toInt_le, e1] at h
  rw [Int32.lt_iff_toInt_lt, Int32.toInt_zero] at h0
  rw [Int32.lt_iff_toInt_lt, Int32.toInt_zero, Int32.toInt_sub, e1, Int.bmod_eq_of_le (by omega) (by omega)]
  omega
theorem x10n {x : Int32} (h : ¬ 10 ≤ x) : atI 4 (x - 10) = none := by
  have e1 : (10 : Int32).toInt = 10 := rfl
  have e4 : (nI 4).toInt = 4 := rfl
  rw [Int32.le_iff_toInt_le, e1] at h
  have hm := Int32.le_toInt x
  have hM := Int32.toInt_lt x
  unfold atI
  by_cases h0 : x - 10 < 0
  · rw [pif_pos h0]
  · rw [pif_neg h0, pif_pos]
    rw [Int32.lt_iff_toInt_lt, Int32.toInt_zero, Int32.toInt_sub, e1] at h0
    rw [Int32.le_iff_toInt_le, e4, Int32.toInt_sub, e1]
    by_cases hq : x.toInt - 10 < - 2 ^ 31
    · have e : (x.toInt - 10).bmod (2 ^ 32) = x.toInt - 10 + 2 ^ 32 := by
        rw [← Int.add_bmod_right, Int.bmod_eq_of_le (by omega) (by omega)]
        rfl
      rw [e]
      omega
    · rw [Int.bmod_eq_of_le (by omega) (by omega)] at h0
      omega
theorem x_side {n tc ac cn : Nat} {Z : zZ} {S M : zS} {x y : Int32} (h : Cx n tc ac cn Z S M) : r_X7_side S n x y = r_X8_side M n x y ∧ Cx n tc ac cn Z (s_X7_side S n x y) (s_X8_side M n x y) := by
  unfold r_X7_side r_X8_side s_X7_side s_X8_side
  by_cases h0 : y < 0
  · rw [pif_pos h0, pif_pos h0, pif_pos h0, pif_pos h0]; exact ⟨rfl, h⟩
  · rw [pif_neg h0, pif_neg h0, pif_neg h0, pif_neg h0]
    by_cases h1 : y < 4
    · rw [pif_pos h1, pif_pos (le3.mp h1), pif_pos h1, pif_pos (le3.mp h1)]
      rcases copy_cases h.mn h.n7 x with ⟨e1, e2, e3⟩ | ⟨q, hq, hx, e1, e2, e3, e4⟩
      · rw [pif_pos e2, pif_pos e2, oel_n e1, oel_n e1]
        by_cases h2 : 10 ≤ x
        · rw [pif_pos h2, pif_pos h2]
          rcases client_cases (M := M) (x - 10) with ⟨c1, c2⟩ | ⟨q, hq, hx, c1, c2, c3⟩
          · rw [oel_n c1, oel_n c1, pif_pos c2, pif_pos c2]; exact ⟨rfl, h⟩
          · rw [oel_s c1, oel_s c1, pif_neg c2, pif_neg c2, hx, ix_nI (by omega)]; exact ⟨rfl, h.cside⟩
        · rw [pif_neg h2, pif_neg h2]
          rcases client_cases (M := M) (x - 10) with ⟨c1, c2⟩ | ⟨q, hq, hx, c1, c2, c3⟩
          · rw [pif_pos c2, pif_pos c2]; exact ⟨rfl, h⟩
          · rw [x10n h2] at c1; cases c1
      · rw [pif_neg e2, pif_neg e2, oel_s e1, oel_s e1, hx, ix_nI (by have := h.n7; omega)]; exact ⟨rfl, h.side⟩
    · rw [pif_neg h1, pif_neg (fun q => h1 (le3.mpr q)), pif_neg h1, pif_neg (fun q => h1 (le3.mpr q))]; exact ⟨rfl, h⟩
