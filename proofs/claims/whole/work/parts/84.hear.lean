noncomputable def lnB (S : zS) (c j : Nat) : zS := (si (si (si S 2 (c) (5) ((gi S 2 (c) (5)) ||| ((1) <<< ((gi S 4 (j) (2)) &&& 31)))) 2 (c) (6) (if (gi S 2 (c) (6)) < (gi S 4 (j) (7)) then (gi S 4 (j) (7)) else (gi S 2 (c) (6)))) 2 (c) (7) (if (gi S 2 (c) (7)) < (gi S 4 (j) (8)) then (gi S 4 (j) (8)) else (gi S 2 (c) (7))))
theorem learn_eq (S : zS) (c j : Nat) : s_X2_learn S c j = pif ((gi S 2 (c) (3)) = (1)) (pif (r_X6_isAbove (lnB S c j) (20 + j) (10 + c) = 0) (lnB S c j) (s_X6_set (lnB S c j) (10 + c) (20 + j))) (pif ((gi S 2 (c) (3)) = (3)) (pif (r_X6_isAbove (lnB S c j) (20 + j) (10 + c) = 0) (lnB S c j) (s_X6_set (lnB S c j) (10 + c) (20 + j))) (lnB S c j)) := rfl
theorem learn_2 (S : zS) (c j i f : Nat) : gi (s_X2_learn S c j) 2 i f = gi (lnB S c j) 2 i f := by
  have e : gi (s_X6_set (lnB S c j) (10 + c) (20 + j)) 2 i f = gi (lnB S c j) 2 i f := by rw [set6_gi, if_neg (by omega), if_neg (by omega)]
  rw [learn_eq]
  simp only [gi_pif, e, pif_same]
noncomputable def mL2 (T : zS) (c : Nat) (ph g a b : Int32) (v : Int64) : zS := pif (ph = 1) (pif (g = 0) T (bst T c a b v)) (pif (ph = 3) (pif (g = 0) T (bst T c a b v)) T)
noncomputable def mL3 (T : zS) (c : Nat) (ba la b0 l0 : Int32) : zS := pif (ba ≤ b0) (pif (la ≤ l0) T (si T 9 115 c la)) (pif (la ≤ l0) (si T 9 114 c ba) (si (si T 9 114 c ba) 9 115 c la))
theorem bst_comm {T : zS} {c I x : Nat} {a b w : Int32} {v : Int64} (h : I < 118) : si (bst T c a b v) 9 I x w = bst (si T 9 I x w) c a b v := by
  unfold bst
  show sj (si (si (si T 9 118 c a) 9 119 c b) 9 I x w) 10 120 c v = _
  rw [si_comm (K := 9) (I := 119) (K' := 9) (I' := I) (by omega), si_comm (K := 9) (I := 118) (K' := 9) (I' := I) (by omega)]
theorem mL_comm {T : zS} {c : Nat} {ph g a b ba la b0 l0 : Int32} {v : Int64} : mL3 (mL2 T c ph g a b v) c ba la b0 l0 = mL2 (mL3 T c ba la b0 l0) c ph g a b v := by
  have e1 : mL3 (bst T c a b v) c ba la b0 l0 = bst (mL3 T c ba la b0 l0) c a b v := by
    unfold mL3
    rw [bst_comm (by omega), bst_comm (by omega), bst_comm (by omega)]
    simp only [app_pif (fun T => bst T c a b v)]
  unfold mL2
  simp only [app_pif (fun T => mL3 T c ba la b0 l0), e1]
/-- an answer is learnt, on both sides -/
theorem x_learn {n tc ac cn c a q k : Nat} {Z : zZ} {S M M0 : zS} {ba la x y : Int32} {v : Int64} (h : Cx n tc ac cn Z S M) (hc : c < 4) (ha : gr S 2 c 2 = some a) (e2 : gi S 4 q 2 = nI k) (e7 : gi S 4 q 7 = ba) (e8 : gi S 4 q 8 = la) (f0 : gi S 6 (20 + q) 0 = x) (f1 : gi S 6 (20 + q) 1 = y) (f2 : gj S 6 (20 + q) 2 = v) (hb : ivN tc ba) (hl : ivN tc la) :
    Cx n tc ac cn Z (s_X2_learn S c q) (mL3 (mL2 (si M 9 117 c ((gi M 9 117 c) ||| ((1) <<< ((nI k) &&& 31)))) c (gi M 9 112 c) (r_X8_isGreater M0 x y (gi M 9 118 c) (gi M 9 119 c)) x y v) c ba la (gi M 9 114 c) (gi M 9 115 c)) := by
  obtain ⟨q1, q2, q3, q4, q5, q6⟩ := h.c1 hc
  have hA := h.cA (c := c) (v := (gi S 2 (c) (5)) ||| ((1) <<< ((gi S 4 (q) (2)) &&& 31)))
  have hB := hA.cB hc (a := a) ha hb
  have hC := hB.cC hc (a := a) ha hl
  have r6 : ∀ X, gi (si S 2 c 5 X) 2 c 6 = gi S 2 c 6 := fun X => by rw [gi_si, if_neg (by omega)]
  have r7 : ∀ X Y, gi (si (si S 2 c 5 X) 2 c 6 Y) 2 c 7 = gi S 2 c 7 := fun X Y => by rw [gi_si, if_neg (by omega), gi_si, if_neg (by omega)]
  have r4 : ∀ X, gi (si M 9 117 c X) 9 114 c = gi M 9 114 c := fun X => by rw [gi_si, if_neg (by omega)]
  rw [r6, r4] at hC
  rw [r7] at hC
  have r5 : ∀ X, gi (pif (ba ≤ gi M 9 114 c) (si M 9 117 c X) (si (si M 9 117 c X) 9 114 c ba)) 9 115 c = gi M 9 115 c := fun X => by rw [gi_pif, gi_si, if_neg (by omega), gi_si, if_neg (by omega), gi_si, if_neg (by omega), pif_same]
  rw [r5] at hC
  have eL : (si (si (si S 2 c 5 ((gi S 2 (c) (5)) ||| ((1) <<< ((gi S 4 (q) (2)) &&& 31)))) 2 c 6 (if gi S 2 c 6 < ba then ba else gi S 2 c 6)) 2 c 7 (if gi S 2 c 7 < la then la else gi S 2 c 7)) = lnB S c q := by unfold lnB; rw [e7, e8]
  rw [eL, q3, e2] at hC
  rw [mL_comm]
  have e3 : pif (la ≤ gi M 9 115 c) (pif (ba ≤ gi M 9 114 c) (si M 9 117 c ((gi M 9 117 c) ||| ((1) <<< ((nI k) &&& 31)))) (si (si M 9 117 c ((gi M 9 117 c) ||| ((1) <<< ((nI k) &&& 31)))) 9 114 c ba)) (si (pif (ba ≤ gi M 9 114 c) (si M 9 117 c ((gi M 9 117 c) ||| ((1) <<< ((nI k) &&& 31)))) (si (si M 9 117 c ((gi M 9 117 c) ||| ((1) <<< ((nI k) &&& 31)))) 9 114 c ba)) 9 115 c la) = mL3 (si M 9 117 c ((gi M 9 117 c) ||| ((1) <<< ((nI k) &&& 31)))) c ba la (gi M 9 114 c) (gi M 9 115 c) := by
    unfold mL3
    by_cases g1 : ba ≤ gi M 9 114 c
    · rw [pif_pos g1, pif_pos g1]
    · rw [pif_neg g1, pif_neg g1]
  rw [e3] at hC
  have m18 : ∀ I, I = 118 ∨ I = 119 → gi (mL3 (si M 9 117 c ((gi M 9 117 c) ||| ((1) <<< ((nI k) &&& 31)))) c ba la (gi M 9 114 c) (gi M 9 115 c)) 9 I c = gi M 9 I c := fun I hI => by
    unfold mL3
    have z1 : ∀ (X : zS) w, gi (si X 9 115 c w) 9 I c = gi X 9 I c := fun X w => by rw [gi_si, if_neg (by omega)]
    have z2 : ∀ (X : zS) w, gi (si X 9 114 c w) 9 I c = gi X 9 I c := fun X w => by rw [gi_si, if_neg (by omega)]
    have z3 : ∀ (X : zS) w, gi (si X 9 117 c w) 9 I c = gi X 9 I c := fun X w => by rw [gi_si, if_neg (by omega)]
    simp only [gi_pif, z1, z2, z3, pif_same]
  generalize mL3 (si M 9 117 c ((gi M 9 117 c) ||| ((1) <<< ((nI k) &&& 31)))) c ba la (gi M 9 114 c) (gi M 9 115 c) = N at *
  have l6 : ∀ i f, gi (lnB S c q) 6 i f = gi S 6 i f := fun i f => by unfold lnB; rw [gi_si, if_neg (by omega), gi_si, if_neg (by omega), gi_si, if_neg (by omega)]
  have l6j : ∀ i f, gj (lnB S c q) 6 i f = gj S 6 i f := fun i f => rfl
  have l3 : gi (lnB S c q) 2 c 3 = gi S 2 c 3 := by unfold lnB; rw [gi_si, if_neg (by omega), gi_si, if_neg (by omega), gi_si, if_neg (by omega)]
  have lr : gr (lnB S c q) 2 c 2 = some a := ha
  rw [learn_eq]
  unfold mL2
  rw [← q1]
  by_cases p1 : gi S 2 c 3 = 1
  · have hv := ((hC.d1 hc).2 a lr).2 (fun w => by rw [l3, p1] at w; exact absurd w.1 (by decide))
    rw [pif_pos p1, pif_pos p1, above_eq (M0 := M0) (show gi (lnB S c q) 6 (20 + q) 0 = x by rw [l6]; exact f0) (show gi (lnB S c q) 6 (20 + q) 1 = y by rw [l6]; exact f1) (hv.1.trans (m18 118 (Or.inl rfl))) (hv.2.1.trans (m18 119 (Or.inr rfl)))]
    by_cases hg : r_X8_isGreater M0 x y (gi M 9 118 c) (gi M 9 119 c) = 0
    · rw [pif_pos hg, pif_pos hg]; exact hC
    · rw [pif_neg hg, pif_neg hg]
      exact hC.cV hc lr (by rw [l3, p1]; decide) (by rw [l6]; exact f0) (by rw [l6]; exact f1) (by rw [l6j]; exact f2)
  · rw [pif_neg p1, pif_neg p1]
    by_cases p3 : gi S 2 c 3 = 3
    · have hv := ((hC.d1 hc).2 a lr).2 (fun w => by rw [l3, p3] at w; exact absurd w.1 (by decide))
      rw [pif_pos p3, pif_pos p3, above_eq (M0 := M0) (show gi (lnB S c q) 6 (20 + q) 0 = x by rw [l6]; exact f0) (show gi (lnB S c q) 6 (20 + q) 1 = y by rw [l6]; exact f1) (hv.1.trans (m18 118 (Or.inl rfl))) (hv.2.1.trans (m18 119 (Or.inr rfl)))]
      by_cases hg : r_X8_isGreater M0 x y (gi M 9 118 c) (gi M 9 119 c) = 0
      · rw [pif_pos hg, pif_pos hg]; exact hC
      · rw [pif_neg hg, pif_neg hg]
        exact hC.cV hc lr (by rw [l3, p3]; decide) (by rw [l6]; exact f0) (by rw [l6]; exact f1) (by rw [l6j]; exact f2)
    · rw [pif_neg p3, pif_neg p3]; exact hC
noncomputable def mFin (X : zS) (n c : Nat) (x : Int32) : zS := pif (r_X8_isOver X n (ix (gi X 9 114 c)) (ix (gi X 9 127 (ix (gi X 9 111 c)))) x = 0) X (s_X8_goOn X n x)
noncomputable def mX (S : zS) (k : Nat) : zS := mL3 (mL2 (si (s_X8_take S (ix (gi S 8 0 44)) k) 9 (117) (ix (gi S 9 (134) (k))) ((gi (s_X8_take S (ix (gi S 8 0 44)) k) 9 (117) (ix (gi S 9 (134) (k)))) ||| ((1) <<< ((gi S 9 (133) (k)) &&& 31)))) (ix (gi S 9 134 k)) (gi (s_X8_take S (ix (gi S 8 0 44)) k) 9 112 (ix (gi S 9 134 k))) (r_X8_isGreater (si (s_X8_take S (ix (gi S 8 0 44)) k) 9 (117) (ix (gi S 9 (134) (k))) ((gi (s_X8_take S (ix (gi S 8 0 44)) k) 9 (117) (ix (gi S 9 (134) (k)))) ||| ((1) <<< ((gi S 9 (133) (k)) &&& 31)))) (gi S 9 138 k) (gi S 9 139 k) (gi (s_X8_take S (ix (gi S 8 0 44)) k) 9 118 (ix (gi S 9 134 k))) (gi (s_X8_take S (ix (gi S 8 0 44)) k) 9 119 (ix (gi S 9 134 k)))) (gi S 9 138 k) (gi S 9 139 k) (gj S 10 143 k)) (ix (gi S 9 134 k)) (gi S 9 141 k) (gi S 9 142 k) (gi (s_X8_take S (ix (gi S 8 0 44)) k) 9 114 (ix (gi S 9 134 k))) (gi (s_X8_take S (ix (gi S 8 0 44)) k) 9 115 (ix (gi S 9 134 k)))
set_option maxHeartbeats 1000000 in
theorem answer_eq (S : zS) (n k : Nat) : s_X8_answer S n k = pif (gi S 9 111 (ix (gi S 9 134 k)) < 0) (s_X8_take S (ix (gi S 8 0 44)) k) (pif (gi S 9 135 k = gi S 9 111 (ix (gi S 9 134 k))) (pif (gi S 9 136 k = gi S 9 112 (ix (gi S 9 134 k))) (pif (gi S 9 137 k = gi S 9 113 (ix (gi S 9 134 k))) (pif ((gi S 9 117 (ix (gi S 9 134 k)) &&& (1 <<< (gi S 9 133 k &&& 31))) = 0) (pif (gi (s_X8_take S (ix (gi S 8 0 44)) k) 9 112 (ix (gi S 9 134 k)) = 1) (pif (gi S 9 141 k ≤ gi (s_X8_take S (ix (gi S 8 0 44)) k) 9 114 (ix (gi S 9 134 k))) (mFin (mX S k) n (ix (gi S 9 134 k)) (gi S 9 134 k)) (s_X8_beginPhase (mX S k) n (gi S 9 134 k) 1)) (mFin (mX S k) n (ix (gi S 9 134 k)) (gi S 9 134 k))) (s_X8_take S (ix (gi S 8 0 44)) k)) (s_X8_take S (ix (gi S 8 0 44)) k)) (s_X8_take S (ix (gi S 8 0 44)) k)) (s_X8_take S (ix (gi S 8 0 44)) k)) := by
  unfold s_X8_answer mX mL3 mL2
  by_cases h1 : gi (s_X8_take S (ix (gi S 8 0 44)) k) 9 112 (ix (gi S 9 134 k)) = 1
  · by_cases hg : r_X8_isGreater (si (s_X8_take S (ix (gi S 8 0 44)) k) 9 (117) (ix (gi S 9 (134) (k))) ((gi (s_X8_take S (ix (gi S 8 0 44)) k) 9 (117) (ix (gi S 9 (134) (k)))) ||| ((1) <<< ((gi S 9 (133) (k)) &&& 31)))) (gi S 9 138 k) (gi S 9 139 k) (gi (s_X8_take S (ix (gi S 8 0 44)) k) 9 118 (ix (gi S 9 134 k))) (gi (s_X8_take S (ix (gi S 8 0 44)) k) 9 119 (ix (gi S 9 134 k))) = 0
    · by_cases hb : gi S 9 141 k ≤ gi (s_X8_take S (ix (gi S 8 0 44)) k) 9 114 (ix (gi S 9 134 k))
      · by_cases hl : gi S 9 142 k ≤ gi (s_X8_take S (ix (gi S 8 0 44)) k) 9 115 (ix (gi S 9 134 k))
        · simp only [pif_pos h1, pif_pos hg, pif_pos hb, pif_pos hl]; rfl
        · simp only [pif_pos h1, pif_pos hg, pif_pos hb, pif_neg hl]; rfl
      · by_cases hl : gi S 9 142 k ≤ gi (s_X8_take S (ix (gi S 8 0 44)) k) 9 115 (ix (gi S 9 134 k))
        · simp only [pif_pos h1, pif_pos hg, pif_neg hb, pif_pos hl]
        · simp only [pif_pos h1, pif_pos hg, pif_neg hb, pif_neg hl]
    · by_cases hb : gi S 9 141 k ≤ gi (s_X8_take S (ix (gi S 8 0 44)) k) 9 114 (ix (gi S 9 134 k))
      · by_cases hl : gi S 9 142 k ≤ gi (s_X8_take S (ix (gi S 8 0 44)) k) 9 115 (ix (gi S 9 134 k))
        · simp only [pif_pos h1, pif_neg hg, pif_pos hb, pif_pos hl]; rfl
        · simp only [pif_pos h1, pif_neg hg, pif_pos hb, pif_neg hl]; rfl
      · by_cases hl : gi S 9 142 k ≤ gi (s_X8_take S (ix (gi S 8 0 44)) k) 9 115 (ix (gi S 9 134 k))
        · simp only [pif_pos h1, pif_neg hg, pif_neg hb, pif_pos hl]; rfl
        · simp only [pif_pos h1, pif_neg hg, pif_neg hb, pif_neg hl]; rfl
  · by_cases h3 : gi (s_X8_take S (ix (gi S 8 0 44)) k) 9 112 (ix (gi S 9 134 k)) = 3
    · by_cases hg : r_X8_isGreater (si (s_X8_take S (ix (gi S 8 0 44)) k) 9 (117) (ix (gi S 9 (134) (k))) ((gi (s_X8_take S (ix (gi S 8 0 44)) k) 9 (117) (ix (gi S 9 (134) (k)))) ||| ((1) <<< ((gi S 9 (133) (k)) &&& 31)))) (gi S 9 138 k) (gi S 9 139 k) (gi (s_X8_take S (ix (gi S 8 0 44)) k) 9 118 (ix (gi S 9 134 k))) (gi (s_X8_take S (ix (gi S 8 0 44)) k) 9 119 (ix (gi S 9 134 k))) = 0
      · by_cases hb : gi S 9 141 k ≤ gi (s_X8_take S (ix (gi S 8 0 44)) k) 9 114 (ix (gi S 9 134 k))
        · by_cases hl : gi S 9 142 k ≤ gi (s_X8_take S (ix (gi S 8 0 44)) k) 9 115 (ix (gi S 9 134 k))
          · simp only [pif_neg h1, pif_pos h3, pif_pos hg, pif_pos hb, pif_pos hl]; rfl
          · simp only [pif_neg h1, pif_pos h3, pif_pos hg, pif_pos hb, pif_neg hl]; rfl
        · by_cases hl : gi S 9 142 k ≤ gi (s_X8_take S (ix (gi S 8 0 44)) k) 9 115 (ix (gi S 9 134 k))
          · simp only [pif_neg h1, pif_pos h3, pif_pos hg, pif_neg hb, pif_pos hl]; rfl
          · simp only [pif_neg h1, pif_pos h3, pif_pos hg, pif_neg hb, pif_neg hl]; rfl
      · by_cases hb : gi S 9 141 k ≤ gi (s_X8_take S (ix (gi S 8 0 44)) k) 9 114 (ix (gi S 9 134 k))
        · by_cases hl : gi S 9 142 k ≤ gi (s_X8_take S (ix (gi S 8 0 44)) k) 9 115 (ix (gi S 9 134 k))
          · simp only [pif_neg h1, pif_pos h3, pif_neg hg, pif_pos hb, pif_pos hl]; rfl
          · simp only [pif_neg h1, pif_pos h3, pif_neg hg, pif_pos hb, pif_neg hl]; rfl
        · by_cases hl : gi S 9 142 k ≤ gi (s_X8_take S (ix (gi S 8 0 44)) k) 9 115 (ix (gi S 9 134 k))
          · simp only [pif_neg h1, pif_pos h3, pif_neg hg, pif_neg hb, pif_pos hl]; rfl
          · simp only [pif_neg h1, pif_pos h3, pif_neg hg, pif_neg hb, pif_neg hl]; rfl
    · by_cases hb : gi S 9 141 k ≤ gi (s_X8_take S (ix (gi S 8 0 44)) k) 9 114 (ix (gi S 9 134 k))
      · by_cases hl : gi S 9 142 k ≤ gi (s_X8_take S (ix (gi S 8 0 44)) k) 9 115 (ix (gi S 9 134 k))
        · simp only [pif_neg h1, pif_neg h3, pif_pos hb, pif_pos hl]; rfl
        · simp only [pif_neg h1, pif_neg h3, pif_pos hb, pif_neg hl]; rfl
      · by_cases hl : gi S 9 142 k ≤ gi (s_X8_take S (ix (gi S 8 0 44)) k) 9 115 (ix (gi S 9 134 k))
        · simp only [pif_neg h1, pif_neg h3, pif_neg hb, pif_pos hl]; rfl
        · simp only [pif_neg h1, pif_neg h3, pif_neg hb, pif_neg hl]; rfl
