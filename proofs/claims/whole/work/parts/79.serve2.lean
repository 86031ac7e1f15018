theorem above_eq {S M0 : zS} {i j : Nat} {a b z u : Int32} (h1 : gi S 6 i 0 = a) (h2 : gi S 6 i 1 = b) (h3 : gi S 6 j 0 = z) (h4 : gi S 6 j 1 = u) : r_X6_isAbove S i j = r_X8_isGreater M0 a b z u := by
  unfold r_X6_isAbove r_X8_isGreater
  rw [h1, h2, h3, h4]
theorem Cx.cver {n tc ac cn k q : Nat} {Z : zZ} {S M : zS} {a b : Int32} {v : Int64} (h : Cx n tc ac cn Z S M) (hk : k < n) (e0 : gi S 6 (20 + q) 0 = a) (e1 : gi S 6 (20 + q) 1 = b) (e2 : gj S 6 (20 + q) 2 = v) : Cx n tc ac cn Z (s_X6_set S k (20 + q)) (sj (si (si M 9 102 k a) 9 103 k b) 10 101 k v) := by
  obtain ⟨q1, q2, q3, q4, q5, q6, q7, q8⟩ := h.2.2.2.1 k hk
  refine h.cop hk rfl (fun K i f r1 r2 => by rw [set6_gi, if_neg (by omega), if_neg (by omega)]) (fun K i f r => by rw [set6_gj, if_neg (by omega)]) (fun K i f r => by rw [gi_sj, gi_si, if_neg (by omega), gi_si, if_neg (by omega)]) (fun K i f r => by rw [gj_sj, if_neg (by omega), gj_si, gj_si]) ⟨?_, ?_, ?_, q4, q5, q6, q7, q8⟩ (h.2.1.2.1 k hk)
  · rw [set6_gi, if_neg (by omega), if_pos ⟨rfl, rfl, rfl⟩, e0, gi_sj, gi_si, if_neg (by omega), gi_si, if_pos ⟨rfl, rfl, rfl⟩]
  · rw [set6_gi, if_pos ⟨rfl, rfl, rfl⟩, e1, gi_sj, gi_si, if_pos ⟨rfl, rfl, rfl⟩]
  · rw [set6_gj, if_pos ⟨rfl, rfl, rfl⟩, e2, gj_sj, if_pos ⟨rfl, rfl, rfl⟩]
theorem Cx.clast {n tc ac cn k : Nat} {Z : zZ} {S M : zS} {t : Int32} (h : Cx n tc ac cn Z S M) (hk : k < n) (ht : ivN tc t) : Cx n tc ac cn Z (si S 3 k 2 (if gi S 3 k 2 < t then t else gi S 3 k 2)) (pif (t ≤ gi M 9 105 k) M (si M 9 105 k t)) := by
  obtain ⟨q1, q2, q3, q4, q5, q6, q7, q8⟩ := h.2.2.2.1 k hk
  obtain ⟨v1, v2⟩ := h.2.1.2.1 k hk
  by_cases hl : gi S 3 k 2 < t
  · rw [if_pos hl, pif_neg (by rw [← q5]; exact Int32.not_le.mpr hl)]
    refine h.cop hk rfl (fun K i f r1 r2 => by rw [gi_si, if_neg (by omega)]) (fun K i f r => rfl) (fun K i f r => by rw [gi_si, if_neg (by omega)]) (fun K i f r => rfl) ⟨q1, q2, q3, q4, ?_, q6, q7, q8⟩ ⟨v1, ?_⟩
    · rw [gi_si, if_pos ⟨rfl, rfl, rfl⟩, gi_si, if_pos ⟨rfl, rfl, rfl⟩]
    · rw [gi_si, if_pos ⟨rfl, rfl, rfl⟩]; exact ht
  · rw [if_neg hl, pif_pos (by rw [← q5]; exact Int32.not_lt.mp hl)]
    refine h.cop hk rfl (fun K i f r1 r2 => by rw [gi_si, if_neg (by omega)]) (fun K i f r => rfl) (fun K i f r => rfl) (fun K i f r => rfl) ⟨q1, q2, q3, q4, ?_, q6, q7, q8⟩ ⟨v1, ?_⟩
    · rw [gi_si, if_pos ⟨rfl, rfl, rfl⟩]; exact q5
    · rw [gi_si, if_pos ⟨rfl, rfl, rfl⟩]; exact v2
theorem Cx.cbase {n tc ac cn k : Nat} {Z : zZ} {S M : zS} {t : Int32} (h : Cx n tc ac cn Z S M) (hk : k < n) (ht : ivN tc t) : Cx n tc ac cn Z (si S 3 k 1 (if gi S 3 k 1 < t then t else gi S 3 k 1)) (pif (t ≤ gi M 9 104 k) M (si M 9 104 k t)) := by
  obtain ⟨q1, q2, q3, q4, q5, q6, q7, q8⟩ := h.2.2.2.1 k hk
  obtain ⟨v1, v2⟩ := h.2.1.2.1 k hk
  by_cases hl : gi S 3 k 1 < t
  · rw [if_pos hl, pif_neg (by rw [← q4]; exact Int32.not_le.mpr hl)]
    refine h.cop hk rfl (fun K i f r1 r2 => by rw [gi_si, if_neg (by omega)]) (fun K i f r => rfl) (fun K i f r => by rw [gi_si, if_neg (by omega)]) (fun K i f r => rfl) ⟨q1, q2, q3, ?_, q5, q6, q7, q8⟩ ⟨?_, v2⟩
    · rw [gi_si, if_pos ⟨rfl, rfl, rfl⟩, gi_si, if_pos ⟨rfl, rfl, rfl⟩]
    · rw [gi_si, if_pos ⟨rfl, rfl, rfl⟩]; exact ht
  · rw [if_neg hl, pif_pos (by rw [← q4]; exact Int32.not_lt.mp hl)]
    refine h.cop hk rfl (fun K i f r1 r2 => by rw [gi_si, if_neg (by omega)]) (fun K i f r => rfl) (fun K i f r => rfl) (fun K i f r => rfl) ⟨q1, q2, q3, ?_, q5, q6, q7, q8⟩ ⟨?_, v2⟩
    · rw [gi_si, if_pos ⟨rfl, rfl, rfl⟩]; exact q4
    · rw [gi_si, if_pos ⟨rfl, rfl, rfl⟩]; exact v1
theorem si_comm {M : zS} {K I x K' I' x' : Nat} {v v' : Int32} (h : ¬ (K = K' ∧ I = I' ∧ x = x')) : si (si M K I x v) K' I' x' v' = si (si M K' I' x' v') K I x v := by
  refine zS_ext (fun k i f => ?_) (fun k i f => rfl) rfl
  rw [gi_si, gi_si, gi_si, gi_si]
  by_cases q1 : k = K' ∧ i = I' ∧ f = x'
  · rw [if_pos q1, if_neg (by omega), if_pos q1]
  · rw [if_neg q1, if_neg q1]
theorem Cx.cboth {n tc ac cn k : Nat} {Z : zZ} {S M : zS} {t : Int32} (h : Cx n tc ac cn Z S M) (hk : k < n) (ht : ivN tc t) : Cx n tc ac cn Z (si (si S 3 k 1 (if gi S 3 k 1 < t then t else gi S 3 k 1)) 3 k 2 (if gi S 3 k 2 < t then t else gi S 3 k 2)) (pif (t ≤ gi M 9 105 k) (pif (t ≤ gi M 9 104 k) M (si M 9 104 k t)) (pif (t ≤ gi M 9 104 k) (si M 9 105 k t) (si (si M 9 105 k t) 9 104 k t))) := by
  have g1 := (h.cbase hk ht).clast hk ht
  have el : ∀ X, gi (si S 3 k 1 X) 3 k 2 = gi S 3 k 2 := fun X => by rw [gi_si, if_neg (by omega)]
  rw [el] at g1
  have em : gi (pif (t ≤ gi M 9 104 k) M (si M 9 104 k t)) 9 105 k = gi M 9 105 k := by rw [gi_pif, gi_si, if_neg (by omega), pif_same]
  rw [em] at g1
  by_cases l1 : t ≤ gi M 9 105 k
  · rw [pif_pos l1] at g1 ⊢; exact g1
  · rw [pif_neg l1] at g1 ⊢
    by_cases l2 : t ≤ gi M 9 104 k
    · rw [pif_pos l2] at g1 ⊢; exact g1
    · rw [pif_neg l2] at g1 ⊢
      rw [si_comm (K := 9) (I := 105) (K' := 9) (I' := 104) (by omega)]; exact g1
theorem Cx.obey {n tc ac cn k q : Nat} {Z : zZ} {S M M0 : zS} {ph t a b : Int32} {v : Int64} (h : Cx n tc ac cn Z S M) (hk : k < n) (e5 : gi S 4 q 5 = ph) (e8 : ph = 3 ∨ ph = 5 → gi S 4 q 8 = t) (e0 : gi S 6 (20 + q) 0 = a) (e1 : gi S 6 (20 + q) 1 = b) (e2 : gj S 6 (20 + q) 2 = v) (ht : ph = 3 ∨ ph = 5 → ivN tc t) :
    Cx n tc ac cn Z (s_X3_obey S k q) (mObV M k ph t a b v (r_X8_isGreater M0 a b (gi M 9 102 k) (gi M 9 103 k)) (gi M 9 105 k) (gi M 9 104 k)) := by
  obtain ⟨q1, q2, q3, q4, q5, q6, q7, q8⟩ := h.2.2.2.1 k hk
  unfold s_X3_obey mObV
  rw [above_eq (M0 := M0) e0 e1 q1 q2, e5]
  by_cases p2 : ph = 2
  · rw [pif_pos p2, pif_pos p2]
    by_cases hg : r_X8_isGreater M0 a b (gi M 9 102 k) (gi M 9 103 k) = 0
    · rw [pif_pos hg, pif_pos hg]; exact h
    · rw [pif_neg hg, pif_neg hg]; exact h.cver hk e0 e1 e2
  · rw [pif_neg p2, pif_neg p2]
    by_cases p4 : ph = 4
    · have p3 : ¬ ph = 3 := by rw [p4]; decide
      rw [pif_neg p3, pif_pos p4, pif_pos p4]
      by_cases hg : r_X8_isGreater M0 a b (gi M 9 102 k) (gi M 9 103 k) = 0
      · rw [pif_pos hg, pif_pos hg]; exact h
      · rw [pif_neg hg, pif_neg hg]; exact h.cver hk e0 e1 e2
    · rw [pif_neg p4, pif_neg p4]
      by_cases p3 : ph = 3
      · rw [pif_pos p3, pif_pos p3, e8 (Or.inl p3)]
        exact h.clast hk (ht (Or.inl p3))
      · rw [pif_neg p3, pif_neg p3]
        by_cases p5 : ph = 5
        · rw [pif_pos p5, pif_pos p5, e8 (Or.inr p5)]
          exact h.cboth hk (ht (Or.inr p5))
        · rw [pif_neg p5, pif_neg p5]; exact h
theorem obey_2 {S : zS} {c j i f : Nat} : gi (s_X3_obey S c j) 2 i f = gi S 2 i f := by
  unfold s_X3_obey
  simp only [gi_pif]
  have e1 : gi (s_X6_set S c (20 + j)) 2 i f = gi S 2 i f := by rw [set6_gi, if_neg (by omega), if_neg (by omega)]
  have e2 : ∀ X, gi (si S 3 c 2 X) 2 i f = gi S 2 i f := fun X => by rw [gi_si, if_neg (by omega)]
  have e3 : ∀ X Y, gi (si (si S 3 c 1 X) 3 c 2 Y) 2 i f = gi S 2 i f := fun X Y => by rw [gi_si, if_neg (by omega), gi_si, if_neg (by omega)]
  rw [e1, e2, e3]
  simp only [pif_same]
