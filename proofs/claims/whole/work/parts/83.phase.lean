theorem Cx.cE {n tc ac cn c a : Nat} {Z : zZ} {S M : zS} {v : Int32} (h : Cx n tc ac cn Z S M) (hc : c < 4) (ha : gr S 2 c 2 = some a) : Cx n tc ac cn Z (si S 0 a 4 v) (si M 9 124 (a + 1) v) := by
  have hd := (h.ic hc).2.2.2 a ha
  obtain ⟨q0, q1, q2, q3, q4, q5, q6, q7, q8⟩ := h.a1 hd.1
  refine h.cli hc ha rfl (fun K i f r1 r2 r3 => by rw [gi_si, if_neg (by omega)]) (fun K i f r1 r2 => rfl) (fun K i f r1 r2 => by rw [gi_si, if_neg (by omega)]) (fun K i f r1 r2 => rfl) (h.c1 hc) (h.d1 hc) ⟨q0, q1, q2, q3, ?_, q5, q6, q7, q8⟩ (h.ic hc) (h.ia hd.1) (Or.inl ⟨rfl, rfl⟩)
  rw [gi_si, if_pos ⟨rfl, rfl, rfl⟩, gi_si, if_pos ⟨rfl, rfl, rfl⟩]
theorem tag_gi (S : zS) (a i k j f : Nat) : gi (s_X0_showTag S a i) k j f = if k = 0 ∧ j = a ∧ f = 6 then gi S 6 i 1 else if k = 0 ∧ j = a ∧ f = 5 then gi S 6 i 0 else gi S k j f := by
  unfold s_X0_showTag; rw [gi_si, gi_si]
theorem Cx.cT {n tc ac cn c a : Nat} {Z : zZ} {S M : zS} (h : Cx n tc ac cn Z S M) (hc : c < 4) (ha : gr S 2 c 2 = some a) (hk : ¬ (gi S 2 c 3 = 2 ∧ gi S 0 a 1 = 1)) : Cx n tc ac cn Z (s_X0_showTag S a (10 + c)) (si (si M 9 125 (a + 1) (gi M 9 118 c)) 9 126 (a + 1) (gi M 9 119 c)) := by
  have hd := (h.ic hc).2.2.2 a ha
  obtain ⟨q0, q1, q2, q3, q4, q5, q6, q7, q8⟩ := h.a1 hd.1
  obtain ⟨v1, v2, v3⟩ := ((h.d1 hc).2 a ha).2 hk
  obtain ⟨i1, i2, i3, i4⟩ := h.ic hc
  refine h.cli hc ha rfl (fun K i f r1 r2 r3 => by rw [tag_gi, if_neg (by omega), if_neg (by omega)]) (fun K i f r1 r2 => rfl) (fun K i f r1 r2 => by rw [gi_si, if_neg (by omega), gi_si, if_neg (by omega)]) (fun K i f r1 r2 => rfl) (h.c1 hc) (h.d1 hc) ⟨q0, q1, q2, q3, q4, ?_, ?_, q7, q8⟩ ⟨i1, i2, i3, fun a' ha' => ?_⟩ (h.ia hd.1) (Or.inl ⟨rfl, rfl⟩)
  · rw [tag_gi, if_neg (by omega), if_pos ⟨rfl, rfl, rfl⟩, gi_si, if_neg (by omega), gi_si, if_pos ⟨rfl, rfl, rfl⟩, v1]
  · rw [tag_gi, if_pos ⟨rfl, rfl, rfl⟩, gi_si, if_pos ⟨rfl, rfl, rfl⟩, v2]
  · have : a' = a := Option.some.inj (ha'.symm.trans ha)
    subst this
    obtain ⟨d0, d1, φ, r, b, f1, f2, f3, f4, f5, f6, f7, f8⟩ := hd
    refine ⟨d0, d1, φ, r, b, f1, f2, f3, f4, f5, f6, f7, fun q q' => ?_⟩
    subst q
    exact absurd ⟨f1, q'⟩ hk
theorem Cx.cL {n tc ac cn c a : Nat} {Z : zZ} {S M : zS} {v : Int64} (h : Cx n tc ac cn Z S M) (hc : c < 4) (ha : gr S 2 c 2 = some a) (hk : ¬ (gi S 2 c 3 = 2 ∧ gi S 0 a 1 = 1)) : Cx n tc ac cn Z (sj S 0 a 8 v) (sj M 10 128 (a + 1) v) := by
  have hd := (h.ic hc).2.2.2 a ha
  obtain ⟨q0, q1, q2, q3, q4, q5, q6, q7, q8⟩ := h.a1 hd.1
  obtain ⟨i1, i2, i3, i4⟩ := h.ic hc
  refine h.cli hc ha rfl (fun K i f r1 r2 r3 => rfl) (fun K i f r1 r2 => by rw [gj_sj, if_neg (by omega)]) (fun K i f r1 r2 => rfl) (fun K i f r1 r2 => by rw [gj_sj, if_neg (by omega)]) (h.c1 hc) (h.d1 hc) ⟨q0, q1, q2, q3, q4, q5, q6, q7, ?_⟩ ⟨i1, i2, i3, fun a' ha' => ?_⟩ (h.ia hd.1) (Or.inl ⟨rfl, rfl⟩)
  · rw [gj_sj, if_pos ⟨rfl, rfl, rfl⟩, gj_sj, if_pos ⟨rfl, rfl, rfl⟩]
  · have : a' = a := Option.some.inj (ha'.symm.trans ha)
    subst this
    obtain ⟨d0, d1, φ, r, b, f1, f2, f3, f4, f5, f6, f7, f8⟩ := hd
    refine ⟨d0, d1, φ, r, b, f1, f2, f3, f4, f5, f6, f7, fun q q' => ?_⟩
    subst q
    exact absurd ⟨f1, q'⟩ hk
/-- client c's next phase y, ahead of its requests -/
noncomputable def cPr (S : zS) (c : Nat) (y : Int32) : zS := si (si (si S 2 c 3 y) 2 c 4 (gi S 2 c 4 + 1)) 2 c 5 0
noncomputable def mPr (M : zS) (c : Nat) (y : Int32) : zS := si (si (si M 9 112 c y) 9 113 c (gi M 9 113 c + 1)) 9 117 c 0
theorem Cx.prep {n tc ac cn c a φ2 r b : Nat} {Z : zZ} {S M : zS} (h : Cx n tc ac cn Z S M) (hc : c < 4) (ha : gr S 2 c 2 = some a) (hφ : 1 ≤ φ2 ∧ φ2 ≤ 5) (e4 : gi S 2 c 4 = nI r) (e6 : gi S 2 c 6 = nI b) (hb : b < tc) (hr : r + 1 ≤ φ2 + b ∧ (3 ≤ φ2 → r + 1 ≤ φ2)) (hk : (φ2 ≤ 2 ∧ (gi S 0 a 1 = 0 ∨ gi S 0 a 1 = 1)) ∨ (3 ≤ φ2 ∧ gi S 0 a 1 = 2 ∧ ivN tc (gi S 0 a 7)))
    (hw : φ2 = 2 → ¬ gi S 0 a 1 = 1) (hv : ¬ (gi S 2 c 3 = 2 ∧ gi S 0 a 1 = 1)) : Cx n tc ac cn Z (cPr S c (nI φ2)) (mPr M c (nI φ2)) := by
  have hd := (h.ic hc).2.2.2 a ha
  have htc := h.2.1.1.2.1.2
  obtain ⟨i1, i2, i3, i4⟩ := h.ic hc
  obtain ⟨q1, q2, q3, q4, q5, q6⟩ := h.c1 hc
  refine h.cli hc ha rfl (fun K i f r1 r2 r3 => by unfold cPr; rw [gi_si, if_neg (by omega), gi_si, if_neg (by omega), gi_si, if_neg (by omega)]) (fun K i f r1 r2 => rfl) (fun K i f r1 r2 => by unfold mPr; rw [gi_si, if_neg (by omega), gi_si, if_neg (by omega), gi_si, if_neg (by omega)]) (fun K i f r1 r2 => rfl) ⟨?_, ?_, ?_, q4, q5, q6⟩ ⟨(h.d1 hc).1, fun a' ha' => ⟨((h.d1 hc).2 a' ha').1, fun _ => ?_⟩⟩ (h.a1 hd.1) ⟨i1, i2, i3, fun a' ha' => ?_⟩ (h.ia hd.1) (Or.inr ⟨r, e4, by omega, ?_⟩)
  · unfold cPr mPr; rw [gi_si, if_neg (by omega), gi_si, if_neg (by omega), gi_si, if_pos ⟨rfl, rfl, rfl⟩, gi_si, if_neg (by omega), gi_si, if_neg (by omega), gi_si, if_pos ⟨rfl, rfl, rfl⟩]
  · unfold cPr mPr; rw [gi_si, if_neg (by omega), gi_si, if_pos ⟨rfl, rfl, rfl⟩, gi_si, if_neg (by omega), gi_si, if_pos ⟨rfl, rfl, rfl⟩, q2]
  · unfold cPr mPr; rw [gi_si, if_pos ⟨rfl, rfl, rfl⟩, gi_si, if_pos ⟨rfl, rfl, rfl⟩]
  · have : a' = a := Option.some.inj (ha'.symm.trans ha)
    subst this
    exact ((h.d1 hc).2 a' ha).2 hv
  · have : a' = a := Option.some.inj (ha'.symm.trans ha)
    subst this
    refine ⟨hd.1, hd.2.1, φ2, r + 1, b, ?_, ?_, e6, hb, hφ, ⟨by omega, hr⟩, hk, fun q q' => absurd q' (hw q)⟩
    · unfold cPr; rw [gi_si, if_neg (by omega), gi_si, if_neg (by omega), gi_si, if_pos ⟨rfl, rfl, rfl⟩]
    · unfold cPr; rw [gi_si, if_neg (by omega), gi_si, if_pos ⟨rfl, rfl, rfl⟩, e4, nI_1]
  · unfold cPr; rw [gi_si, if_neg (by omega), gi_si, if_pos ⟨rfl, rfl, rfl⟩, e4, nI_1]
/-- a write has its tag: from asking to storing -/
theorem Cx.prepW {n tc ac cn c a r b : Nat} {Z : zZ} {S M : zS} (h : Cx n tc ac cn Z S M) (hc : c < 4) (ha : gr S 2 c 2 = some a) (e3 : gi S 2 c 3 = 1) (e4 : gi S 2 c 4 = nI r) (e6 : gi S 2 c 6 = nI b) (hb : b < tc) (hr : r + 1 ≤ 2 + b) (hk : gi S 0 a 1 = 1) :
    Cx n tc ac cn Z (cPr (s_X0_showTag (s_X6_put S (10 + c) ((gi S 6 (10 + c) (0)) + (1)) (gi S 0 (a) (0)) (gj S 0 (a) (8))) (a) (10 + c)) c 2) (mPr (si (si M 9 125 (a + 1) (gi M 9 118 c + 1)) 9 126 (a + 1) (gi M 9 111 c)) c 2) := by
  have hd := (h.ic hc).2.2.2 a ha
  have htc := h.2.1.1.2.1.2
  obtain ⟨i1, i2, i3, i4⟩ := h.ic hc
  obtain ⟨q1, q2, q3, q4, q5, q6⟩ := h.c1 hc
  obtain ⟨p0, p1, p2, p3, p4, p5, p6, p7, p8⟩ := h.a1 hd.1
  have hdq := (h.d1 hc).2 a ha
  obtain ⟨v1, v2, v3⟩ := hdq.2 (fun q => by rw [e3] at q; exact absurd q.1 (by decide))
  have hB : ∀ k j f, gi (s_X0_showTag (s_X6_put S (10 + c) ((gi S 6 (10 + c) (0)) + (1)) (gi S 0 (a) (0)) (gj S 0 (a) (8))) (a) (10 + c)) k j f = if k = 0 ∧ j = a ∧ f = 6 then gi S 0 a 0 else if k = 0 ∧ j = a ∧ f = 5 then gi S 6 (10 + c) 0 + 1 else if k = 6 ∧ j = 10 + c ∧ f = 1 then gi S 0 a 0 else if k = 6 ∧ j = 10 + c ∧ f = 0 then gi S 6 (10 + c) 0 + 1 else gi S k j f := fun k j f => by
    have t1 : gi (s_X6_put S (10 + c) ((gi S 6 (10 + c) (0)) + (1)) (gi S 0 (a) (0)) (gj S 0 (a) (8))) 6 (10 + c) 1 = gi S 0 a 0 := by rw [put6_gi, if_pos ⟨rfl, rfl, rfl⟩]
    have t0 : gi (s_X6_put S (10 + c) ((gi S 6 (10 + c) (0)) + (1)) (gi S 0 (a) (0)) (gj S 0 (a) (8))) 6 (10 + c) 0 = gi S 6 (10 + c) 0 + 1 := by rw [put6_gi, if_neg (by omega), if_pos ⟨rfl, rfl, rfl⟩]
    rw [tag_gi, t1, t0, put6_gi]
  have hBj : ∀ k j f, gj (s_X0_showTag (s_X6_put S (10 + c) ((gi S 6 (10 + c) (0)) + (1)) (gi S 0 (a) (0)) (gj S 0 (a) (8))) (a) (10 + c)) k j f = if k = 6 ∧ j = 10 + c ∧ f = 2 then gj S 0 a 8 else gj S k j f := fun k j f => by
    show gj (s_X6_put S (10 + c) ((gi S 6 (10 + c) (0)) + (1)) (gi S 0 (a) (0)) (gj S 0 (a) (8))) k j f = _
    rw [put6_gj]
  have hR : (s_X0_showTag (s_X6_put S (10 + c) ((gi S 6 (10 + c) (0)) + (1)) (gi S 0 (a) (0)) (gj S 0 (a) (8))) (a) (10 + c)).2.2 = S.2.2 := rfl
  generalize s_X0_showTag (s_X6_put S (10 + c) ((gi S 6 (10 + c) (0)) + (1)) (gi S 0 (a) (0)) (gj S 0 (a) (8))) (a) (10 + c) = B at *
  have oB : ∀ k j f, ¬ (k = 0 ∧ j = a ∧ (f = 5 ∨ f = 6)) → ¬ (k = 6 ∧ j = 10 + c ∧ (f = 0 ∨ f = 1)) → gi B k j f = gi S k j f := fun k j f r1 r2 => by rw [hB, if_neg (by omega), if_neg (by omega), if_neg (by omega), if_neg (by omega)]
  have oP : ∀ k j f, ¬ (k = 2 ∧ j = c ∧ (f = 3 ∨ f = 4 ∨ f = 5)) → gi (cPr B c 2) k j f = gi B k j f := fun k j f r => by unfold cPr; rw [gi_si, if_neg (by omega), gi_si, if_neg (by omega), gi_si, if_neg (by omega)]
  have oM : ∀ k j f, ¬ (k = 9 ∧ f = c ∧ (j = 112 ∨ j = 113 ∨ j = 117)) → ¬ (k = 9 ∧ f = a + 1 ∧ (j = 125 ∨ j = 126)) → gi (mPr (si (si M 9 125 (a + 1) (gi M 9 118 c + 1)) 9 126 (a + 1) (gi M 9 111 c)) c 2) k j f = gi M k j f := fun k j f r1 r2 => by unfold mPr; rw [gi_si, if_neg (by omega), gi_si, if_neg (by omega), gi_si, if_neg (by omega), gi_si, if_neg (by omega), gi_si, if_neg (by omega)]
  have w3 : gi (cPr B c 2) 2 c 3 = 2 := by unfold cPr; rw [gi_si, if_neg (by omega), gi_si, if_neg (by omega), gi_si, if_pos ⟨rfl, rfl, rfl⟩]
  have w4 : gi (cPr B c 2) 2 c 4 = gi S 2 c 4 + 1 := by unfold cPr; rw [gi_si, if_neg (by omega), gi_si, if_pos ⟨rfl, rfl, rfl⟩, oB _ _ _ (by omega) (by omega)]
  have w5 : gi (cPr B c 2) 2 c 5 = 0 := by unfold cPr; rw [gi_si, if_pos ⟨rfl, rfl, rfl⟩]
  have wo : ∀ f, f ≠ 3 → f ≠ 4 → f ≠ 5 → gi (cPr B c 2) 2 c f = gi S 2 c f := fun f r1 r2 r3 => by rw [oP _ _ _ (by omega), oB _ _ _ (by omega) (by omega)]
  have wa : ∀ f, f ≠ 5 → f ≠ 6 → gi (cPr B c 2) 0 a f = gi S 0 a f := fun f r1 r2 => by rw [oP _ _ _ (by omega), oB _ _ _ (by omega) (by omega)]
  have wa5 : gi (cPr B c 2) 0 a 5 = gi S 6 (10 + c) 0 + 1 := by rw [oP _ _ _ (by omega), hB, if_neg (by omega), if_pos ⟨rfl, rfl, rfl⟩]
  have wa6 : gi (cPr B c 2) 0 a 6 = gi S 0 a 0 := by rw [oP _ _ _ (by omega), hB, if_pos ⟨rfl, rfl, rfl⟩]
  have wv0 : gi (cPr B c 2) 6 (10 + c) 0 = gi S 6 (10 + c) 0 + 1 := by rw [oP _ _ _ (by omega), hB, if_neg (by omega), if_neg (by omega), if_neg (by omega), if_pos ⟨rfl, rfl, rfl⟩]
  have wv1 : gi (cPr B c 2) 6 (10 + c) 1 = gi S 0 a 0 := by rw [oP _ _ _ (by omega), hB, if_neg (by omega), if_neg (by omega), if_pos ⟨rfl, rfl, rfl⟩]
  have wj : ∀ k j f, gj (cPr B c 2) k j f = gj B k j f := fun k j f => rfl
  refine h.cli hc ha hR (fun K i f r1 r2 r3 => by rw [oP _ _ _ (by omega), oB _ _ _ (by omega) (by omega)]) (fun K i f r1 r2 => by rw [wj, hBj, if_neg (by omega)]) (fun K i f r1 r2 => oM _ _ _ (by omega) (by omega)) (fun K i f r1 r2 => rfl) ⟨?_, ?_, ?_, ?_, ?_, ?_⟩ ⟨fun q => ?_, fun a' ha' => ⟨?_, fun q => ?_⟩⟩ ⟨?_, ?_, ?_, ?_, ?_, ?_, ?_, ?_, ?_⟩ ⟨?_, ?_, ?_, fun a' ha' => ?_⟩ ?_ (Or.inr ⟨r, e4, by omega, ?_⟩)
  · rw [w3]; unfold mPr; rw [gi_si, if_neg (by omega), gi_si, if_neg (by omega), gi_si, if_pos ⟨rfl, rfl, rfl⟩]
  · rw [w4]; unfold mPr; rw [gi_si, if_neg (by omega), gi_si, if_pos ⟨rfl, rfl, rfl⟩, gi_si, if_neg (by omega), gi_si, if_neg (by omega), q2]
  · rw [w5]; unfold mPr; rw [gi_si, if_pos ⟨rfl, rfl, rfl⟩]
  · rw [wo _ (by omega) (by omega) (by omega), oM _ _ _ (by omega) (by omega)]; exact q4
  · rw [wo _ (by omega) (by omega) (by omega), oM _ _ _ (by omega) (by omega)]; exact q5
  · rw [wo _ (by omega) (by omega) (by omega), oM _ _ _ (by omega) (by omega)]; exact q6
  · have q : gr S 2 c 2 = none := (gr_of hR).symm.trans q
    rw [ha] at q; cases q
  · have ha' : gr S 2 c 2 = some a' := (gr_of hR).symm.trans ha'
    rw [oM _ _ _ (by omega) (by omega)]; exact ((h.d1 hc).2 a' ha').1
  · have ha' : gr S 2 c 2 = some a' := (gr_of hR).symm.trans ha'
    have : a' = a := Option.some.inj (ha'.symm.trans ha)
    subst this
    exact absurd ⟨w3, (wa 1 (by omega) (by omega)).trans hk⟩ q
  · rw [wa _ (by omega) (by omega)]; exact p0
  · rw [wa _ (by omega) (by omega), oM _ _ _ (by omega) (by omega)]; exact p1
  · rw [wa _ (by omega) (by omega), oM _ _ _ (by omega) (by omega)]; exact p2
  · rw [wa _ (by omega) (by omega), oM _ _ _ (by omega) (by omega)]; exact p3
  · rw [wa _ (by omega) (by omega), oM _ _ _ (by omega) (by omega)]; exact p4
  · rw [wa5, v1]; unfold mPr; rw [gi_si, if_neg (by omega), gi_si, if_neg (by omega), gi_si, if_neg (by omega), gi_si, if_neg (by omega), gi_si, if_pos ⟨rfl, rfl, rfl⟩]
  · rw [wa6, p0, ← hdq.1]; unfold mPr; rw [gi_si, if_neg (by omega), gi_si, if_neg (by omega), gi_si, if_neg (by omega), gi_si, if_pos ⟨rfl, rfl, rfl⟩]
  · rw [wa _ (by omega) (by omega), oM _ _ _ (by omega) (by omega)]; exact p7
  · rw [wj, hBj, if_neg (by omega)]; exact p8
  · rw [wo _ (by omega) (by omega) (by omega)]; exact i1
  · rw [wo _ (by omega) (by omega) (by omega)]; exact i2
  · rw [wo _ (by omega) (by omega) (by omega)]; exact i3
  · have ha' : gr S 2 c 2 = some a' := (gr_of hR).symm.trans ha'
    have : a' = a := Option.some.inj (ha'.symm.trans ha)
    subst this
    refine ⟨hd.1, by rw [wa _ (by omega) (by omega)]; exact hd.2.1, 2, r + 1, b, w3, by rw [w4, e4, nI_1], by rw [wo _ (by omega) (by omega) (by omega)]; exact e6, hb, by omega, ⟨by omega, by omega, by omega⟩, Or.inl ⟨by omega, Or.inr (by rw [wa _ (by omega) (by omega)]; exact hk)⟩, fun _ _ => ⟨by rw [wv0, wa5], by rw [wv1, wa6], ?_⟩⟩
    rw [wj, hBj, if_pos ⟨rfl, rfl, rfl⟩, wj, hBj, if_neg (by omega)]
  · have := h.ia hd.1
    unfold ivA1 at this ⊢
    rw [wa _ (by omega) (by omega)]; exact this
  · rw [w4, e4, nI_1]
