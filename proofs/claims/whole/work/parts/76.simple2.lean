theorem zV.rest {n : Nat} {Z : zZ} {R : zR} {c : Nat} (h : zV n Z R) : zV n Z (up3 R 2 c 2 none) := by
  refine ⟨h.1, h.2.1, h.2.2.1, h.2.2.2.1, h.2.2.2.2.1, h.2.2.2.2.2.1, fun c' hc' => ?_⟩
  rw [up3_eq]
  by_cases e : c' = c
  · exact Or.inl (by rw [if_pos ⟨rfl, e, rfl⟩])
  · rw [if_neg (by omega)]
    exact h.2.2.2.2.2.2 c' hc'
/-- a message beside a change of client c -/
theorem ivM1.tr2 {n tc ac : Nat} {S S' : zS} {p c : Nat} (h : ivM1 n tc ac S p) (e4 : ∀ f, gi S' 4 p f = gi S 4 p f) (er : ∀ c', c' < 4 → c' ≠ c → gr S' 2 c' 2 = gr S 2 c' 2) (e2 : ∀ c', c' < 4 → c' ≠ c → gi S' 2 c' 3 = gi S 2 c' 3 ∧ gi S' 2 c' 4 = gi S 2 c' 4)
    (hc : ∀ a, a < ac → (gr S 2 c 2 = some a → ∃ r q, gi S 2 c 4 = nI r ∧ gi S 4 p 6 = nI q ∧ q ≤ r ∧ r < 100 ∧ (q = r → gi S 4 p 5 = gi S 2 c 3)) → gr S' 2 c 2 = some a → ∃ r q, gi S' 2 c 4 = nI r ∧ gi S 4 p 6 = nI q ∧ q ≤ r ∧ r < 100 ∧ (q = r → gi S 4 p 5 = gi S' 2 c 3)) : ivM1 n tc ac S' p := by
  obtain ⟨k, c', a, h1, h2, h3, h4, h5, h6, h7, h8, h9⟩ := h
  refine ⟨k, c', a, h1, h2, h3, ?_⟩
  simp only [e4]
  refine ⟨h4, h5, h6, h7, h8, ?_⟩
  by_cases e : c' = c
  · subst e
    exact hc a h3 h9
  · rw [er c' h2 e, (e2 c' h2 e).1, (e2 c' h2 e).2]
    exact h9
theorem Cx.rest {n tc ac cn c : Nat} {Z : zZ} {S M : zS} (h : Cx n tc ac cn Z S M) (hc : c < 4) : Cx n tc ac cn Z (s_X2_rest S c) (s_X8_end M (nI c)) := by
  obtain ⟨hV, ⟨i1, i2, i3, i4, i5, i6, i7⟩, ⟨g1, g2, g3, g4, g5, g6, g7, g8⟩⟩ := h
  have er : ∀ k i f, ¬ (k = 2 ∧ i = c ∧ f = 2) → gr (s_X2_rest S c) k i f = gr S k i f := fun k i f q => by
    unfold s_X2_rest; rw [gr_si, gr_si, gr_sr, if_neg q]
  have e0 : gr (s_X2_rest S c) 2 c 2 = none := by unfold s_X2_rest; rw [gr_si, gr_si, gr_sr, if_pos ⟨rfl, rfl, rfl⟩]
  have e2 : ∀ c' f, c' ≠ c → gi (s_X2_rest S c) 2 c' f = gi S 2 c' f := fun c' f q => by unfold s_X2_rest; rw [gi_si, if_neg (by omega), gi_si, if_neg (by omega), gi_sr]
  have hx : ix (nI c) = c := ix_nI (by omega)
  have m9 : ∀ i f, f ≠ c → gi (s_X8_end M (nI c)) 9 i f = gi M 9 i f := fun i f q => by unfold s_X8_end; rw [hx, gi_si, if_neg (by omega), gi_si, if_neg (by omega), gi_si, if_neg (by omega)]
  refine ⟨hV.rest, ⟨i1, i2, i3, i4, fun c' hc' => ?_, fun j hj => ?_, i7⟩, ⟨g1, g2, g3, fun c' hc' => ?_, fun c' hc' => ?_, g6, g7, g8⟩⟩
  · by_cases e : c' = c
    · subst e
      obtain ⟨a1, a2, a3, a4⟩ := i5 c' hc'
      exact ⟨a1, a2, a3, fun a ha => by rw [e0] at ha; cases ha⟩
    · exact (i5 c' hc').tr (er _ _ _ (by omega)) (fun f _ _ => e2 c' f e) (fun a _ f => ⟨rfl, rfl⟩) (fun f => ⟨rfl, rfl⟩)
  · exact (i6 j hj).tr2 (c := c) (fun f => rfl) (fun c' _ q => er _ _ _ (by omega)) (fun c' _ q => ⟨e2 c' _ q, e2 c' _ q⟩) (fun a _ _ q => by rw [e0] at q; cases q)
  · by_cases e : c' = c
    · subst e
      obtain ⟨a1, a2, a3, a4⟩ := g4 c' hc'
      refine ⟨?_, ?_, ?_, ?_⟩
      · unfold s_X2_rest s_X8_end; rw [hx, gi_si, if_neg (by omega), gi_si, if_pos ⟨rfl, rfl, rfl⟩, gi_si, if_neg (by omega), gi_si, if_pos ⟨rfl, rfl, rfl⟩]
      · exact a2
      · unfold s_X2_rest s_X8_end; rw [hx, gi_si, if_pos ⟨rfl, rfl, rfl⟩, gi_si, if_pos ⟨rfl, rfl, rfl⟩]
      · exact a4
    · exact (g4 c' hc').tr (fun f => e2 c' f e) (fun i _ _ => m9 i c' e)
  · by_cases e : c' = c
    · subst e
      refine ⟨fun _ => ?_, fun a ha => by rw [e0] at ha; cases ha⟩
      unfold s_X8_end; rw [hx, gi_si, if_neg (by omega), gi_si, if_neg (by omega), gi_si, if_pos ⟨rfl, rfl, rfl⟩]
    · exact (g5 c' hc').tr (er _ _ _ (by omega)) (e2 c' _ e) (fun a _ => rfl) (fun f => ⟨rfl, rfl⟩) (m9 _ c' e) (fun i _ _ => m9 i c' e) rfl
/-- what client c is doing, on both sides -/
theorem Cx.doing {n tc ac cn c : Nat} {Z : zZ} {S M : zS} (h : Cx n tc ac cn Z S M) (hc : c < 4) : (gr S 2 c 2 = none ∧ gi M 9 111 c = -1 ∧ ¬ (0 : Int32) ≤ gi M 9 111 c) ∨ ∃ a, a < ac ∧ ac ≤ 200 ∧ gr S 2 c 2 = some a ∧ gi M 9 111 c = nI (a + 1) ∧ (0 : Int32) ≤ gi M 9 111 c ∧ gi S 0 a 0 = nI (a + 1) := by
  have hd := h.2.2.2.2.2.2.1 c hc
  have hi := h.2.1.2.2.2.2.1 c hc
  have hac := h.2.1.1.2.2.1
  cases e : gr S 2 c 2 with
  | none =>
    have := hd.1 e
    exact Or.inl ⟨rfl, this, by rw [this]; decide⟩
  | some a =>
    have e1 := (hd.2 a e).1
    have e2 := (hi.2.2.2 a e).1
    exact Or.inr ⟨a, e2, hac, rfl, e1, by rw [e1]; exact nI_pos' (by omega), (h.2.2.2.2.2.2.2.1 a e2).1⟩
theorem x_halt {n tc ac cn : Nat} {Z : zZ} {S M : zS} {x : Int32} (h : Cx n tc ac cn Z S M) : r_X7_halt S n x = r_X8_halt M x ∧ Cx n tc ac cn Z (s_X7_halt S n x) (s_X8_halt M x) := by
  unfold r_X7_halt r_X8_halt s_X7_halt s_X8_halt
  rcases client_cases (M := M) x with ⟨c1, c2⟩ | ⟨q, hq, hx, c1, c2, c3⟩
  · rw [oel_n c1, oel_n c1, pif_pos c2, pif_pos c2]; exact ⟨rfl, h⟩
  · rw [oel_s c1, oel_s c1, pif_neg c2, pif_neg c2, hx, ix_nI (by omega)]
    rcases h.doing hq with ⟨d1, d2, d3⟩ | ⟨a, d0, dc, d1, d2, d3, d4⟩
    · rw [oel_n d1, oel_n d1, pif_neg d3, pif_neg d3]; exact ⟨rfl, h⟩
    · rw [oel_s d1, oel_s d1, pif_pos d3, pif_pos d3]
      refine ⟨?_, h.clock.rest hq⟩
      rw [d2]; exact d4
theorem x_again {n tc ac cn : Nat} {Z : zZ} {S M : zS} {x : Int32} (h : Cx n tc ac cn Z S M) : r_X7_again S n x = r_X8_again M n x ∧ ∃ cn2, Cx n tc ac cn2 Z (s_X7_again S n x) (s_X8_again M n x) := by
  unfold r_X7_again r_X8_again s_X7_again s_X8_again
  rcases client_cases (M := M) x with ⟨c1, c2⟩ | ⟨q, hq, hx, c1, c2, c3⟩
  · rw [oel_n c1, oel_n c1, pif_pos c2, pif_pos c2]; exact ⟨rfl, cn, h⟩
  · rw [oel_s c1, oel_s c1, pif_neg c2, pif_neg c2, hx, ix_nI (by omega)]
    rcases h.doing hq with ⟨d1, d2, d3⟩ | ⟨a, d0, dc, d1, d2, d3, d4⟩
    · rw [oel_n d1, oel_n d1, pif_neg d3, pif_neg d3]; exact ⟨rfl, cn, h⟩
    · rw [oel_s d1, oel_s d1, pif_pos d3, pif_pos d3]
      obtain ⟨cn2, g1, g2⟩ := Cx.agains hq n 0 cn S M 0 h d1 (by omega)
      exact ⟨g2, cn2, g1⟩
/-- a place of the air: none such, or row i -/
theorem air_cases {n tc ac cn : Nat} {Z : zZ} {S M : zS} (h : Cx n tc ac cn Z S M) (x : Int32) : (r_X1_at S (pmR S.2.2) x = none ∧ (x < 0 ∨ nI cn ≤ x)) ∨ ∃ i, i < cn ∧ x = nI i ∧ r_X1_at S (pmR S.2.2) x = some (pmR S.2.2 i) ∧ ¬ x < 0 ∧ x < nI cn := by
  have hcm := h.cm
  by_cases h0 : x < 0
  · exact Or.inl ⟨by unfold r_X1_at; rw [pif_pos h0], Or.inl h0⟩
  · by_cases h1 : nI cn ≤ x
    · exact Or.inl ⟨by unfold r_X1_at; rw [pif_neg h0, h.cn, pif_pos h1], Or.inr h1⟩
    · have hl := ix_lt_nI h0 h1 (by omega)
      have hx := (nI_ix h0).symm
      refine Or.inr ⟨ix x, hl, hx, ?_, h0, Int32.not_le.mp h1⟩
      have e := rAt_nI (pm := pmR S.2.2) h.cn hcm hl
      rw [← hx] at e
      exact e
theorem x_lose {n tc ac cn i : Nat} {Z : zZ} {S M : zS} (h : Cx n tc ac cn Z S M) (hi : i < cn) : r_X7_lose S n (nI i) = r_X8_lose M n i ∧ Cx n tc ac (cn - 1) Z (s_X7_lose S n (nI i)) (s_X8_lose M n i) := by
  have hcm := h.cm
  unfold r_X7_lose r_X8_lose s_X7_lose s_X8_lose
  refine ⟨r_take_some (rAt_nI h.cn hcm hi), ?_⟩
  rw [h.cn, h.mcn, ix_nI (by omega)]
  exact h.take hi
theorem x_lose_n {n tc ac cn : Nat} {Z : zZ} {S M : zS} {x : Int32} (_ : Cx n tc ac cn Z S M) (hi : r_X1_at S (pmR S.2.2) x = none) : r_X7_lose S n x = 0 ∧ s_X7_lose S n x = S := by
  unfold r_X7_lose s_X7_lose r_X1_take s_X1_take
  rw [oel_n hi, oel_n hi]; exact ⟨rfl, rfl⟩
theorem rep_gi {S : zS} {p q : Nat} : (∀ k i f, ¬ (k = 4 ∧ i = p) → ¬ (k = 6 ∧ i = 20 + p) → gi (s_X4_repeat S p q) k i f = gi S k i f) ∧ (∀ k i f, ¬ (k = 6 ∧ i = 20 + p) → gj (s_X4_repeat S p q) k i f = gj S k i f) ∧ (p ≠ q → (∀ f, 1 ≤ f → f ≤ 8 → gi (s_X4_repeat S p q) 4 p f = gi S 4 q f) ∧ gi (s_X4_repeat S p q) 6 (20 + p) 0 = gi S 6 (20 + q) 0 ∧ gi (s_X4_repeat S p q) 6 (20 + p) 1 = gi S 6 (20 + q) 1 ∧ gj (s_X4_repeat S p q) 6 (20 + p) 2 = gj S 6 (20 + q) 2) := by
  unfold s_X4_repeat
  refine ⟨fun k i f q1 q2 => ?_, fun k i f q1 => ?_, fun hpq => ⟨fun f q1 q2 => ?_, ?_, ?_, ?_⟩⟩
  · rw [set6_gi, if_neg (by omega), if_neg (by omega), gi_si, if_neg (by omega), gi_si, if_neg (by omega), gi_si, if_neg (by omega), gi_si, if_neg (by omega), gi_si, if_neg (by omega), gi_si, if_neg (by omega), gi_si, if_neg (by omega), gi_si, if_neg (by omega)]
  · rw [set6_gj, if_neg (by omega)]; rfl
  · rw [set6_gi, if_neg (by omega), if_neg (by omega)]
    have : f = 1 ∨ f = 2 ∨ f = 3 ∨ f = 4 ∨ f = 5 ∨ f = 6 ∨ f = 7 ∨ f = 8 := by omega
    rcases this with rfl | rfl | rfl | rfl | rfl | rfl | rfl | rfl <;> simp [gi_si]
  · rw [set6_gi, if_neg (by omega), if_pos ⟨rfl, rfl, rfl⟩]; rfl
  · rw [set6_gi, if_pos ⟨rfl, rfl, rfl⟩]; rfl
  · rw [set6_gj, if_pos ⟨rfl, rfl, rfl⟩]; rfl
theorem x_twice {n tc ac cn i : Nat} {Z : zZ} {S M : zS} (h : Cx n tc ac cn Z S M) (hi : i < cn) : r_X7_twice S n (nI i) = r_X8_twice M n i ∧ ∃ cn2, Cx n tc ac cn2 Z (s_X7_twice S n (nI i)) (s_X8_twice M n i) := by
  have hcm := h.cm
  have hcs := h.cn
  have hq := rAt_nI (pm := pmR S.2.2) h.cn hcm hi
  unfold r_X7_twice r_X8_twice s_X7_twice s_X8_twice
  rw [oel_s hq, oel_s hq, h.mcn, ix_nI (by omega)]
  by_cases hcn : cn < 300
  · have hl : gi S 1 0 2 < 300 := by rw [hcs]; exact l300 hcn
    rw [pif_pos hl, pif_pos hl, pif_pos hl, pif_pos hl, pif_neg (n300 hcn), pif_neg (n300 hcn)]
    refine ⟨rfl, cn + 1, ?_⟩
    rw [show ix (gi S 1 0 2) = cn by rw [hcs, ix_nI (by omega)]]
    have hpq : pmR S.2.2 cn ≠ pmR S.2.2 i := fun e => by
      have := h.1.inj hcn (by omega) e
      omega
    obtain ⟨p1, p2, p3, q1, q2, q3, q4, q5, q6, q7, q8, q9, q10, q11, q12⟩ := @put_pic M cn (gi M 11 132 i) (gi M 9 133 i) (gi M 9 134 i) (gi M 9 135 i) (gi M 9 136 i) (gi M 9 137 i) (gi M 9 138 i) (gi M 9 139 i) (gj M 10 143 i) (gi M 9 140 i) (gi M 9 141 i) (gi M 9 142 i) hcn
    obtain ⟨b1, b2, b3⟩ := @rep_gi (si S 1 0 2 (gi S 1 0 2 + 1)) (pmR S.2.2 cn) (pmR S.2.2 i)
    obtain ⟨b3, b4, b5, b6⟩ := b3 hpq
    have hR : (s_X4_repeat (si S 1 0 2 (gi S 1 0 2 + 1)) (pmR S.2.2 cn) (pmR S.2.2 i)).2.2 = S.2.2 := rfl
    generalize s_X8_put M cn (gi M 11 132 i) (gi M 9 133 i) (gi M 9 134 i) (gi M 9 135 i) (gi M 9 136 i) (gi M 9 137 i) (gi M 9 138 i) (gi M 9 139 i) (gj M 10 143 i) (gi M 9 140 i) (gi M 9 141 i) (gi M 9 142 i) = M' at *
    generalize s_X4_repeat (si S 1 0 2 (gi S 1 0 2 + 1)) (pmR S.2.2 cn) (pmR S.2.2 i) = S' at *
    have hrow := h.2.2.2.2.2.2.2.2.1 i hi
    have hinv := h.2.1.2.2.2.2.2.1 i hi
    generalize hp : pmR S.2.2 cn = p at *
    have o : ∀ k i f, ¬ (k = 4 ∧ i = p) → ¬ (k = 6 ∧ i = 20 + p) → ¬ (k = 1 ∧ i = 0 ∧ f = 2) → gi S' k i f = gi S k i f := fun k i f r1 r2 r3 => by rw [b1 _ _ _ r1 r2, gi_si, if_neg r3]
    have v4 : ∀ f, 1 ≤ f → f ≤ 8 → gi S' 4 p f = gi S 4 (pmR S.2.2 i) f := fun f r1 r2 => b3 f r1 r2
    refine h.app hcn hp.symm hR o (fun k i f r => by rw [b2 _ _ _ r]; rfl) p1 p2 ?_ p3 ?_ ?_ ?_
    · rw [b1 _ _ _ (by omega) (by omega), gi_si, if_pos ⟨rfl, rfl, rfl⟩, hcs, nI_1]
    · unfold cqR1 at hrow ⊢
      rw [v4 1 (by omega) (by omega), v4 2 (by omega) (by omega), v4 3 (by omega) (by omega), v4 4 (by omega) (by omega), v4 5 (by omega) (by omega), v4 6 (by omega) (by omega), v4 7 (by omega) (by omega), v4 8 (by omega) (by omega), q1, q2, q3, q4, q5, q6, q7, q8, q9, q10, q11, q12, b4, b5, b6]
      exact hrow
    · unfold ivM1 at hinv ⊢
      rw [v4 1 (by omega) (by omega), v4 2 (by omega) (by omega), v4 3 (by omega) (by omega), v4 4 (by omega) (by omega), v4 5 (by omega) (by omega), v4 6 (by omega) (by omega), v4 7 (by omega) (by omega), v4 8 (by omega) (by omega)]
      obtain ⟨k, c, a, hh⟩ := hinv
      refine ⟨k, c, a, ?_⟩
      rw [gr_of hR, o _ _ _ (by omega) (by omega) (by omega), o _ _ _ (by omega) (by omega) (by omega)]
      exact hh
    · rw [v4 1 (by omega) (by omega)]
      exact h.2.1.2.2.2.2.2.2 _ (h.1.pmlt (by omega))
  · have e3 : cn = 300 := by omega
    subst e3
    have hl : ¬ gi S 1 0 2 < 300 := by rw [hcs]; decide
    rw [pif_neg hl, pif_neg hl, pif_pos (by decide), pif_pos (by decide)]
    exact ⟨rfl, 300, h⟩
theorem x_twice_n {n tc ac cn : Nat} {Z : zZ} {S M : zS} {x : Int32} (_ : Cx n tc ac cn Z S M) (hi : r_X1_at S (pmR S.2.2) x = none) : r_X7_twice S n x = 0 ∧ s_X7_twice S n x = S := by
  unfold r_X7_twice s_X7_twice
  rw [oel_n hi, oel_n hi]; exact ⟨rfl, rfl⟩
