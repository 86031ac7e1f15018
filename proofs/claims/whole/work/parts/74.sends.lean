theorem setB {S : zS} {p c a : Nat} {x v w1 w2 : Int32} {w3 : Int64} (h1 : gi S 6 (10 + c) 0 = w1) (h2 : gi S 6 (10 + c) 1 = w2) (h3 : gj S 6 (10 + c) 2 = w3) : s_X6_set (sqB S p c a x v) (20 + p) (10 + c) = s_X6_put (sqB S p c a x v) (20 + p) w1 w2 w3 := by
  obtain ⟨b1, b2, -⟩ := @sqB_gi S p c a x v
  show s_X6_put (sqB S p c a x v) (20 + p) (gi (sqB S p c a x v) 6 (10 + c) 0) (gi (sqB S p c a x v) 6 (10 + c) 1) (gj (sqB S p c a x v) 6 (10 + c) 2) = _
  rw [b1 _ _ _ (by omega) (by omega), b1 _ _ _ (by omega) (by omega), b2, h1, h2, h3]
theorem Cx.ask {n tc ac cn c a k : Nat} {Z : zZ} {S M : zS} (h : Cx n tc ac cn Z S M) (hc : c < 4) (ha : gr S 2 c 2 = some a) (hk : k < n) :
    ∃ cn2, Cx n tc ac cn2 Z (s_X7_sendRequest S n c a (nI k)) (s_X8_ask M (ix (gi M 8 0 44)) (nI c) (nI k)) ∧ ∀ i f, gi (s_X7_sendRequest S n c a (nI k)) 2 i f = gi S 2 i f := by
  have hcm := h.cm
  have hcs := h.cn
  have hcq := h.2.2.2.2.2.1 c hc
  have hdq := (h.2.2.2.2.2.2.1 c hc).2 a ha
  have hci := h.2.1.2.2.2.2.1 c hc
  have hdi := hci.2.2.2 a ha
  have haq := h.2.2.2.2.2.2.2.1 a hdi.1
  have hac := h.2.1.1.2.2.1
  rw [h.mcn, ix_nI (by omega)]
  by_cases hcn : cn < 300
  · have hix : ix (gi M 9 111 c) = a + 1 := by rw [hdq.1, ix_nI (by have := hdi.1; omega)]
    obtain ⟨hd1, hd2, φ, r, b, d1, d2, d3, d4, d5, d6, d7, d8⟩ := hdi
    have hm : gi M 9 112 c = nI φ := hcq.1.symm.trans d1
    refine ⟨cn + 1, ?_⟩
    unfold s_X7_sendRequest s_X8_ask
    simp only [ix_nI (show c < 2 ^ 31 by omega)]
    rw [pif_pos (by rw [hcs]; exact l300 hcn), show ix (gi S 1 0 2) = cn by rw [hcs, ix_nI (by omega)], hix]
    have hφ : φ = 1 ∨ φ = 2 ∨ φ = 3 ∨ φ = 4 ∨ φ = 5 := by omega
    rcases hφ with rfl | rfl | rfl | rfl | rfl
    · rw [pif_neg (show ¬ gi S 2 c 3 = 3 by rw [d1]; decide), pif_neg (show ¬ gi S 2 c 3 = 5 by rw [d1]; decide), pif_neg (show ¬ gi S 2 c 3 = 2 by rw [d1]; decide), pif_neg (show ¬ gi S 2 c 3 = 4 by rw [d1]; decide), pif_neg (show ¬ gi M 9 112 c = 2 by rw [hm]; decide), pif_neg (show ¬ gi M 9 112 c = 4 by rw [hm]; decide), pif_neg (show ¬ gi M 9 112 c = 3 by rw [hm]; decide), pif_neg (show ¬ gi M 9 112 c = 5 by rw [hm]; decide)]
      exact ⟨h.req hcn hc ha hk (v := -1) (w1 := 0) (w2 := 0) (w3 := 0) rfl rfl (fun q => by rw [d1] at q; exact absurd q (by decide)), fun i f => rfl⟩
    · rw [pif_neg (show ¬ gi S 2 c 3 = 3 by rw [d1]; decide), pif_neg (show ¬ gi S 2 c 3 = 5 by rw [d1]; decide), pif_pos (show gi S 2 c 3 = 2 by rw [d1]; decide), pif_pos (show gi M 9 112 c = 2 by rw [hm]; decide)]
      by_cases hk1 : gi M 9 121 (a + 1) = 1
      · rw [pif_pos hk1]
        have d9 := d8 rfl (haq.2.1.trans hk1)
        exact ⟨h.req hcn hc ha hk (v := -1) (setB (d9.1.trans haq.2.2.2.2.2.1) (d9.2.1.trans haq.2.2.2.2.2.2.1) (d9.2.2.trans haq.2.2.2.2.2.2.2.2)) rfl (fun q => by rw [d1] at q; exact absurd q (by decide)), fun i f => rfl⟩
      · rw [pif_neg hk1]
        have d9 := hdq.2 (fun q => hk1 (haq.2.1.symm.trans q.2))
        exact ⟨h.req hcn hc ha hk (v := -1) (setB d9.1 d9.2.1 d9.2.2) rfl (fun q => by rw [d1] at q; exact absurd q (by decide)), fun i f => rfl⟩
    · rw [pif_pos (show gi S 2 c 3 = 3 by rw [d1]; decide), pif_neg (show ¬ gi M 9 112 c = 2 by rw [hm]; decide), pif_neg (show ¬ gi M 9 112 c = 4 by rw [hm]; decide), pif_pos (show gi M 9 112 c = 3 by rw [hm]; decide)]
      exact ⟨h.req hcn hc ha hk (v := gi S 0 a 7) (w1 := 0) (w2 := 0) (w3 := 0) rfl haq.2.2.2.2.2.2.2.1 (fun _ => d7.elim (fun q => absurd q.1 (by omega)) (fun q => q.2.2)), fun i f => rfl⟩
    · rw [pif_neg (show ¬ gi S 2 c 3 = 3 by rw [d1]; decide), pif_neg (show ¬ gi S 2 c 3 = 5 by rw [d1]; decide), pif_neg (show ¬ gi S 2 c 3 = 2 by rw [d1]; decide), pif_pos (show gi S 2 c 3 = 4 by rw [d1]; decide), pif_neg (show ¬ gi M 9 112 c = 2 by rw [hm]; decide), pif_pos (show gi M 9 112 c = 4 by rw [hm]; decide)]
      have d9 := hdq.2 (fun q => by rw [d1] at q; exact absurd q.1 (by decide))
      exact ⟨h.req hcn hc ha hk (v := -1) (setB d9.1 d9.2.1 d9.2.2) rfl (fun q => by rw [d1] at q; exact absurd q (by decide)), fun i f => rfl⟩
    · rw [pif_neg (show ¬ gi S 2 c 3 = 3 by rw [d1]; decide), pif_pos (show gi S 2 c 3 = 5 by rw [d1]; decide), pif_neg (show ¬ gi M 9 112 c = 2 by rw [hm]; decide), pif_neg (show ¬ gi M 9 112 c = 4 by rw [hm]; decide), pif_neg (show ¬ gi M 9 112 c = 3 by rw [hm]; decide), pif_pos (show gi M 9 112 c = 5 by rw [hm]; decide)]
      exact ⟨h.req hcn hc ha hk (v := gi S 0 a 7) (w1 := 0) (w2 := 0) (w3 := 0) rfl haq.2.2.2.2.2.2.2.1 (fun _ => d7.elim (fun q => absurd q.1 (by omega)) (fun q => q.2.2)), fun i f => rfl⟩
  · have e3 : cn = 300 := by omega
    subst e3
    refine ⟨300, ?_⟩
    obtain ⟨x4, x5, x6, x7, x8, v, x9, e⟩ := @ask_put M 300 (nI c) (nI k)
    rw [e]
    unfold s_X7_sendRequest s_X8_put
    rw [pif_neg (by rw [hcs]; decide), pif_pos (by decide)]
    exact ⟨h.lost, fun i f => rfl⟩
theorem Cx.sends {n tc ac c a : Nat} {Z : zZ} (hc : c < 4) : ∀ (f k : Nat) (cn : Nat) (S M : zS) (r : Int32), Cx n tc ac cn Z S M → gr S 2 c 2 = some a → k + f = n → gi S 2 c 5 = 0 → ∃ cn2, Cx n tc ac cn2 Z (lSend n c a f k S r).1 (lAsk (nI c) f k M) := by
  intro f
  induction f with
  | zero => intro k cn S M r h _ _ _; exact ⟨cn, h⟩
  | succ f ih =>
    intro k cn S M r h ha hk h0
    obtain ⟨cn2, g1, g2⟩ := h.ask hc ha (show k < n by omega)
    have hh : r_X2_hasAnswerOf S c (nI k) = 0 := by
      unfold r_X2_hasAnswerOf
      rw [h0, pif_neg]
      rw [Int32.zero_shiftRight]
      decide
    show ∃ cn2, Cx n tc ac cn2 Z (pif (r_X2_hasAnswerOf S c (nI k) = 0) (lSend n c a f (k + 1) (s_X7_sendRequest S n c a (nI k)) (r + 1)) (lSend n c a f (k + 1) S r)).1 (lAsk (nI c) f (k + 1) (s_X8_ask M (ix (gi M 8 0 44)) (nI c) (nI k)))
    rw [pif_pos hh]
    exact ih (k + 1) cn2 _ _ _ g1 (by rw [gr_of k_X7_sendRequest]; exact ha) (by omega) (by rw [g2]; exact h0)
theorem Cx.agains {n tc ac c a : Nat} {Z : zZ} (hc : c < 4) : ∀ (f k : Nat) (cn : Nat) (S M : zS) (r : Int32), Cx n tc ac cn Z S M → gr S 2 c 2 = some a → k + f = n → ∃ cn2, Cx n tc ac cn2 Z (lSend n c a f k S r).1 (lAg (nI c) f k M r).1 ∧ (lSend n c a f k S r).2 = (lAg (nI c) f k M r).2 := by
  intro f
  induction f with
  | zero => intro k cn S M r h _ _; exact ⟨cn, h, rfl⟩
  | succ f ih =>
    intro k cn S M r h ha hk
    obtain ⟨cn2, g1, g2⟩ := h.ask hc ha (show k < n by omega)
    have hcq := (h.2.2.2.2.2.1 c hc).2.2.1
    show ∃ cn2, Cx n tc ac cn2 Z (pif (r_X2_hasAnswerOf S c (nI k) = 0) (lSend n c a f (k + 1) (s_X7_sendRequest S n c a (nI k)) (r + 1)) (lSend n c a f (k + 1) S r)).1 (pif ((((gi M 9 (117) (ix (nI c))) >>> ((nI k) &&& 31)) &&& (1)) = (1)) (lAg (nI c) f (k + 1) M r) (lAg (nI c) f (k + 1) (s_X8_ask M (ix (gi M 8 0 44)) (nI c) (nI k)) (r + 1))).1 ∧ (pif (r_X2_hasAnswerOf S c (nI k) = 0) (lSend n c a f (k + 1) (s_X7_sendRequest S n c a (nI k)) (r + 1)) (lSend n c a f (k + 1) S r)).2 = (pif ((((gi M 9 (117) (ix (nI c))) >>> ((nI k) &&& 31)) &&& (1)) = (1)) (lAg (nI c) f (k + 1) M r) (lAg (nI c) f (k + 1) (s_X8_ask M (ix (gi M 8 0 44)) (nI c) (nI k)) (r + 1))).2
    rw [ix_nI (by omega), ← hcq]
    by_cases hb : (((gi S 2 c 5) >>> ((nI k) &&& 31)) &&& (1)) = (1)
    · have hh : ¬ r_X2_hasAnswerOf S c (nI k) = 0 := by
        unfold r_X2_hasAnswerOf
        rw [pif_pos hb]; decide
      rw [pif_neg hh, pif_pos hb]
      exact ih (k + 1) cn _ _ _ h ha (by omega)
    · have hh : r_X2_hasAnswerOf S c (nI k) = 0 := by
        unfold r_X2_hasAnswerOf
        rw [pif_neg hb]
      rw [pif_pos hh, pif_neg hb]
      exact ih (k + 1) cn2 _ _ _ g1 (by rw [gr_of k_X7_sendRequest]; exact ha) (by omega)
