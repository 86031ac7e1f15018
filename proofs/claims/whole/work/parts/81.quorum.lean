theorem bit_s : ∀ k, k < 32 → ((nI k &&& 31).toBitVec.smod 32) = BitVec.ofNat 32 k := by decide +kernel
theorem bitq (x : Int32) {k : Nat} (hk : k < 32) : ((x >>> (nI k &&& 31)) &&& 1 = 1) ↔ ¬ (x &&& ((1 : Int32) <<< (nI k &&& 31)) = 0) := by
  have hs := bit_s k hk
  have h1 : (1 : Int32).toBitVec = 1#32 := rfl
  have h0 : (0 : Int32).toBitVec = 0#32 := rfl
  have hm : k % 2 ^ 32 = k := Nat.mod_eq_of_lt (by omega)
  rw [← Int32.toBitVec_inj, ← Int32.toBitVec_inj, Int32.toBitVec_and, Int32.toBitVec_and, Int32.toBitVec_shiftRight, Int32.toBitVec_shiftLeft, hs, h1, h0]
  generalize x.toBitVec = b
  have key1 : (b.sshiftRight' (BitVec.ofNat 32 k) &&& 1#32).getLsbD 0 = b.getLsbD k := by
    rw [BitVec.getLsbD_and, BitVec.sshiftRight', BitVec.getLsbD_sshiftRight, BitVec.toNat_ofNat, hm]
    simp [hk]
  have key2 : (b &&& (1#32 <<< (BitVec.ofNat 32 k))).getLsbD k = b.getLsbD k := by
    rw [BitVec.getLsbD_and, BitVec.shiftLeft_eq', BitVec.getLsbD_shiftLeft, BitVec.toNat_ofNat, hm]
    simp [hk]
  constructor
  · intro h e
    rw [h] at key1
    rw [e] at key2
    rw [← key2] at key1
    simp at key1
  · intro h
    cases hb : b.getLsbD k with
    | true =>
      apply BitVec.eq_of_getLsbD_eq
      intro i hi
      by_cases hi0 : i = 0
      · subst hi0; rw [key1, hb]; rfl
      · rw [BitVec.getLsbD_and]
        have : (1#32).getLsbD i = false := by
          rw [BitVec.getLsbD_one]
          simp [hi0]
        rw [this]; simp
    | false =>
      exfalso
      apply h
      apply BitVec.eq_of_getLsbD_eq
      intro i hi
      by_cases hik : i = k
      · subst hik; rw [key2, hb]; simp
      · rw [BitVec.getLsbD_and, BitVec.shiftLeft_eq', BitVec.getLsbD_shiftLeft, BitVec.toNat_ofNat, hm]
        by_cases hlt : i < k
        · simp [hlt]
        · have : (1#32).getLsbD (i - k) = false := by
            rw [BitVec.getLsbD_one]
            have : i - k ≠ 0 := by omega
            simp [this]
          rw [this]; simp
/-- the two sums -/
theorem sum_eq {n tc ac cn c t : Nat} {Z : zZ} {S M : zS} (h : Cx n tc ac cn Z S M) (hc : c < 4) (ht : t < tc) : ∀ (f k : Nat) (r : Int32), k + f = n → lSum S (1 + t) (gi S 2 c 5) f k r = lQs M (nI c) t f k r := by
  have hn7 := h.n7
  have hq := (h.2.2.2.2.2.1 c hc).2.2.1
  have hT := (h.2.2.2.2.1 t ht).1
  intro f
  induction f with
  | zero => intro k r _; rfl
  | succ f ih =>
    intro k r hk
    show pif (((gi S 2 c 5) >>> ((nI k) &&& (31))) &&& (1) = (1)) (lSum S (1 + t) (gi S 2 c 5) f (k + 1) (r + gi S 9 (1 + t) (ix (nI k)))) (lSum S (1 + t) (gi S 2 c 5) f (k + 1) r) = lQs M (nI c) t f (k + 1) (pif (((gi M 9 (117) (ix (nI c))) >>> ((nI k) &&& 31)) &&& (1) = (1)) (r + gi M 9 (108) (9 * t + k)) (r + 0))
    rw [ix_nI (show c < 2 ^ 31 by omega), ← hq, ix_nI (show k < 2 ^ 31 by omega)]
    by_cases hb : ((gi S 2 c 5) >>> ((nI k) &&& (31))) &&& (1) = (1)
    · rw [pif_pos hb, pif_pos hb, hT k (by omega)]
      exact ih (k + 1) _ (by omega)
    · rw [pif_neg hb, pif_neg hb, Int32.add_zero]
      exact ih (k + 1) _ (by omega)
theorem lAre_0 {M : zS} {n : Nat} {x to : Int32} {w : Nat} : ∀ f t, lAre M n x to w f t 0 = 0 := by
  intro f t
  cases f with
  | zero => rfl
  | succ f =>
    show pif ((to) < (nI t)) 0 (pif ((0 : Int32) = (0)) 0 (lAre M n x to w f (t + 1) (r_X8_isQuorum M n x t w))) = 0
    rw [pif_pos rfl, pif_same]
theorem tab_nI {n tc ac cn t : Nat} {Z : zZ} {S M : zS} (h : Cx n tc ac cn Z S M) (ht : t < tc) : tbAt S (nI t) = some t := by
  have htc := h.2.1.1.2.1.2
  rcases tab_cases h (nI t) with ⟨-, e⟩ | ⟨t2, h2, e1, e2, -⟩
  · rcases e with e | e
    · exact absurd e (nI_pos (by omega))
    · exact absurd e (nI_ge ht (by omega))
  · rw [e2]
    have := (nI_eq (by omega) (by omega)).mp e1
    rw [this]
/-- class's run over the tables and the reference's -/
theorem quo_eq {n tc ac cn c w : Nat} {Z : zZ} {S M : zS} {to : Int32} (h : Cx n tc ac cn Z S M) (hc : c < 4) (hto : ∀ t, t ≤ 16 → ¬ to < nI t → t < tc) (hw : (gi S 2 c 3 = 1 ∧ w = 7) ∨ (¬ gi S 2 c 3 = 1 ∧ w = 8)) :
    ∀ (f2 t f1 : Nat), t + f2 = 16 → f2 + 1 ≤ f1 → lQuo S n c to f1 (nI t) = lAre M n (nI c) to w f2 t 1 := by
  have htc := h.2.1.1.2.1.2
  intro f2
  induction f2 with
  | zero =>
    intro t f1 h1 h2
    obtain ⟨g, rfl⟩ : ∃ g, f1 = g + 1 := ⟨f1 - 1, by omega⟩
    have hl : to < nI t := Classical.byContradiction fun q => by
      have := hto t (by omega) q
      omega
    show pif (to < nI t) 1 _ = 1
    rw [pif_pos hl]
  | succ f2 ih =>
    intro t f1 h1 h2
    obtain ⟨g, rfl⟩ : ∃ g, f1 = g + 1 := ⟨f1 - 1, by omega⟩
    show pif ((to) < (nI t)) 1 (oel (tbAt S (nI t)) 0 (fun q => pif ((gi S 2 (c) (3)) = (1)) (pif ((gi S 5 (q) (1)) ≤ (lSum S (1 + q) (gi S 2 (c) (5)) n 0 0)) (lQuo S n c to g (nI t + 1)) 0) (pif ((gi S 5 (q) (2)) ≤ (lSum S (1 + q) (gi S 2 (c) (5)) n 0 0)) (lQuo S n c to g (nI t + 1)) 0))) = pif ((to) < (nI t)) 1 (pif ((1 : Int32) = (0)) 1 (lAre M n (nI c) to w f2 (t + 1) (r_X8_isQuorum M n (nI c) t w)))
    by_cases hl : to < nI t
    · rw [pif_pos hl, pif_pos hl]
    · have ht := hto t (by omega) hl
      obtain ⟨-, g2, g3⟩ := h.2.2.2.2.1 t ht
      rw [pif_neg hl, pif_neg hl, pif_neg (by decide), oel_s (tab_nI h ht), nI_1, sum_eq h hc ht n 0 0 (by omega), ih (t + 1) g (by omega) (by omega)]
      unfold r_X8_isQuorum
      rcases hw with ⟨e, rfl⟩ | ⟨e, rfl⟩
      · rw [pif_pos e, g2]
        by_cases hs : gi M 9 108 (9 * t + 7) ≤ lQs M (nI c) t n 0 0
        · rw [pif_pos hs, pif_neg (Int32.not_lt.mpr hs)]
        · rw [pif_neg hs, pif_pos (Int32.not_le.mp hs), lAre_0]
      · rw [pif_neg e, g3]
        by_cases hs : gi M 9 108 (9 * t + 8) ≤ lQs M (nI c) t n 0 0
        · rw [pif_pos hs, pif_neg (Int32.not_lt.mpr hs)]
        · rw [pif_neg hs, pif_pos (Int32.not_le.mp hs), lAre_0]
theorem one_eq {n tc ac cn c t : Nat} {Z : zZ} {S M : zS} (h : Cx n tc ac cn Z S M) (hc : c < 4) (ht : t < tc) (he : ¬ gi S 2 c 3 = 1) : lQuo S n c (nI t) 18 (nI t) = r_X8_isQuorum M n (nI c) t 8 := by
  have htc := h.2.1.1.2.1.2
  obtain ⟨-, g2, g3⟩ := h.2.2.2.2.1 t ht
  have hn : lQuo S n c (nI t) 17 (nI t + 1) = 1 := by
    show pif (nI t < nI t + 1) 1 _ = 1
    rw [pif_pos (by rw [nI_1]; exact nI_lt (by omega) (by omega))]
  show pif ((nI t) < (nI t)) 1 (oel (tbAt S (nI t)) 0 (fun q => pif ((gi S 2 (c) (3)) = (1)) (pif ((gi S 5 (q) (1)) ≤ (lSum S (1 + q) (gi S 2 (c) (5)) n 0 0)) (lQuo S n c (nI t) 17 (nI t + 1)) 0) (pif ((gi S 5 (q) (2)) ≤ (lSum S (1 + q) (gi S 2 (c) (5)) n 0 0)) (lQuo S n c (nI t) 17 (nI t + 1)) 0))) = _
  rw [pif_neg (nI_nlt (Nat.le_refl t) (by omega)), oel_s (tab_nI h ht), sum_eq h hc ht n 0 0 (by omega), hn, pif_neg he, g3]
  unfold r_X8_isQuorum
  by_cases hs : gi M 9 108 (9 * t + 8) ≤ lQs M (nI c) t n 0 0
  · rw [pif_pos hs, pif_neg (Int32.not_lt.mpr hs)]
  · rw [pif_neg hs, pif_pos (Int32.not_le.mp hs)]
theorem x_quorum {n tc ac cn c a : Nat} {Z : zZ} {S M : zS} (h : Cx n tc ac cn Z S M) (hc : c < 4) (ha : gr S 2 c 2 = some a) : r_X7_hasQuorum S n c a = r_X8_isOver M n (ix (gi M 9 114 c)) (ix (gi M 9 127 (ix (gi M 9 111 c)))) (nI c) := by
  have htc := h.2.1.1.2.1.2
  have hac := h.2.1.1.2.2.1
  obtain ⟨c1, c2, c3, c4, c5, c6⟩ := h.2.2.2.2.2.1 c hc
  have hdq := ((h.2.2.2.2.2.2.1 c hc).2 a ha).1
  obtain ⟨-, ⟨b, hb, eb⟩, ⟨l, hl, el⟩, hd⟩ := h.2.1.2.2.2.2.1 c hc
  obtain ⟨d0, d1, φ, r, b2, e1, e2, e3, e4, e5, e6, e7, e8⟩ := hd a ha
  have aq := h.2.2.2.2.2.2.2.1 a d0
  have hm : gi M 9 112 c = nI φ := c1.symm.trans e1
  have hto : ∀ T, T < tc → ∀ t, t ≤ 16 → ¬ nI T < nI t → t < tc := fun T hT t _ q => by
    rw [nI_ltI (by omega) (by omega)] at q
    omega
  unfold r_X7_hasQuorum r_X8_isOver
  rw [ix_nI (show c < 2 ^ 31 by omega), hdq, ix_nI (show a + 1 < 2 ^ 31 by omega), ← aq.2.2.2.2.2.2.2.1, ← c5, ← c4, el, eb, ix_nI (show b < 2 ^ 31 by omega)]
  have hφ : φ = 1 ∨ φ = 2 ∨ φ = 3 ∨ φ = 4 ∨ φ = 5 := by omega
  rcases hφ with rfl | rfl | rfl | rfl | rfl
  · rw [pif_neg (show ¬ gi S 2 c 3 = 3 by rw [e1]; decide), pif_neg (show ¬ gi S 2 c 3 = 4 by rw [e1]; decide), pif_neg (show ¬ gi S 2 c 3 = 5 by rw [e1]; decide), pif_pos (show gi M 9 112 c = 1 by rw [hm]; decide)]
    exact quo_eq h hc (hto l hl) (Or.inl ⟨by rw [e1]; decide, rfl⟩) (16 - b) b 18 (by omega) (by omega)
  · rw [pif_neg (show ¬ gi S 2 c 3 = 3 by rw [e1]; decide), pif_neg (show ¬ gi S 2 c 3 = 4 by rw [e1]; decide), pif_neg (show ¬ gi S 2 c 3 = 5 by rw [e1]; decide), pif_neg (show ¬ gi M 9 112 c = 1 by rw [hm]; decide), pif_pos (show gi M 9 112 c = 2 by rw [hm]; decide)]
    exact quo_eq h hc (hto l hl) (Or.inr ⟨by rw [e1]; decide, rfl⟩) (16 - b) b 18 (by omega) (by omega)
  · rw [pif_pos (show gi S 2 c 3 = 3 by rw [e1]; decide), pif_neg (show ¬ gi M 9 112 c = 1 by rw [hm]; decide), pif_neg (show ¬ gi M 9 112 c = 2 by rw [hm]; decide), pif_pos (show gi M 9 112 c = 3 by rw [hm]; decide)]
    obtain ⟨t, ht, et⟩ := e7.elim (fun q => absurd q.1 (by omega)) (fun q => q.2.2)
    refine quo_eq h hc (fun t2 h2 q => ?_) (Or.inr ⟨by rw [e1]; decide, rfl⟩) (16 - b) b 18 (by omega) (by omega)
    rw [et] at q
    by_cases t0 : t = 0
    · subst t0
      exfalso
      apply q
      have e9 : nI 0 - 1 = -1 := by decide
      rw [e9, Int32.lt_iff_toInt_lt, nI_toInt (by omega)]
      have : (-1 : Int32).toInt = -1 := by decide
      rw [this]
      omega
    · rw [nI_sub1 (by omega) (by omega)] at q
      exact hto (t - 1) (by omega) t2 h2 q
  · rw [pif_neg (show ¬ gi S 2 c 3 = 3 by rw [e1]; decide), pif_pos (show gi S 2 c 3 = 4 by rw [e1]; decide), pif_neg (show ¬ gi M 9 112 c = 1 by rw [hm]; decide), pif_neg (show ¬ gi M 9 112 c = 2 by rw [hm]; decide), pif_neg (show ¬ gi M 9 112 c = 3 by rw [hm]; decide)]
    obtain ⟨t, ht, et⟩ := e7.elim (fun q => absurd q.1 (by omega)) (fun q => q.2.2)
    rw [et, ix_nI (by omega)]
    exact one_eq h hc ht (by rw [e1]; decide)
  · rw [pif_neg (show ¬ gi S 2 c 3 = 3 by rw [e1]; decide), pif_neg (show ¬ gi S 2 c 3 = 4 by rw [e1]; decide), pif_pos (show gi S 2 c 3 = 5 by rw [e1]; decide), pif_neg (show ¬ gi M 9 112 c = 1 by rw [hm]; decide), pif_neg (show ¬ gi M 9 112 c = 2 by rw [hm]; decide), pif_neg (show ¬ gi M 9 112 c = 3 by rw [hm]; decide)]
    obtain ⟨t, ht, et⟩ := e7.elim (fun q => absurd q.1 (by omega)) (fun q => q.2.2)
    rw [et, ix_nI (by omega)]
    exact one_eq h hc ht (by rw [e1]; decide)
