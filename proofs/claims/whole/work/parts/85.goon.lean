theorem x_begin {n tc ac cn c a : Nat} {Z : zZ} {S M : zS} {y : Int32} (hc : c < 4) (h : Cx n tc ac cn Z (cPr S c y) (mPr M c y)) (ha : gr S 2 c 2 = some a) (hy : ¬ y = 5) : ∃ cn2, Cx n tc ac cn2 Z (s_X7_beginPhase S n c a y) (s_X8_beginPhase M n (nI c) y) := by
  unfold s_X7_beginPhase s_X8_beginPhase
  rw [pif_neg hy, ix_nI (by omega)]
  exact Cx.sends (a := a) hc n 0 cn _ _ 0 h ha (by omega) (by rw [gi_si, if_pos ⟨rfl, rfl, rfl⟩])
theorem cPr_base {S : zS} {c : Nat} {y t : Int32} : si (cPr S c y) 2 c 6 t = cPr (si S 2 c 6 t) c y := by
  unfold cPr
  rw [si_comm (K := 2) (x := 5) (K' := 2) (x' := 6) (by omega), si_comm (K := 2) (x := 4) (K' := 2) (x' := 6) (by omega), si_comm (K := 2) (x := 3) (K' := 2) (x' := 6) (by omega)]
  rfl
theorem x_begin5 {n tc ac cn c a : Nat} {Z : zZ} {S M : zS} (hc : c < 4) (h : Cx n tc ac cn Z (cPr (si S 2 c 6 (gi S 0 a 7)) c 5) (mPr M c 5)) (ha : gr S 2 c 2 = some a) : ∃ cn2, Cx n tc ac cn2 Z (s_X7_beginPhase S n c a 5) (s_X8_beginPhase M n (nI c) 5) := by
  unfold s_X7_beginPhase s_X8_beginPhase
  rw [pif_pos rfl, ix_nI (by omega)]
  rw [← cPr_base] at h
  refine Cx.sends (a := a) hc n 0 cn _ _ 0 h ha (by omega) ?_
  rw [gi_si, if_neg (by omega), gi_si, if_pos ⟨rfl, rfl, rfl⟩]
/-- an act is done, on both sides -/
theorem x_done {n tc ac cn c a : Nat} {Z : zZ} {S M : zS} (h : Cx n tc ac cn Z S M) (hc : c < 4) (ha : gr S 2 c 2 = some a) (hk : ¬ gi S 0 a 1 = 0) : Cx n tc ac cn Z (s_X2_rest (si S 0 a 4 (gi S 7 0 8)) c) (s_X8_finish M (nI c)) := by
  have hd := (h.ic hc).2.2.2 a ha
  have hac := h.2.1.1.2.2.1
  have hdq := ((h.d1 hc).2 a ha).1
  have aq := h.a1 hd.1
  unfold s_X8_finish
  rw [ix_nI (show c < 2 ^ 31 by omega), hdq, ix_nI (show a + 1 < 2 ^ 31 by have := hd.1; omega), ← aq.2.1, pif_neg hk, h.2.2.1.2.2.2.1]
  exact (h.cE hc ha).rest hc
theorem x_doneR {n tc ac cn c a : Nat} {Z : zZ} {S M : zS} (h : Cx n tc ac cn Z S M) (hc : c < 4) (ha : gr S 2 c 2 = some a) (hk : gi S 0 a 1 = 0) : Cx n tc ac cn Z (s_X2_rest (si (sj (s_X0_showTag S a (10 + c)) 0 a 8 (gj (s_X0_showTag S a (10 + c)) 6 (10 + c) 2)) 0 a 4 (gi (sj (s_X0_showTag S a (10 + c)) 0 a 8 (gj (s_X0_showTag S a (10 + c)) 6 (10 + c) 2)) 7 0 8)) c) (s_X8_finish M (nI c)) := by
  have hd := (h.ic hc).2.2.2 a ha
  have hac := h.2.1.1.2.2.1
  have hn : ¬ (gi S 2 c 3 = 2 ∧ gi S 0 a 1 = 1) := fun q => by rw [hk] at q; exact absurd q.2 (by decide)
  have hdq := (h.d1 hc).2 a ha
  have aq := h.a1 hd.1
  obtain ⟨v1, v2, v3⟩ := hdq.2 hn
  have hT := h.cT hc ha hn
  have hL := hT.cL (v := gj S 6 (10 + c) 2) hc (a := a) ha (by
    rw [tag_gi, if_neg (by omega), if_neg (by omega), tag_gi, if_neg (by omega), if_neg (by omega)]; exact hn)
  have hE := (hL.cE (v := gi S 7 0 8) hc (a := a) ha).rest hc
  have c1 : gi (sj (s_X0_showTag S a (10 + c)) 0 a 8 (gj (s_X0_showTag S a (10 + c)) 6 (10 + c) 2)) 7 0 8 = gi S 7 0 8 := by rw [gi_sj, tag_gi, if_neg (by omega), if_neg (by omega)]
  have c2 : gj (s_X0_showTag S a (10 + c)) 6 (10 + c) 2 = gj S 6 (10 + c) 2 := rfl
  rw [c1, c2]
  unfold s_X8_finish
  rw [ix_nI (show c < 2 ^ 31 by omega), hdq.1, ix_nI (show a + 1 < 2 ^ 31 by have := hd.1; omega), ← aq.2.1, pif_pos hk, ← h.2.2.1.2.2.2.1, ← v3]
  have e : si (sj (si (si M 9 125 (a + 1) (gi M 9 118 c)) 9 126 (a + 1) (gi M 9 119 c)) 10 128 (a + 1) (gj S 6 (10 + c) 2)) 9 124 (a + 1) (gi S 7 0 8) = sj (si (si (si M 9 124 (a + 1) (gi S 7 0 8)) 9 125 (a + 1) (gi M 9 118 c)) 9 126 (a + 1) (gi M 9 119 c)) 10 128 (a + 1) (gj S 6 (10 + c) 2) := by
    show sj (si (si (si M 9 125 (a + 1) (gi M 9 118 c)) 9 126 (a + 1) (gi M 9 119 c)) 9 124 (a + 1) (gi S 7 0 8)) 10 128 (a + 1) (gj S 6 (10 + c) 2) = _
    rw [si_comm (K := 9) (I := 126) (K' := 9) (I' := 124) (by omega), si_comm (K := 9) (I := 125) (K' := 9) (I' := 124) (by omega)]
  rw [← e]
  exact hE
noncomputable def cFin (L : zS) (n c a : Nat) : zS := pif ((r_X7_hasQuorum L n (c) (a)) = (0)) L (pif ((r_X7_endPhase L n (c) (a)) = (0)) ((s_X2_rest (si (s_X7_endPhase L n (c) (a)) 0 (a) (4) (gi (s_X7_endPhase L n (c) (a)) 7 (0) (8))) (c))) ((s_X7_beginPhase (s_X7_endPhase L n (c) (a)) n (c) (a) (r_X7_endPhase L n (c) (a)))))
theorem x_fin {n tc ac cn c a : Nat} {Z : zZ} {S M : zS} (h : Cx n tc ac cn Z S M) (hc : c < 4) (ha : gr S 2 c 2 = some a) : ∃ cn2, Cx n tc ac cn2 Z (cFin S n c a) (mFin M n c (nI c)) ∧ pot (mFin M n c (nI c)) ≤ pot M := by
  have hd := (h.ic hc).2.2.2 a ha
  have hac := h.2.1.1.2.2.1
  have hdq := (h.d1 hc).2 a ha
  have aq := h.a1 hd.1
  obtain ⟨q1, q2, q3, q4, q5, q6⟩ := h.c1 hc
  unfold cFin mFin
  rw [x_quorum h hc ha]
  by_cases ho : r_X8_isOver M n (ix (gi M 9 114 c)) (ix (gi M 9 127 (ix (gi M 9 111 c)))) (nI c) = 0
  · rw [pif_pos ho, pif_pos ho]; exact ⟨cn, h, Nat.le_refl _⟩
  · rw [pif_neg ho, pif_neg ho]
    obtain ⟨d0, d1, φ, r, b, e1, e2, e3, e4, e5, e6, e7, e8⟩ := hd
    have hm : gi M 9 112 c = nI φ := q1.symm.trans e1
    unfold s_X8_goOn r_X7_endPhase s_X7_endPhase
    rw [ix_nI (show c < 2 ^ 31 by omega)]
    have hix : ix (gi M 9 111 c) = a + 1 := by rw [hdq.1, ix_nI (by omega)]
    rw [hix]
    have hφ : φ = 1 ∨ φ = 2 ∨ φ = 3 ∨ φ = 4 ∨ φ = 5 := by omega
    have hn7 := h.n7
    have hcm := h.cm
    have hdn : ¬ gi M 9 111 c < 0 := by rw [hdq.1]; exact nI_pos (by omega)
    rcases hφ with rfl | rfl | rfl | rfl | rfl
    · have s1 : gi S 2 c 3 = 1 := e1
      have m1 : gi M 9 112 c = 1 := hm
      rw [pif_pos s1, pif_pos s1, pif_pos m1, pif_same, pif_neg (by decide)]
      by_cases hk : gi S 0 a 1 = 1
      · rw [pif_pos hk, pif_pos (aq.2.1.symm.trans hk)]
        obtain ⟨cn2, gg⟩ := x_begin (a := a) hc (h.prepW hc ha s1 e2 e3 e4 (by omega) hk) ha (by decide)
        refine ⟨cn2, gg, pot_next hc hn7 h.mcn hcm (fun j => ?_) ?_ (fun c' _ => rk_eq ?_ ?_ ?_) ?_⟩
        · rw [gi_si, if_neg (by omega), gi_si, if_neg (by omega)]
        · rw [gi_si, if_neg (by omega), gi_si, if_neg (by omega)]
        · rw [gi_si, if_neg (by omega), gi_si, if_neg (by omega)]
        · rw [gi_si, if_neg (by omega), gi_si, if_neg (by omega)]
        · rw [gi_si, if_neg (by omega), gi_si, if_neg (by omega)]
        · rw [gi_si, if_neg (by omega), gi_si, if_neg (by omega), rkV_2 hdn]
          unfold rk; rw [m1, rkV_1 hdn]; omega
      · rw [pif_neg hk, pif_neg (fun q => hk (aq.2.1.trans q))]
        obtain ⟨cn2, gg⟩ := x_begin hc (h.prep (φ2 := 2) hc ha (by omega) e2 e3 e4 (by omega) (Or.inl ⟨by omega, e7.elim (fun q => q.2) (fun q => absurd q.1 (by omega))⟩) (fun _ => hk) (fun q => hk q.2)) ha (by decide)
        refine ⟨cn2, gg, pot_next hc hn7 h.mcn hcm (fun j => rfl) rfl (fun c' _ => rfl) ?_⟩
        rw [rkV_2 hdn]
        unfold rk; rw [m1, rkV_1 hdn]; omega
    · have s2 : gi S 2 c 3 = 2 := e1
      have m2 : gi M 9 112 c = 2 := hm
      rw [pif_neg (show ¬ gi S 2 c 3 = 1 by rw [e1]; decide), pif_neg (show ¬ gi S 2 c 3 = 1 by rw [e1]; decide), pif_pos s2, pif_pos s2, pif_neg (show ¬ gi M 9 112 c = 1 by rw [hm]; decide), pif_pos m2, pif_same, pif_pos rfl]
      by_cases hk : gi S 0 a 1 = 0
      · rw [pif_pos hk]; exact ⟨cn, x_doneR h hc ha hk, pot_finish hc⟩
      · rw [pif_neg hk]; exact ⟨cn, x_done h hc ha hk, pot_finish hc⟩
    · have s3 : gi S 2 c 3 = 3 := e1
      have m3 : gi M 9 112 c = 3 := hm
      rw [pif_neg (show ¬ gi S 2 c 3 = 1 by rw [e1]; decide), pif_neg (show ¬ gi S 2 c 3 = 1 by rw [e1]; decide), pif_neg (show ¬ gi S 2 c 3 = 2 by rw [e1]; decide), pif_neg (show ¬ gi S 2 c 3 = 2 by rw [e1]; decide), pif_pos s3, pif_pos s3, pif_neg (show ¬ gi M 9 112 c = 1 by rw [hm]; decide), pif_neg (show ¬ gi M 9 112 c = 2 by rw [hm]; decide), pif_pos m3, pif_neg (by decide)]
      have hn : ¬ (gi S 2 c 3 = 2 ∧ gi S 0 a 1 = 1) := fun q => by rw [s3] at q; exact absurd q.1 (by decide)
      have hT := h.cT hc ha hn
      have t2 : ∀ f, gi (s_X0_showTag S a (10 + c)) 2 c f = gi S 2 c f := fun f => by rw [tag_gi, if_neg (by omega), if_neg (by omega)]
      have t0 : ∀ f, f ≠ 5 → f ≠ 6 → gi (s_X0_showTag S a (10 + c)) 0 a f = gi S 0 a f := fun f r1 r2 => by rw [tag_gi, if_neg (by omega), if_neg (by omega)]
      obtain ⟨cn2, gg⟩ := x_begin hc (hT.prep (φ2 := 4) (r := r) (b := b) hc (a := a) ha (by omega) (by rw [t2]; exact e2) (by rw [t2]; exact e3) e4 (by omega) (Or.inr (by rw [t0 _ (by omega) (by omega), t0 _ (by omega) (by omega)]; exact ⟨by omega, e7.elim (fun q => absurd q.1 (by omega)) (fun q => q.2)⟩)) (by omega) (by rw [t2, t0 _ (by omega) (by omega)]; exact hn)) ha (by decide)
      refine ⟨cn2, gg, pot_next hc hn7 h.mcn hcm (fun j => ?_) ?_ (fun c' _ => rk_eq ?_ ?_ ?_) ?_⟩
      · rw [gi_si, if_neg (by omega), gi_si, if_neg (by omega)]
      · rw [gi_si, if_neg (by omega), gi_si, if_neg (by omega)]
      · rw [gi_si, if_neg (by omega), gi_si, if_neg (by omega)]
      · rw [gi_si, if_neg (by omega), gi_si, if_neg (by omega)]
      · rw [gi_si, if_neg (by omega), gi_si, if_neg (by omega)]
      · rw [gi_si, if_neg (by omega), gi_si, if_neg (by omega), rkV_4 hdn]
        unfold rk; rw [m3, rkV_3 hdn]; omega
    · have s4 : gi S 2 c 3 = 4 := e1
      have m4 : gi M 9 112 c = 4 := hm
      rw [pif_neg (show ¬ gi S 2 c 3 = 1 by rw [e1]; decide), pif_neg (show ¬ gi S 2 c 3 = 1 by rw [e1]; decide), pif_neg (show ¬ gi S 2 c 3 = 2 by rw [e1]; decide), pif_neg (show ¬ gi S 2 c 3 = 2 by rw [e1]; decide), pif_neg (show ¬ gi S 2 c 3 = 3 by rw [e1]; decide), pif_neg (show ¬ gi S 2 c 3 = 3 by rw [e1]; decide), pif_pos s4, pif_pos s4, pif_neg (show ¬ gi M 9 112 c = 1 by rw [hm]; decide), pif_neg (show ¬ gi M 9 112 c = 2 by rw [hm]; decide), pif_neg (show ¬ gi M 9 112 c = 3 by rw [hm]; decide), pif_pos m4, pif_neg (by decide), ← aq.2.2.2.2.2.2.2.1]
      have hk2 := e7.elim (fun q => absurd q.1 (by omega)) (fun q => q.2)
      obtain ⟨t, ht1, ht2⟩ := hk2.2
      have hB := h.cBv hc ha hk2.2 (Or.inr s4)
      have t0 : ∀ f, gi (si S 2 c 6 (gi S 0 a 7)) 0 a f = gi S 0 a f := fun f => by rw [gi_si, if_neg (by omega)]
      obtain ⟨cn2, gg⟩ := x_begin5 hc (hB.prep (φ2 := 5) (r := r) (b := t) hc (a := a) ha (by omega) (by rw [gi_si, if_neg (by omega)]; exact e2) (by rw [gi_si, if_pos ⟨rfl, rfl, rfl⟩]; exact ht2) ht1 (by omega) (Or.inr (by rw [t0, t0]; exact ⟨by omega, hk2⟩)) (by omega) (by
        rw [gi_si, if_neg (by omega), s4]
        exact fun q => absurd q.1 (by decide))) ha
      refine ⟨cn2, gg, pot_next hc hn7 h.mcn hcm (fun j => ?_) ?_ (fun c' _ => rk_eq ?_ ?_ ?_) ?_⟩
      · rw [gi_si, if_neg (by omega)]
      · rw [gi_si, if_neg (by omega)]
      · rw [gi_si, if_neg (by omega)]
      · rw [gi_si, if_neg (by omega)]
      · rw [gi_si, if_neg (by omega)]
      · rw [gi_si, if_neg (by omega), rkV_5 hdn]
        unfold rk; rw [m4, rkV_4 hdn]; omega
    · have s5 : gi S 2 c 3 = 5 := e1
      rw [pif_neg (show ¬ gi S 2 c 3 = 1 by rw [e1]; decide), pif_neg (show ¬ gi S 2 c 3 = 1 by rw [e1]; decide), pif_neg (show ¬ gi S 2 c 3 = 2 by rw [e1]; decide), pif_neg (show ¬ gi S 2 c 3 = 2 by rw [e1]; decide), pif_neg (show ¬ gi S 2 c 3 = 3 by rw [e1]; decide), pif_neg (show ¬ gi S 2 c 3 = 3 by rw [e1]; decide), pif_same, pif_neg (show ¬ gi S 2 c 3 = 4 by rw [e1]; decide), pif_neg (show ¬ gi M 9 112 c = 1 by rw [hm]; decide), pif_neg (show ¬ gi M 9 112 c = 2 by rw [hm]; decide), pif_neg (show ¬ gi M 9 112 c = 3 by rw [hm]; decide), pif_neg (show ¬ gi M 9 112 c = 4 by rw [hm]; decide), pif_pos rfl]
      have hk2 := e7.elim (fun q => absurd q.1 (by omega)) (fun q => q.2.1)
      exact ⟨cn, x_done h hc ha (by rw [hk2]; decide), pot_finish hc⟩
