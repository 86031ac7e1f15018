theorem x_begC {n tc ac cn c : Nat} {Z Z' : zZ} {S M : zS} {t : Int32} (h : Cx n tc ac cn Z S M) (hc : c < 4) (hd : gr S 2 c 2 = none) (ha : ac < 200) (hx : zext Z Z' 0 ac 0) (ht : ivN tc t) :
    r_X7_beginChange S n c ac t = r_X8_beginAct M n ac (nI c) 2 0 t ∧ ∃ cn2, Cx n tc (ac + 1) cn2 Z' (s_X7_beginChange S n c ac t) (s_X8_beginAct M n ac (nI c) 2 0 t) := by
  have hb := h.acs
  have hz7 : gi (sz S 0 ac) 7 0 7 = nI ac := by rw [gi_sz, if_neg (by omega)]; exact hb.1
  have hz2 : gi (sz S 0 ac) 2 c 0 = nI c := by rw [gi_sz, if_neg (by omega)]; exact (h.ic hc).1
  obtain ⟨p1, p2, p3, p4, p5, p6, p7, p8, p9, p10, p11⟩ := @init_gi S ac (nI (ac + 1)) 2 (nI c)
  have hP : actP S (si (si (s_X0_init (sz S 0 ac) ac (nI (ac + 1)) 2 (nI c)) 0 ac 7 t) 2 c 7 t) c ac 2 t t 0 := by
    refine ⟨fun k i f r1 r2 => ?_, p2, p3, ⟨?_, ?_, ?_, ?_, ?_, ?_, ?_, p11⟩, ?_⟩
    · rw [gi_si, if_neg r2, gi_si, if_neg (by omega)]; exact p1 k i f r1
    · rw [gi_si, if_neg (by omega), gi_si, if_neg (by omega)]; exact p4
    · rw [gi_si, if_neg (by omega), gi_si, if_neg (by omega)]; exact p5
    · rw [gi_si, if_neg (by omega), gi_si, if_neg (by omega)]; exact p6
    · rw [gi_si, if_neg (by omega), gi_si, if_neg (by omega)]; exact p7
    · rw [gi_si, if_neg (by omega), gi_si, if_neg (by omega)]; exact p8
    · rw [gi_si, if_neg (by omega), gi_si, if_neg (by omega)]; exact p9
    · rw [gi_si, if_neg (by omega), gi_si, if_pos ⟨rfl, rfl, rfl⟩]
    · rw [gi_si, if_pos ⟨rfl, rfl, rfl⟩]
  have main := x_newact (φ := 3) (M := M) h hc hd ha hx hP ht (Or.inr ⟨rfl, rfl, ht, rfl⟩)
  unfold r_X7_beginChange s_X7_beginChange
  rw [hz7, hz2, nI_1]
  exact main
theorem at0 : atI 4 0 = some 0 := atI_nI (k := 0) (n := 4) (by omega) (by omega)
theorem x_resume {n tc ac cn : Nat} {Z Z' : zZ} {S M : zS} (h : Cx n tc ac cn Z S M) (hp : (Z' = Z ∧ s_X7_resume S n ac = S) ∨ ∃ c, atI 4 0 = some c ∧ gr S 2 c 2 = none ∧ ac < 200 ∧ zext Z Z' 0 ac 0 ∧ s_X7_resume S n ac = s_X7_beginChange S n c ac (gi S 2 c 7)) (hf : frs tc ac Z) :
    r_X7_resume S n ac = r_X8_resume M n ∧ ∃ ac2 cn2, Cx n tc ac2 cn2 Z' (s_X7_resume S n ac) (s_X8_resume M n) ∧ frs tc ac2 Z' := by
  have hb := h.acs
  have h0 : 0 < 4 := by omega
  obtain ⟨q1, q2, q3, q4, q5, q6⟩ := h.c1 h0
  have noS : ∀ c, atI 4 0 = some c → gr S 2 c 2 = none → ac < 200 → zext Z Z' 0 ac 0 → S = s_X7_beginChange S n c ac (gi S 2 c 7) → False := fun c e g1 g2 g3 g4 => by
    have : c = 0 := Option.some.inj (e.symm.trans at0)
    subst this
    obtain ⟨-, cn2, g⟩ := x_begC (M := M) h h0 g1 g2 g3 (cl_ivl h h0)
    rw [← g4] at g
    exact sameAct h g
  unfold r_X7_resume r_X8_resume s_X8_resume
  unfold s_X7_resume at hp ⊢
  rw [oel_s at0] at hp
  rw [oel_s at0, oel_s at0]
  rcases begin_cases h h0 with ⟨e1, e2⟩ | ⟨e1, e2, e3, e4, e5, e6⟩
  · have eM : ∀ {α : Type} (a b : α), pif ((0 : Int32) ≤ gi M 9 111 0) a (pif (gi M 9 115 0 ≤ gi M 9 114 0) a (pif (gi M 8 0 29 = 200) a b)) = a := fun a b => by
      rcases e2 with e | e
      · rw [pif_pos e]
      · rw [pif_pos e, pif_same, pif_same]
    rw [pif_pos e1] at hp
    rw [pif_pos e1, pif_pos e1, eM, eM]
    rcases hp with ⟨rfl, -⟩ | ⟨c, e, g1, g2, g3, g4⟩
    · exact ⟨rfl, ac, cn, h, hf⟩
    · exact (noS c e g1 g2 g3 g4).elim
  · rw [pif_neg e1] at hp
    rw [pif_neg e1, pif_neg e1, pif_neg e4, pif_neg e4, pif_neg e5, pif_neg e5, e6]
    by_cases hl : gi S 2 0 6 < gi S 2 0 7
    · rw [pif_pos hl] at hp
      rw [pif_pos hl, pif_pos hl, pif_neg (by rw [← q4, ← q5]; exact Int32.not_le.mpr hl), pif_neg (by rw [← q4, ← q5]; exact Int32.not_le.mpr hl), ← q5]
      have main : ∀ Z2, zext Z Z2 0 ac 0 → _ := fun Z2 hz => x_begC (M := M) h h0 e2 e3 hz (cl_ivl h h0)
      rcases hp with ⟨rfl, e⟩ | ⟨c, e, g1, g2, g3, g4⟩
      · obtain ⟨Z2, hz⟩ := zext_ex Z' 0 ac 0
        obtain ⟨-, cn2, g⟩ := main Z2 hz
        exact (sameAct h (e ▸ g)).elim
      · obtain ⟨g5, cn2, g⟩ := main Z' g3
        exact ⟨g5, ac + 1, cn2, g, hf.act g3⟩
    · rw [pif_neg hl] at hp
      rw [pif_neg hl, pif_neg hl, pif_pos (by rw [← q4, ← q5]; exact Int32.not_lt.mp hl), pif_pos (by rw [← q4, ← q5]; exact Int32.not_lt.mp hl)]
      rcases hp with ⟨rfl, -⟩ | ⟨c, e, g1, g2, g3, g4⟩
      · exact ⟨rfl, ac, cn, h, hf⟩
      · exact (noS c e g1 g2 g3 g4).elim
noncomputable def cTb (S : zS) (tc : Nat) (x y : Int32) : zS := (si (sr (s_X5_init (scp (sz S 5 tc) (1 + tc) 0) tc (1 + tc) (x) (y)) 16 (0) (ix (nI tc)) (some (tc))) 7 (0) (6) ((gi (s_X5_init (scp (sz S 5 tc) (1 + tc) 0) tc (1 + tc) (x) (y)) 7 (0) (6)) + (1)))
noncomputable def mTbl (M : zS) (n tc : Nat) (x y : Int32) : zS := (si (si (si (lTb tc n 0 M) 9 (108) (9 * tc + 7) (x)) 9 (108) (9 * tc + 8) (y)) 8 (0) (10) (nI (tc + 1)))
theorem x_tab {n tc ac cn : Nat} {Z Z1 Z2 : zZ} {S M : zS} {x y : Int32} (h : Cx n tc ac cn Z S M) (ht : tc < 16) (h1 : zext Z Z1 5 tc 0) (h2 : zext Z1 Z2 9 (1 + tc) n) : Cx n (tc + 1) ac cn Z2 (cTb S tc x y) (mTbl M n tc x y) := by
  have hn7 := h.n7
  have htc : gi S 7 0 6 = nI tc := h.2.1.1.2.2.2.2.1
  have hX : ∀ k i f, ¬ (k = 5 ∧ i = tc) → ¬ (k = 9 ∧ i = 1 + tc) → gi (s_X5_init (scp (sz S 5 tc) (1 + tc) 0) tc (1 + tc) (x) (y)) k i f = gi S k i f := fun k i f r1 r2 => by
    unfold s_X5_init
    rw [gi_si, if_neg (by omega), gi_si, if_neg (by omega), gi_sr, gi_scp, if_neg r2, gi_sz, if_neg r1]
  have hR : ∀ k i f, gr (cTb S tc x y) k i f = if k = 16 ∧ i = 0 ∧ f = tc then some tc else if k = 5 ∧ i = tc ∧ f = 0 then some (1 + tc) else if k = 9 ∧ i = 1 + tc then none else if k = 5 ∧ i = tc then none else gr S k i f := fun k i f => by
    unfold cTb s_X5_init
    rw [gr_si, gr_sr, ix_nI (by omega), gr_si, gr_si, gr_sr, gr_scp, gr_sz]
  have hz : zV n Z2 (cTb S tc x y).2.2 := by
    refine h.1.newTab h1 h2 (fun k i f r1 r2 r3 => ?_) ?_ ?_
    · have := hR k i f
      rw [if_neg r3, if_neg (by omega), if_neg r2, if_neg r1] at this
      exact this
    · have := hR 5 tc 0
      rw [if_neg (by omega), if_pos ⟨rfl, rfl, rfl⟩] at this
      exact this
    · have := hR 16 0 tc
      rw [if_pos ⟨rfl, rfl, rfl⟩] at this
      exact this
  refine h.newTab ht hz (fun k i f r1 r2 r3 => ?_) (fun k i f r1 r2 => ?_) (fun k i f r1 r2 r3 => ?_) ?_ ?_ (fun K I f r1 r2 => ?_) (fun K I f => ?_) ?_ ⟨fun k hk => ?_, ?_, ?_⟩
  · unfold cTb; rw [gi_si, if_neg r3, gi_sr]; exact hX k i f r1 r2
  · show gj (sz S 5 tc) k i f = _
    rw [gj_sz, if_neg r1]
  · rw [hR, if_neg r3, if_neg (by omega), if_neg r2, if_neg r1]
  · rw [hR, if_pos ⟨rfl, rfl, rfl⟩]
  · unfold cTb; rw [gi_si, if_pos ⟨rfl, rfl, rfl⟩, hX _ _ _ (by omega) (by omega), htc, nI_1]
  · unfold mTbl; rw [gi_si, if_neg r2, gi_si, if_neg (by omega), gi_si, if_neg (by omega), lTb_gi, if_neg (by omega)]
  · show gj (lTb tc n 0 M) K I f = gj M K I f
    unfold gj; rw [lTb_2]
  · unfold mTbl; rw [gi_si, if_pos ⟨rfl, rfl, rfl⟩]
  · unfold cTb mTbl s_X5_init
    rw [gi_si, if_neg (by omega), gi_sr, gi_si, if_neg (by omega), gi_si, if_neg (by omega), gi_sr, gi_scp, if_pos ⟨rfl, rfl⟩, gi_sz, if_neg (by omega), gi_si, if_neg (by omega), gi_si, if_neg (by omega), gi_si, if_neg (by omega), lTb_gi, if_pos (by omega), show 9 * tc + k - 9 * tc = k by omega]
    exact (h.2.2.2.1 k hk).2.2.2.2.2.2.2
  · unfold cTb mTbl s_X5_init
    rw [gi_si, if_neg (by omega), gi_sr, gi_si, if_neg (by omega), gi_si, if_pos ⟨rfl, rfl, rfl⟩, gi_si, if_neg (by omega), gi_si, if_neg (by omega), gi_si, if_pos ⟨rfl, rfl, rfl⟩]
  · unfold cTb mTbl s_X5_init
    rw [gi_si, if_neg (by omega), gi_sr, gi_si, if_pos ⟨rfl, rfl, rfl⟩, gi_si, if_neg (by omega), gi_si, if_pos ⟨rfl, rfl, rfl⟩]
theorem canBe_eq {α : Type} {S : zS} {n : Nat} {x y s : Int32} (hs : lSum S 0 (-1) n 0 0 = s) (a b : α) : pif ((x) < (1)) a (pif ((y) < (1)) a (pif (s < (x)) a (pif (s < (y)) a (pif (((x) + (y)) ≤ s) a (pif (((2) * (y)) ≤ s) a b))))) = pif (r_X5_canBe S n 0 x y = 0) a b := by
  unfold r_X5_canBe
  rw [hs]
  by_cases h1 : x < 1
  · rw [pif_pos h1, pif_pos h1, pif_pos rfl]
  · rw [pif_neg h1, pif_neg h1]
    by_cases h2 : y < 1
    · rw [pif_pos h2, pif_pos h2, pif_pos rfl]
    · rw [pif_neg h2, pif_neg h2]
      by_cases h3 : s < x
      · rw [pif_pos h3, pif_pos h3, pif_pos rfl]
      · rw [pif_neg h3, pif_neg h3]
        by_cases h4 : s < y
        · rw [pif_pos h4, pif_pos h4, pif_pos rfl]
        · rw [pif_neg h4, pif_neg h4]
          by_cases h5 : x + y ≤ s
          · rw [pif_pos h5, pif_pos h5, pif_pos rfl]
          · rw [pif_neg h5, pif_neg h5]
            by_cases h6 : 2 * y ≤ s
            · rw [pif_pos h6, pif_pos h6, pif_pos rfl]
            · rw [pif_neg h6, pif_neg h6, pif_neg (by decide)]
theorem x_change {n tc ac cn : Nat} {Z Z' : zZ} {S M : zS} {x y : Int32} (h : Cx n tc ac cn Z S M) (hp : (Z' = Z ∧ s_X7_change S n ac tc x y = S) ∨ ∃ c, atI 4 0 = some c ∧ gr S 2 c 2 = none ∧ ac < 200 ∧ tc < 16 ∧ s_X7_change S n ac tc x y = s_X7_beginChange (cTb S tc x y) n c ac (nI tc) ∧ ∃ Z1 Z2, zext Z Z1 5 tc 0 ∧ zext Z1 Z2 9 (1 + tc) n ∧ zext Z2 Z' 0 ac 0) (hf : frs tc ac Z) :
    r_X7_change S n ac tc x y = r_X8_change M n tc ac x y ∧ ∃ tc2 ac2 cn2, Cx n tc2 ac2 cn2 Z' (s_X7_change S n ac tc x y) (s_X8_change M n tc ac x y) ∧ frs tc2 ac2 Z' := by
  have hb := h.acs
  have h0 : 0 < 4 := by omega
  have htc := h.2.1.1.2.1.2
  obtain ⟨q1, q2, q3, q4, q5, q6⟩ := h.c1 h0
  have hm : gi M 8 0 29 = nI ac := h.2.2.1.2.2.1.symm.trans hb.1
  have main : ∀ Z1 Z2 Z3, gr S 2 0 2 = none → ac < 200 → tc < 16 → zext Z Z1 5 tc 0 → zext Z1 Z2 9 (1 + tc) n → zext Z2 Z3 0 ac 0 → r_X7_beginChange (cTb S tc x y) n 0 ac (nI tc) = chR n tc ac x y (lTb tc n 0 M) ∧ ∃ cn2, Cx n (tc + 1) (ac + 1) cn2 Z3 (s_X7_beginChange (cTb S tc x y) n 0 ac (nI tc)) (chS n tc ac x y (lTb tc n 0 M)) := by
    intro Z1 Z2 Z3 d1 d2 d3 z1 z2 z3
    have hT := x_tab (x := x) (y := y) h d3 z1 z2
    have hd : gr (cTb S tc x y) 2 0 2 = none := by
      unfold cTb s_X5_init
      rw [gr_si, gr_sr, if_neg (by omega), gr_si, gr_si, gr_sr, if_neg (by omega), gr_scp, if_neg (by omega), gr_sz, if_neg (by omega)]
      exact d1
    have := x_begC (t := nI tc) hT h0 hd d2 z3 ⟨tc, by omega, rfl⟩
    unfold chR chS
    rw [show tc + 1 - 1 = tc by omega]
    exact this
  have noS : ∀ c, atI 4 0 = some c → gr S 2 c 2 = none → ac < 200 → tc < 16 → (∃ Z1 Z2, zext Z Z1 5 tc 0 ∧ zext Z1 Z2 9 (1 + tc) n ∧ zext Z2 Z' 0 ac 0) → S = s_X7_beginChange (cTb S tc x y) n c ac (nI tc) → False := fun c e g1 g2 g3 g4 g5 => by
    have : c = 0 := Option.some.inj (e.symm.trans at0)
    subst this
    obtain ⟨Z1, Z2, z1, z2, z3⟩ := g4
    obtain ⟨-, cn2, g⟩ := main Z1 Z2 Z' g1 g2 g3 z1 z2 z3
    rw [← g5] at g
    exact sameAct h g
  have eC : s_X7_change S n ac tc x y = pif ((r_X7_canBegin S n 0) = (0)) (S) (pif ((gi S 2 (0) (7)) ≤ (gi S 2 (0) (6))) (pif ((16) ≤ (nI tc)) (S) (pif ((r_X5_canBe S n (0) (x) (y)) = (0)) (S) (s_X7_beginChange (cTb S tc x y) n 0 ac (nI tc)))) (S)) := by
    unfold s_X7_change; rw [oel_s at0]; rfl
  have eR : r_X7_change S n ac tc x y = pif ((r_X7_canBegin S n 0) = (0)) (-1) (pif ((gi S 2 (0) (7)) ≤ (gi S 2 (0) (6))) (pif ((16) ≤ (nI tc)) (-1) (pif ((r_X5_canBe S n (0) (x) (y)) = (0)) (-1) (r_X7_beginChange (cTb S tc x y) n 0 ac (nI tc)))) (-1)) := by
    unfold r_X7_change; rw [oel_s at0]; rfl
  have hs := sum_all h n 0 0 (by omega)
  have eM : s_X8_change M n tc ac x y = pif (r_X5_canBe S n 0 x y = 0) M (pif ((nI tc) = (16)) (M) (pif ((nI ac) = (200)) (M) (pif ((0) ≤ (gi M 9 (111) (0))) (M) (pif ((gi M 9 (115) (0)) ≤ (gi M 9 (114) (0))) (chS n tc ac x y (lTb tc n 0 M)) (M))))) := by
    unfold s_X8_change; exact canBe_eq hs _ _
  have eN : r_X8_change M n tc ac x y = pif (r_X5_canBe S n 0 x y = 0) (-1) (pif ((nI tc) = (16)) (-1) (pif ((nI ac) = (200)) (-1) (pif ((0) ≤ (gi M 9 (111) (0))) (-1) (pif ((gi M 9 (115) (0)) ≤ (gi M 9 (114) (0))) (chR n tc ac x y (lTb tc n 0 M)) (-1))))) := by
    unfold r_X8_change; exact canBe_eq hs _ _
  rw [eC] at hp ⊢
  rw [eR, eM, eN, ← q4, ← q5]
  rcases begin_cases h h0 with ⟨e1, e2⟩ | ⟨e1, e2, e3, e4, e5, e6⟩
  · have eP : ∀ {α : Type} (a b : α), pif (r_X5_canBe S n 0 x y = 0) a (pif (nI tc = 16) a (pif (nI ac = 200) a (pif ((0 : Int32) ≤ gi M 9 111 0) a b))) = a := fun a b => by
      rw [hm] at e2
      rcases e2 with e | e
      · rw [pif_pos e, pif_same, pif_same, pif_same]
      · rw [pif_pos e, pif_same, pif_same]
    rw [pif_pos e1] at hp ⊢
    rw [pif_pos e1, eP, eP]
    rcases hp with ⟨rfl, -⟩ | ⟨c, e, g1, g2, g3, g4, g5⟩
    · exact ⟨rfl, tc, ac, cn, h, hf⟩
    · exact (noS c e g1 g2 g3 g5 g4).elim
  · rw [hm] at e5
    rw [pif_neg e1] at hp ⊢
    rw [pif_neg e1, pif_neg e5, pif_neg e5, pif_neg e4, pif_neg e4]
    by_cases hl : gi S 2 0 7 ≤ gi S 2 0 6
    · rw [pif_pos hl] at hp ⊢
      rw [pif_pos hl, pif_pos hl, pif_pos hl]
      by_cases ht : tc < 16
      · have n1 : ¬ (16 : Int32) ≤ nI tc := nI_ge (b := 16) ht (by decide)
        have n2 : ¬ nI tc = 16 := fun q => n1 (by rw [q]; exact Int32.le_refl _)
        rw [pif_neg n1] at hp ⊢
        rw [pif_neg n1, pif_neg n2, pif_neg n2]
        by_cases hcb : r_X5_canBe S n 0 x y = 0
        · rw [pif_pos hcb] at hp ⊢
          rw [pif_pos hcb, pif_pos hcb, pif_pos hcb]
          rcases hp with ⟨rfl, -⟩ | ⟨c, e, g1, g2, g3, g4, g5⟩
          · exact ⟨rfl, tc, ac, cn, h, hf⟩
          · exact (noS c e g1 g2 g3 g5 g4).elim
        · rw [pif_neg hcb] at hp ⊢
          rw [pif_neg hcb, pif_neg hcb, pif_neg hcb]
          rcases hp with ⟨rfl, e⟩ | ⟨c, e, g1, g2, g3, g4, Z1, Z2, z1, z2, z3⟩
          · obtain ⟨Z1, z1⟩ := zext_ex Z' 5 tc 0
            obtain ⟨Z2, z2⟩ := zext_ex Z1 9 (1 + tc) n
            obtain ⟨Z3, z3⟩ := zext_ex Z2 0 ac 0
            obtain ⟨-, cn2, g⟩ := main Z1 Z2 Z3 e2 e3 ht z1 z2 z3
            exact (sameAct h (e ▸ g)).elim
          · obtain ⟨g5, cn2, g⟩ := main Z1 Z2 Z' e2 e3 ht z1 z2 z3
            exact ⟨g5, tc + 1, ac + 1, cn2, g, (hf.tab z1 z2).act z3⟩
      · have e16 : tc = 16 := by omega
        have n1 : (16 : Int32) ≤ nI tc := by rw [e16]; decide
        have n2 : nI tc = 16 := by rw [e16]; rfl
        rw [pif_pos n1] at hp ⊢
        rw [pif_pos n1, pif_pos n2, pif_pos n2, pif_same, pif_same]
        rcases hp with ⟨rfl, -⟩ | ⟨c, e, g1, g2, g3, g4, g5⟩
        · exact ⟨rfl, tc, ac, cn, h, hf⟩
        · exact (noS c e g1 g2 g3 g5 g4).elim
    · rw [pif_neg hl] at hp ⊢
      rw [pif_neg hl, pif_neg hl, pif_neg hl, pif_same, pif_same, pif_same, pif_same]
      rcases hp with ⟨rfl, -⟩ | ⟨c, e, g1, g2, g3, g4, g5⟩
      · exact ⟨rfl, tc, ac, cn, h, hf⟩
      · exact (noS c e g1 g2 g3 g5 g4).elim
