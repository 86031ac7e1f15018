/-- copy k's answer to the message q, appended on both sides -/
theorem Cx.answ {n tc ac cn k p q : Nat} {Z : zZ} {O U B S' : zS} {x2 x3 x4 x5 x6 : Int32} (h : Cx n tc ac cn Z O U) (hcn : cn < 300) (hk : k < n) (hp : p = pmR O.2.2 cn) (hpq : p ≠ q)
    (y2 : gi O 4 q 2 = x2) (y3 : gi O 4 q 3 = x3) (y4 : gi O 4 q 4 = x4) (y5 : gi O 4 q 5 = x5) (y6 : gi O 4 q 6 = x6) (inv : ivM1 n tc ac O q) (eB : B = s_X4_repeat (si O 1 0 2 (gi O 1 0 2 + 1)) p q)
    (eS : S' = s_X6_set (si (si (si B 4 p 1 1) 4 p 7 (gi B 3 k 1)) 4 p 8 (gi B 3 k 2)) (20 + p) k) :
    Cx n tc ac (cn + 1) Z S' (s_X8_put U cn 1 x2 x3 x4 x5 x6 (gi U 9 102 k) (gi U 9 103 k) (gj U 10 101 k) (-1) (gi U 9 104 k) (gi U 9 105 k)) := by
  have hn7 := h.n7
  obtain ⟨p1, p2, p3, q1, q2, q3, q4, q5, q6, q7, q8, q9, q10, q11, q12⟩ := @put_pic U cn 1 x2 x3 x4 x5 x6 (gi U 9 102 k) (gi U 9 103 k) (gj U 10 101 k) (-1) (gi U 9 104 k) (gi U 9 105 k) hcn
  obtain ⟨b1, b2, b3⟩ := @rep_gi (si O 1 0 2 (gi O 1 0 2 + 1)) p q
  obtain ⟨b3, -, -, -⟩ := b3 hpq
  have hR : S'.2.2 = O.2.2 := by rw [eS, eB]; rfl
  rw [← eB] at b1 b2 b3
  generalize s_X8_put U cn 1 x2 x3 x4 x5 x6 (gi U 9 102 k) (gi U 9 103 k) (gj U 10 101 k) (-1) (gi U 9 104 k) (gi U 9 105 k) = M' at *
  have hb3 : ∀ f, gi B 3 k f = gi O 3 k f := fun f => by rw [b1 _ _ _ (by omega) (by omega), gi_si, if_neg (by omega)]
  have hb6 : ∀ f, gi B 6 k f = gi O 6 k f := fun f => by rw [b1 _ _ _ (by omega) (by omega), gi_si, if_neg (by omega)]
  have hj6 : gj B 6 k 2 = gj O 6 k 2 := by rw [b2 _ _ _ (by omega)]; rfl
  obtain ⟨c1, c2, c3, c4, c5, c6, c7, c8⟩ := h.2.2.2.1 k hk
  obtain ⟨v1, v2⟩ := h.2.1.2.1 k hk
  have g4 : ∀ f, 1 ≤ f → f ≤ 8 → gi S' 4 p f = if f = 8 then gi O 3 k 2 else if f = 7 then gi O 3 k 1 else if f = 1 then 1 else gi O 4 q f := fun f r1 r2 => by
    rw [eS, set6_gi, if_neg (by omega), if_neg (by omega), gi_si, hb3, gi_si, hb3, gi_si]
    by_cases f8 : f = 8
    · rw [if_pos ⟨rfl, rfl, f8⟩, if_pos f8]
    · rw [if_neg (by omega), if_neg f8]
      by_cases f7 : f = 7
      · rw [if_pos ⟨rfl, rfl, f7⟩, if_pos f7]
      · rw [if_neg (by omega), if_neg f7]
        by_cases f1 : f = 1
        · rw [if_pos ⟨rfl, rfl, f1⟩, if_pos f1]
        · rw [if_neg (by omega), if_neg f1, b3 f r1 r2, gi_si, if_neg (by omega)]
  have o : ∀ K i f, ¬ (K = 4 ∧ i = p) → ¬ (K = 6 ∧ i = 20 + p) → ¬ (K = 1 ∧ i = 0 ∧ f = 2) → gi S' K i f = gi O K i f := fun K i f r1 r2 r3 => by
    rw [eS, set6_gi, if_neg (by omega), if_neg (by omega), gi_si, if_neg (by omega), gi_si, if_neg (by omega), gi_si, if_neg (by omega), b1 _ _ _ r1 r2, gi_si, if_neg r3]
  have w1 := g4 1 (by omega) (by omega)
  have w2 := g4 2 (by omega) (by omega)
  have w3 := g4 3 (by omega) (by omega)
  have w4 := g4 4 (by omega) (by omega)
  have w5 := g4 5 (by omega) (by omega)
  have w6 := g4 6 (by omega) (by omega)
  have w7 := g4 7 (by omega) (by omega)
  have w8 := g4 8 (by omega) (by omega)
  rw [if_neg (by omega), if_neg (by omega), if_pos rfl] at w1
  rw [if_neg (by omega), if_neg (by omega), if_neg (by omega)] at w2 w3 w4 w5 w6
  rw [if_neg (by omega), if_pos rfl] at w7
  rw [if_pos rfl] at w8
  refine h.app hcn hp hR o ?_ p1 p2 ?_ p3 ?_ ?_ ?_
  · intro K i f r
    rw [eS, set6_gj, if_neg (by omega), gj_si, gj_si, gj_si, b2 _ _ _ r]; rfl
  · rw [eS, set6_gi, if_neg (by omega), if_neg (by omega), gi_si, if_neg (by omega), gi_si, if_neg (by omega), gi_si, if_neg (by omega), b1 _ _ _ (by omega) (by omega), gi_si, if_pos ⟨rfl, rfl, rfl⟩, h.cn, nI_1]
  · refine ⟨?_, ?_, ?_, ?_, ?_, ?_, ?_, ?_, ?_, fun r => ?_, fun _ => ⟨?_, ?_⟩⟩
    · rw [w2, y2, q2]
    · rw [w3, y3, q3]
    · rw [w4, y4, q4]
    · rw [w5, y5, q5]
    · rw [w6, y6, q6]
    · rw [eS, set6_gi, if_neg (by omega), if_pos ⟨rfl, rfl, rfl⟩, gi_si, if_neg (by omega), gi_si, if_neg (by omega), gi_si, if_neg (by omega), hb6, c1, q7]
    · rw [eS, set6_gi, if_pos ⟨rfl, rfl, rfl⟩, gi_si, if_neg (by omega), gi_si, if_neg (by omega), gi_si, if_neg (by omega), hb6, c2, q8]
    · rw [eS, set6_gj, if_pos ⟨rfl, rfl, rfl⟩, gj_si, gj_si, gj_si, hj6, c3, q9]
    · rw [w1, q1]
    · rw [w1] at r; exact absurd r (by decide)
    · rw [w7, c4, q11]
    · rw [w8, c5, q12]
  · obtain ⟨k0, c, a, h1, h2, h3, h4, h5, h6, -, -, h9⟩ := inv
    refine ⟨k0, c, a, h1, h2, h3, by rw [w2]; exact h4, by rw [w3]; exact h5, by rw [w4]; exact h6, fun r => ?_, fun _ => ?_, ?_⟩
    · rw [w1] at r; exact absurd r (by decide)
    · rw [w7, w8]; exact ⟨v1, v2⟩
    · rw [gr_of hR, o 2 c 4 (by omega) (by omega) (by omega), o 2 c 3 (by omega) (by omega) (by omega), w5, w6]
      exact h9
  · rw [w1]; exact isB_1
theorem atI_nI {n k : Nat} (h : k < n) (hn : n < 2 ^ 31) : atI n (nI k) = some k := by
  rw [atI_in (nI_pos (by omega)) (nI_ge h hn), ix_nI (by omega)]
theorem x_serve {n tc ac cn i : Nat} {Z : zZ} {S M : zS} (h : Cx n tc ac cn Z S M) (hi : i < cn) (hz : gi S 4 (pmR S.2.2 i) 1 = 0) :
    Cx n tc ac cn Z (s_X7_serve (si (s_X1_take S (pmR S.2.2) (tkR S.2.2) cn (nI i)) 7 0 8 (gi (s_X1_take S (pmR S.2.2) (tkR S.2.2) cn (nI i)) 7 0 8 + 1)) n (pmR S.2.2 i)) (s_X8_request (si M 8 0 30 (gi M 8 0 30 + 1)) n i) := by
  have hcm := h.cm
  have hn7 := h.n7
  have hT := (h.take hi).clock
  have hq := rAt_nI (pm := pmR S.2.2) h.cn hcm hi
  obtain ⟨t1, t2, t3, -⟩ := take_gi (tk := tkR S.2.2) hq h.cn hcm
  obtain ⟨r1, -, -⟩ := take_gr (tk := tkR S.2.2) hq h.cn hcm h.1.pm
  obtain ⟨-, -, z3⟩ := take_zV h.1 hq h.cn hcm
  rw [ix_nI (by omega)] at z3
  have row := h.2.2.2.2.2.2.2.2.1 i hi
  have inv := h.2.1.2.2.2.2.2.1 i hi
  rw [request_eq]
  have hcm0 : ix (gi (si M 8 0 30 (gi M 8 0 30 + 1)) 8 0 44) = cn := by rw [gi_si, if_neg (by omega), h.mcn, ix_nI (by omega)]
  have m9 : ∀ I x, gi (si M 8 0 30 (gi M 8 0 30 + 1)) 9 I x = gi M 9 I x := fun I x => by rw [gi_si, if_neg (by omega)]
  unfold mRp
  rw [hcm0, mtk_ob hi, mtk_si hi (by omega) (by omega), gj_si]
  simp only [m9]
  have mc : gi (s_X8_take M cn i) 8 0 30 = gi M 8 0 30 := by rw [mtk_gi hi, if_neg (by omega), if_neg (by omega)]
  rw [mc] at hT
  have n9 : ∀ I x, I < 132 → gi (si (s_X8_take M cn i) 8 0 30 (gi M 8 0 30 + 1)) 9 I x = gi M 9 I x := fun I x hI => by rw [gi_si, if_neg (by omega), mtk_gi hi, if_neg (by omega), if_neg (by omega)]
  generalize si (s_X8_take M cn i) 8 0 30 (gi M 8 0 30 + 1) = M1 at *
  generalize hq0 : pmR S.2.2 i = q at *
  have s4 : ∀ K j f, K ≠ 1 → K ≠ 7 → gi (si (s_X1_take S (pmR S.2.2) (tkR S.2.2) cn (nI i)) 7 0 8 (gi (s_X1_take S (pmR S.2.2) (tkR S.2.2) cn (nI i)) 7 0 8 + 1)) K j f = gi S K j f := fun K j f r1 r2 => by rw [gi_si, if_neg (by omega), t1 _ _ _ (by omega)]
  have s5 : ∀ K j f, gj (si (s_X1_take S (pmR S.2.2) (tkR S.2.2) cn (nI i)) 7 0 8 (gi (s_X1_take S (pmR S.2.2) (tkR S.2.2) cn (nI i)) 7 0 8 + 1)) K j f = gj S K j f := fun K j f => t3 _ _ _
  have s6 : ∀ c, gr (si (s_X1_take S (pmR S.2.2) (tkR S.2.2) cn (nI i)) 7 0 8 (gi (s_X1_take S (pmR S.2.2) (tkR S.2.2) cn (nI i)) 7 0 8 + 1)) 2 c 2 = gr S 2 c 2 := fun c => r1 _ _ _ (by omega) (by omega)
  have s7 : tkR (si (s_X1_take S (pmR S.2.2) (tkR S.2.2) cn (nI i)) 7 0 8 (gi (s_X1_take S (pmR S.2.2) (tkR S.2.2) cn (nI i)) 7 0 8 + 1)).2.2 = q := z3
  generalize si (s_X1_take S (pmR S.2.2) (tkR S.2.2) cn (nI i)) 7 0 8 (gi (s_X1_take S (pmR S.2.2) (tkR S.2.2) cn (nI i)) 7 0 8 + 1) = S1 at *
  have inv1 : ivM1 n tc ac S1 q := inv.tr (fun f => s4 _ _ _ (by omega) (by omega)) (fun c _ => s6 c) (fun c _ => ⟨s4 _ _ _ (by omega) (by omega), s4 _ _ _ (by omega) (by omega)⟩)
  obtain ⟨k, c, a, k1, k2, k3, k4, k5, k6, k7, k8, k9⟩ := inv
  obtain ⟨e1, e2, e3, e4, e5, e6, e7, e8, e9, e10, e11⟩ := row
  have hix : ix (gi M 9 133 i) = k := by rw [← e1, k4, ix_nI (by omega)]
  rw [hix]
  have hob := hT.obey (M0 := si M 8 0 30 (gi M 8 0 30 + 1)) (q := q) k1 (ph := gi M 9 136 i) (t := gi M 9 140 i) (a := gi M 9 138 i) (b := gi M 9 139 i) (v := gj M 10 143 i) (by rw [s4 _ _ _ (by omega) (by omega)]; exact e4) (fun _ => by rw [s4 _ _ _ (by omega) (by omega)]; exact (e10 hz).1) (by rw [s4 _ _ _ (by omega) (by omega)]; exact e6) (by rw [s4 _ _ _ (by omega) (by omega)]; exact e7) (by rw [s5]; exact e8) (fun r => by rw [← (e10 hz).1]; exact k7 hz (by rw [e4]; exact r))
  rw [n9 102 k (by omega), n9 103 k (by omega), n9 104 k (by omega), n9 105 k (by omega)] at hob
  generalize mObV M1 k (gi M 9 136 i) (gi M 9 140 i) (gi M 9 138 i) (gi M 9 139 i) (gj M 10 143 i) (r_X8_isGreater (si M 8 0 30 (gi M 8 0 30 + 1)) (gi M 9 138 i) (gi M 9 139 i) (gi M 9 102 k) (gi M 9 103 k)) (gi M 9 105 k) (gi M 9 104 k) = U at *
  have hat : atI n (gi S1 4 q 2) = some k := by rw [s4 _ _ _ (by omega) (by omega), k4]; exact atI_nI k1 (by omega)
  have o4 : ∀ f, gi (s_X3_obey S1 k q) 4 q f = gi S 4 q f := fun f => by rw [gi_obey4, s4 _ _ _ (by omega) (by omega)]
  have hoc : gi (s_X3_obey S1 k q) 1 0 2 = nI (cn - 1) := hob.cn
  have hO : (s_X3_obey S1 k q).2.2 = S1.2.2 := k_X3_obey
  unfold s_X7_serve
  rw [oel_s hat, pif_pos (by rw [hoc]; exact l300 (by omega)), show ix (gi (s_X3_obey S1 k q) 1 0 2) = cn - 1 by rw [hoc, ix_nI (by omega)]]
  have hfin := hob.answ (q := q) (p := pmR S1.2.2 (cn - 1)) (x2 := gi M 9 133 i) (x3 := gi M 9 134 i) (x4 := gi M 9 135 i) (x5 := gi M 9 136 i) (x6 := gi M 9 137 i) (show cn - 1 < 300 by omega) k1 (by rw [hO]) (by rw [← s7]; exact hT.1.ntk (by omega)) (by rw [o4]; exact e1) (by rw [o4]; exact e2) (by rw [o4]; exact e3) (by rw [o4]; exact e4) (by rw [o4]; exact e5) (inv1.tr (fun f => gi_obey4) (fun c _ => gr_of hO) (fun c _ => ⟨obey_2, obey_2⟩)) rfl rfl
  rw [show cn - 1 + 1 = cn by omega] at hfin
  exact hfin
