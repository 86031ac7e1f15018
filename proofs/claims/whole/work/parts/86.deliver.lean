theorem hear_eq (S : zS) (n j : Nat) {c a : Nat} (h1 : atI 4 (gi S 4 j 3) = some c) (h2 : gr S 2 c 2 = some a) : s_X7_hear S n j = pif ((r_X2_counts S (c) (j) (a)) = (0)) (S) (pif ((gi S 4 (j) (7)) ≤ (gi S 2 (c) (6))) (cFin (s_X2_learn S c j) n c a) (pif ((gi (s_X2_learn S (c) (j)) 2 (c) (3)) = (1)) ((s_X7_beginPhase (s_X2_learn S (c) (j)) n (c) (a) (1))) (cFin (s_X2_learn S c j) n c a))) := by
  unfold s_X7_hear
  rw [oel_s h1, oel_s h2]
  rfl
theorem learn_pot {M : zS} {c : Nat} {w ph g a b ba la b0 l0 : Int32} {v : Int64} : (∀ j, gi (mL3 (mL2 (si M 9 117 c w) c ph g a b v) c ba la b0 l0) 11 132 j = gi M 11 132 j) ∧ gi (mL3 (mL2 (si M 9 117 c w) c ph g a b v) c ba la b0 l0) 8 0 44 = gi M 8 0 44 ∧ (∀ I c', I = 111 ∨ I = 112 → gi (mL3 (mL2 (si M 9 117 c w) c ph g a b v) c ba la b0 l0) 9 I c' = gi M 9 I c') ∧ (∀ c', c' ≠ c → gi (mL3 (mL2 (si M 9 117 c w) c ph g a b v) c ba la b0 l0) 9 114 c' = gi M 9 114 c') ∧ gi (mL3 (mL2 (si M 9 117 c w) c ph g a b v) c ba la b0 l0) 9 114 c = pif (ba ≤ b0) (gi M 9 114 c) ba := by
  have h2 : ∀ K I x, ¬ (K = 9 ∧ x = c ∧ (I = 117 ∨ I = 118 ∨ I = 119)) → gi (mL2 (si M 9 117 c w) c ph g a b v) K I x = gi M K I x := fun K I x q => by
    have z0 : gi (si M 9 117 c w) K I x = gi M K I x := by rw [gi_si, if_neg (by omega)]
    have z1 : gi (bst (si M 9 117 c w) c a b v) K I x = gi M K I x := by unfold bst; rw [gi_sj, gi_si, if_neg (by omega), gi_si, if_neg (by omega), z0]
    unfold mL2
    simp only [gi_pif, z0, z1, pif_same]
  generalize mL2 (si M 9 117 c w) c ph g a b v = T at *
  have h3 : ∀ K I x, ¬ (K = 9 ∧ x = c ∧ (I = 114 ∨ I = 115)) → gi (mL3 T c ba la b0 l0) K I x = gi T K I x := fun K I x q => by
    have z1 : ∀ (X : zS) y, gi (si X 9 115 c y) K I x = gi X K I x := fun X y => by rw [gi_si, if_neg (by omega)]
    have z2 : ∀ (X : zS) y, gi (si X 9 114 c y) K I x = gi X K I x := fun X y => by rw [gi_si, if_neg (by omega)]
    unfold mL3
    simp only [gi_pif, z1, z2, pif_same]
  refine ⟨fun j => by rw [h3 _ _ _ (by omega), h2 _ _ _ (by omega)], by rw [h3 _ _ _ (by omega), h2 _ _ _ (by omega)], fun I c' hI => by rw [h3 _ _ _ (by omega), h2 _ _ _ (by omega)], fun c' q => by rw [h3 _ _ _ (by omega), h2 _ _ _ (by omega)], ?_⟩
  have z1 : ∀ (X : zS) y, gi (si X 9 115 c y) 9 114 c = gi X 9 114 c := fun X y => by rw [gi_si, if_neg (by omega)]
  have z2 : ∀ (X : zS), gi (si X 9 114 c ba) 9 114 c = ba := fun X => by rw [gi_si, if_pos ⟨rfl, rfl, rfl⟩]
  unfold mL3
  simp only [gi_pif, z1, z2, pif_same]
  rw [h2 _ _ _ (by omega)]
theorem x_hear {n tc ac cn i : Nat} {Z : zZ} {S M : zS} (h : Cx n tc ac cn Z S M) (hi : i < cn) (hz : ¬ gi S 4 (pmR S.2.2 i) 1 = 0) :
    ∃ cn2, Cx n tc ac cn2 Z (s_X7_hear (si (s_X1_take S (pmR S.2.2) (tkR S.2.2) cn (nI i)) 7 0 8 (gi (s_X1_take S (pmR S.2.2) (tkR S.2.2) cn (nI i)) 7 0 8 + 1)) n (pmR S.2.2 i)) (s_X8_answer (si M 8 0 30 (gi M 8 0 30 + 1)) n i) ∧ pot (s_X8_answer (si M 8 0 30 (gi M 8 0 30 + 1)) n i) < pot M := by
  have hcm := h.cm
  have hn7 := h.n7
  have hT := (h.take hi).clock
  have hq := rAt_nI (pm := pmR S.2.2) h.cn hcm hi
  obtain ⟨t1, t2, t3, -⟩ := take_gi (tk := tkR S.2.2) hq h.cn hcm
  obtain ⟨r1, -, -⟩ := take_gr (tk := tkR S.2.2) hq h.cn hcm h.1.pm
  have row := h.2.2.2.2.2.2.2.2.1 i hi
  have inv := h.2.1.2.2.2.2.2.1 i hi
  have htc := h.2.1.1.2.1.2
  have hac := h.2.1.1.2.2.1
  rw [answer_eq]
  unfold mX
  have hcm0 : ix (gi (si M 8 0 30 (gi M 8 0 30 + 1)) 8 0 44) = cn := by rw [gi_si, if_neg (by omega), h.mcn, ix_nI (by omega)]
  have m9 : ∀ I x, gi (si M 8 0 30 (gi M 8 0 30 + 1)) 9 I x = gi M 9 I x := fun I x => by rw [gi_si, if_neg (by omega)]
  rw [hcm0, mtk_si hi (by omega) (by omega), gj_si]
  simp only [m9]
  have mc : gi (s_X8_take M cn i) 8 0 30 = gi M 8 0 30 := by rw [mtk_gi hi, if_neg (by omega), if_neg (by omega)]
  rw [mc] at hT
  have n9 : ∀ I x, I < 132 → gi (si (s_X8_take M cn i) 8 0 30 (gi M 8 0 30 + 1)) 9 I x = gi M 9 I x := fun I x hI => by rw [gi_si, if_neg (by omega), mtk_gi hi, if_neg (by omega), if_neg (by omega)]
  have hpot : pot (si (s_X8_take M cn i) 8 0 30 (gi M 8 0 30 + 1)) < pot M := by
    have h1 := pot_take hi h.mcn hcm
    have h2 := (pw_le M i).1
    have h3 : pot (si (s_X8_take M cn i) 8 0 30 (gi M 8 0 30 + 1)) = pot (s_X8_take M cn i) := pot_eq (fun j => by rw [gi_si, if_neg (by omega)]) (by rw [gi_si, if_neg (by omega)]) (fun c => rk_eq (by rw [gi_si, if_neg (by omega)]) (by rw [gi_si, if_neg (by omega)]) (by rw [gi_si, if_neg (by omega)]))
    omega
  generalize si (s_X8_take M cn i) 8 0 30 (gi M 8 0 30 + 1) = M1 at *
  generalize hq0 : pmR S.2.2 i = q at *
  have s4 : ∀ K j f, K ≠ 1 → K ≠ 7 → gi (si (s_X1_take S (pmR S.2.2) (tkR S.2.2) cn (nI i)) 7 0 8 (gi (s_X1_take S (pmR S.2.2) (tkR S.2.2) cn (nI i)) 7 0 8 + 1)) K j f = gi S K j f := fun K j f r1 r2 => by rw [gi_si, if_neg (by omega), t1 _ _ _ (by omega)]
  have s5 : ∀ K j f, gj (si (s_X1_take S (pmR S.2.2) (tkR S.2.2) cn (nI i)) 7 0 8 (gi (s_X1_take S (pmR S.2.2) (tkR S.2.2) cn (nI i)) 7 0 8 + 1)) K j f = gj S K j f := fun K j f => t3 _ _ _
  have s6 : ∀ c, gr (si (s_X1_take S (pmR S.2.2) (tkR S.2.2) cn (nI i)) 7 0 8 (gi (s_X1_take S (pmR S.2.2) (tkR S.2.2) cn (nI i)) 7 0 8 + 1)) 2 c 2 = gr S 2 c 2 := fun c => r1 _ _ _ (by omega) (by omega)
  generalize si (s_X1_take S (pmR S.2.2) (tkR S.2.2) cn (nI i)) 7 0 8 (gi (s_X1_take S (pmR S.2.2) (tkR S.2.2) cn (nI i)) 7 0 8 + 1) = S1 at *
  have inv1 : ivM1 n tc ac S1 q := inv.tr (fun f => s4 _ _ _ (by omega) (by omega)) (fun c _ => s6 c) (fun c _ => ⟨s4 _ _ _ (by omega) (by omega), s4 _ _ _ (by omega) (by omega)⟩)
  have q4 : ∀ f, gi S 4 q f = gi S1 4 q f := fun f => (s4 _ _ _ (by omega) (by omega)).symm
  have q6 : ∀ f, gi S 6 (20 + q) f = gi S1 6 (20 + q) f := fun f => (s4 _ _ _ (by omega) (by omega)).symm
  obtain ⟨e1, e2, e3, e4, e5, e6, e7, e8, e9, e10, e11⟩ := row
  obtain ⟨e12, e13⟩ := e11 hz
  rw [q4] at e1 e2 e3 e4 e5 e12 e13 hz
  rw [q6] at e6 e7
  rw [← s5] at e8
  obtain ⟨k, c, a0, k1, k2, k3, k4, k5, k6, k7, k8, k9⟩ := inv1
  have hix : ix (gi M 9 134 i) = c := by rw [← e2, k5, ix_nI (by omega)]
  have h134 : gi M 9 134 i = nI c := e2.symm.trans k5
  have h133 : gi M 9 133 i = nI k := e1.symm.trans k4
  rw [hix, h134, h133, ← n9 111 c (by omega), ← n9 112 c (by omega), ← n9 113 c (by omega), ← n9 117 c (by omega)]
  have hat : atI 4 (gi S1 4 q 3) = some c := by rw [k5]; exact atI_nI k2 (by omega)
  rcases hT.doing k2 with ⟨d1, d2, d3⟩ | ⟨a, d0, dc, d1, d2, d3, d4⟩
  · rw [pif_pos (show gi M1 9 111 c < 0 by rw [d2]; decide)]
    refine ⟨cn - 1, ?_, hpot⟩
    unfold s_X7_hear
    rw [oel_s hat, oel_n d1]
    exact hT
  · rw [pif_neg (Int32.not_lt.mpr d3), hear_eq S1 n q hat d1]
    unfold r_X2_counts
    obtain ⟨c1, c2, c3, c4, c5, c6⟩ := hT.c1 k2
    rw [e3, d4, ← d2, e5, c2]
    by_cases x1 : gi M 9 135 i = gi M1 9 111 c
    · rw [pif_pos x1, pif_pos x1]
      by_cases x2 : gi M 9 137 i = gi M1 9 113 c
      · have haa : a0 = a := by
          have := k6.symm.trans (e3.trans (x1.trans d2))
          have := (nI_eq (by omega) (by omega)).mp this
          omega
        subst haa
        obtain ⟨r, r', y1, y2, y3, y4, y5⟩ := k9 d1
        have hrr : r' = r := by
          have : nI r' = nI r := by rw [← y2, ← y1, e5, c2]; exact x2
          exact (nI_eq (by omega) (by omega)).mp this
        have x3 : gi M 9 136 i = gi M1 9 112 c := by rw [← e4, ← c1]; exact y5 hrr
        rw [pif_pos x2, pif_pos x3, pif_pos x2]
        have hb := bitq (gi M1 9 117 c) (k := k) (by omega)
        unfold r_X2_hasAnswerOf
        rw [k4, c3]
        by_cases x4 : (gi M1 9 117 c &&& (1 <<< (nI k &&& 31))) = 0
        · rw [pif_neg (show ¬ ((gi M1 9 117 c >>> (nI k &&& 31)) &&& 1) = 1 from fun w => (hb.mp w) x4), pif_pos x4, pif_pos rfl, pif_neg (by decide)]
          have hL := x_learn (M0 := si M1 9 117 c ((gi M1 9 117 c) ||| ((1) <<< ((nI k) &&& 31)))) hT k2 d1 k4 e12 e13 e6 e7 e8 (by rw [← e12]; exact (k8 hz).1) (by rw [← e13]; exact (k8 hz).2)
          have lr : gr (s_X2_learn S1 c q) 2 c 2 = some a0 := (gr_of k_X2_learn).trans d1
          have l3 : gi (s_X2_learn S1 c q) 2 c 3 = gi S1 2 c 3 := by rw [learn_2]; unfold lnB; rw [gi_si, if_neg (by omega), gi_si, if_neg (by omega), gi_si, if_neg (by omega)]
          have l4 : gi (s_X2_learn S1 c q) 2 c 4 = gi S1 2 c 4 := by rw [learn_2]; unfold lnB; rw [gi_si, if_neg (by omega), gi_si, if_neg (by omega), gi_si, if_neg (by omega)]
          have l6 : gi (s_X2_learn S1 c q) 2 c 6 = if (gi S1 2 (c) (6)) < (gi S1 4 (q) (7)) then (gi S1 4 (q) (7)) else (gi S1 2 (c) (6)) := by rw [learn_2]; unfold lnB; rw [gi_si, if_neg (by omega), gi_si, if_pos ⟨rfl, rfl, rfl⟩]
          have hbase := (k8 hz).1
          rw [l3, e12, c4, c1]
          obtain ⟨o1, o2, o3, o4, o5⟩ := learn_pot (M := M1) (c := c) (w := (gi M1 9 117 c) ||| ((1) <<< ((nI k) &&& 31))) (ph := gi M1 9 112 c) (g := r_X8_isGreater (si M1 9 117 c ((gi M1 9 117 c) ||| ((1) <<< ((nI k) &&& 31)))) (gi M 9 138 i) (gi M 9 139 i) (gi M1 9 118 c) (gi M1 9 119 c)) (a := gi M 9 138 i) (b := gi M 9 139 i) (v := gj M 10 143 i) (ba := gi M 9 141 i) (la := gi M 9 142 i) (b0 := gi M1 9 114 c) (l0 := gi M1 9 115 c)
          generalize (mL3 (mL2 (si M1 9 117 c ((gi M1 9 117 c) ||| ((1) <<< ((nI k) &&& 31)))) c (gi M1 9 112 c) (r_X8_isGreater (si M1 9 117 c ((gi M1 9 117 c) ||| ((1) <<< ((nI k) &&& 31)))) (gi M 9 138 i) (gi M 9 139 i) (gi M1 9 118 c) (gi M1 9 119 c)) (gi M 9 138 i) (gi M 9 139 i) (gj M 10 143 i)) c (gi M 9 141 i) (gi M 9 142 i) (gi M1 9 114 c) (gi M1 9 115 c)) = X at *
          by_cases x5 : gi M 9 141 i ≤ gi M1 9 114 c
          · rw [pif_pos x5, pif_pos x5, pif_same]
            obtain ⟨cn2, gg, gp⟩ := x_fin hL k2 lr
            have hX := pot_cli (M := M1) (M' := X) k2 o1 o2 (fun c' q => rk_eq (o3 111 c' (Or.inl rfl)) (o3 112 c' (Or.inr rfl)) (o4 c' q))
            have hX2 : rk X c = rk M1 c := rk_eq (o3 111 c (Or.inl rfl)) (o3 112 c (Or.inr rfl)) (by rw [o5, pif_pos x5])
            exact ⟨cn2, gg, by omega⟩
          · rw [pif_neg x5, pif_neg x5]
            by_cases x6 : gi M1 9 112 c = 1
            · rw [pif_pos x6, pif_pos x6]
              obtain ⟨g0, g1, φ, r2, b, f1, f2, f3, f4, f5, f6, f7, f8⟩ := (hT.ic k2).2.2.2 a0 d1
              have hφ : φ = 1 := by
                have h1 : nI 1 = 1 := rfl
                have : nI φ = nI 1 := by rw [h1, ← f1, c1]; exact x6
                exact (nI_eq (by omega) (by omega)).mp this
              subst hφ
              have hlt : gi S1 2 c 6 < gi S1 4 q 7 := by rw [e12, c4]; exact Int32.not_le.mp x5
              rw [if_pos hlt] at l6
              obtain ⟨b2, hb2, eb2⟩ := hbase
              have hbb : b < b2 := by
                rw [f3, eb2] at hlt
                exact (nI_ltI (by omega) (by omega)).mp hlt
              obtain ⟨z0, z1, z2, z3, z4, w1, w2, w3, w4, w5, w6, w7, w8⟩ := (hL.ic k2).2.2.2 a0 lr
              have hz2 : z2 = 1 := by
                have h1 : nI 1 = 1 := rfl
                have : nI z2 = nI 1 := by rw [h1, ← w1, l3, c1]; exact x6
                exact (nI_eq (by omega) (by omega)).mp this
              subst hz2
              have hph : ¬ (gi (s_X2_learn S1 c q) 2 c 3 = 2 ∧ gi (s_X2_learn S1 c q) 0 a0 1 = 1) := fun w => by
                rw [l3, c1, x6] at w
                exact absurd w.1 (by decide)
              obtain ⟨cn2, gg⟩ := x_begin k2 (hL.prep (φ2 := 1) (r := r2) (b := b2) k2 lr (by omega) (by rw [l4]; exact f2) (by rw [l6]; exact eb2) hb2 (by omega) (Or.inl ⟨by omega, w7.elim (fun q => q.2) (fun q => absurd q.1 (by omega))⟩) (by omega) hph) lr (by decide)
              have hn := pot_next (M := M1) (N := X) (n := n) (y := 1) k2 hn7 hT.mcn (by omega) o1 o2 (fun c' q => rk_eq (o3 111 c' (Or.inl rfl)) (o3 112 c' (Or.inr rfl)) (o4 c' q)) (by
                have hnn : ¬ gi M1 9 111 c < 0 := Int32.not_lt.mpr d3
                rw [o3 111 c (Or.inl rfl), rkV_1 hnn, o5, pif_neg x5]
                unfold rk
                rw [x6, rkV_1 hnn, ← e12, eb2, ← c4, f3, ix_nI (by omega), ix_nI (by omega)]
                omega)
              exact ⟨cn2, gg, by omega⟩
            · rw [pif_neg x6, pif_neg x6]
              obtain ⟨cn2, gg, gp⟩ := x_fin hL k2 lr
              have hX := pot_cli (M := M1) (M' := X) k2 o1 o2 (fun c' q => rk_eq (o3 111 c' (Or.inl rfl)) (o3 112 c' (Or.inr rfl)) (o4 c' q))
              have hX2 : rk X c = rk M1 c := by
                unfold rk rkV
                rw [o3 111 c (Or.inl rfl), o3 112 c (Or.inr rfl), if_neg x6, if_neg x6]
              exact ⟨cn2, gg, by omega⟩
        · rw [pif_pos (show ((gi M1 9 117 c >>> (nI k &&& 31)) &&& 1) = 1 from hb.mpr x4), pif_neg x4, pif_neg (show ¬ (1 : Int32) = 0 by decide), pif_pos rfl]
          exact ⟨cn - 1, hT, hpot⟩
      · rw [pif_neg x2, pif_pos rfl, pif_neg x2, pif_same]
        exact ⟨cn - 1, hT, hpot⟩
    · rw [pif_neg x1, pif_pos rfl, pif_neg x1]
      exact ⟨cn - 1, hT, hpot⟩
theorem x_pass {n tc ac cn i : Nat} {Z : zZ} {S M : zS} (h : Cx n tc ac cn Z S M) (hi : i < cn) : r_X7_canPass S n (pmR S.2.2 i) = r_X8_canBe M i := by
  have hn7 := h.n7
  obtain ⟨e1, e2, -⟩ := h.2.2.2.2.2.2.2.2.1 i hi
  obtain ⟨k, c, a, k1, k2, k3, k4, k5, -⟩ := h.2.1.2.2.2.2.2.1 i hi
  obtain ⟨p1, p2, p3, p4, p5, p6, p7, p8⟩ := h.2.2.2.1 k k1
  obtain ⟨c1, c2, c3, c4, c5, c6⟩ := h.c1 k2
  unfold r_X7_canPass r_X8_canBe
  rw [k4, k5, oel_s (atI_nI k1 (by omega)), oel_s (atI_nI k2 (by omega)), ← e1, k4, ← e2, k5, ix_nI (by omega), ix_nI (by omega), p6, p7, c6]
theorem pot_request {n tc ac cn i : Nat} {Z : zZ} {S M : zS} (h : Cx n tc ac cn Z S M) (hi : i < cn) (hz : gi M 11 132 i = 0) : pot (s_X8_request (si M 8 0 30 (gi M 8 0 30 + 1)) n i) < pot M := by
  have hcm := h.cm
  rw [request_eq]
  unfold mRp
  have hcm0 : ix (gi (si M 8 0 30 (gi M 8 0 30 + 1)) 8 0 44) = cn := by rw [gi_si, if_neg (by omega), h.mcn, ix_nI (by omega)]
  rw [hcm0]
  generalize ix (gi (si M 8 0 30 (gi M 8 0 30 + 1)) 9 133 i) = k
  generalize gi (si M 8 0 30 (gi M 8 0 30 + 1)) 9 136 i = ph
  generalize gi (si M 8 0 30 (gi M 8 0 30 + 1)) 9 140 i = t
  generalize gi (si M 8 0 30 (gi M 8 0 30 + 1)) 9 138 i = a
  generalize gi (si M 8 0 30 (gi M 8 0 30 + 1)) 9 139 i = b
  generalize gj (si M 8 0 30 (gi M 8 0 30 + 1)) 10 143 i = v
  generalize r_X8_isGreater (si M 8 0 30 (gi M 8 0 30 + 1)) a b (gi (si M 8 0 30 (gi M 8 0 30 + 1)) 9 102 k) (gi (si M 8 0 30 (gi M 8 0 30 + 1)) 9 103 k) = g
  generalize gi (si M 8 0 30 (gi M 8 0 30 + 1)) 9 105 k = la
  generalize gi (si M 8 0 30 (gi M 8 0 30 + 1)) 9 104 k = ba
  have hU : ∀ K I x, ¬ (K = 8 ∧ I = 0 ∧ x = 30) → ¬ (K = 9 ∧ 102 ≤ I ∧ I ≤ 105) → gi (mObV (si M 8 0 30 (gi M 8 0 30 + 1)) k ph t a b v g la ba) K I x = gi M K I x := fun K I x q1 q2 => by
    have z0 : gi (si M 8 0 30 (gi M 8 0 30 + 1)) K I x = gi M K I x := by rw [gi_si, if_neg q1]
    have z1 : ∀ (X : zS) y, gi (si X 9 102 k y) K I x = gi X K I x := fun X y => by rw [gi_si, if_neg (by omega)]
    have z2 : ∀ (X : zS) y, gi (si X 9 103 k y) K I x = gi X K I x := fun X y => by rw [gi_si, if_neg (by omega)]
    have z3 : ∀ (X : zS) y, gi (si X 9 104 k y) K I x = gi X K I x := fun X y => by rw [gi_si, if_neg (by omega)]
    have z4 : ∀ (X : zS) y, gi (si X 9 105 k y) K I x = gi X K I x := fun X y => by rw [gi_si, if_neg (by omega)]
    unfold mObV
    simp only [gi_pif, gi_sj, z0, z1, z2, z3, z4, pif_same]
  generalize mObV (si M 8 0 30 (gi M 8 0 30 + 1)) k ph t a b v g la ba = U at *
  have hUc : gi U 8 0 44 = nI cn := (hU _ _ _ (by omega) (by omega)).trans h.mcn
  have h1 := pot_take hi hUc hcm
  have h2 : pw U i = 2 := by unfold pw; rw [hU _ _ _ (by omega) (by omega), if_pos hz]
  have h3 : pot U = pot M := pot_eq (fun j => hU _ _ _ (by omega) (by omega)) (hU _ _ _ (by omega) (by omega)) (fun c => rk_eq (hU _ _ _ (by omega) (by omega)) (hU _ _ _ (by omega) (by omega)) (hU _ _ _ (by omega) (by omega)))
  have h4 : gi (s_X8_take U cn i) 8 0 44 = nI (cn - 1) := by rw [mtk_gi hi, if_neg (by omega), if_pos ⟨rfl, rfl, rfl⟩]
  refine Nat.lt_of_le_of_lt (pot_put h4 (by omega)) ?_
  rw [if_neg (by decide)]
  omega
theorem x_deliver {n tc ac cn i : Nat} {Z : zZ} {S M : zS} (h : Cx n tc ac cn Z S M) (hi : i < cn) : r_X7_deliver S n (nI i) = r_X8_deliver M n i ∧ ∃ cn2, Cx n tc ac cn2 Z (s_X7_deliver S n (nI i)) (s_X8_deliver M n i) ∧ (r_X8_canBe M i = 0 ∨ pot (s_X8_deliver M n i) < pot M) := by
  have hcm := h.cm
  have hq := rAt_nI (pm := pmR S.2.2) h.cn hcm hi
  obtain ⟨t1, -⟩ := take_gi (tk := tkR S.2.2) hq h.cn hcm
  have row := h.2.2.2.2.2.2.2.2.1 i hi
  unfold r_X7_deliver r_X8_deliver s_X7_deliver s_X8_deliver
  rw [oel_s hq, oel_s hq, x_pass h hi, h.cn, ix_nI (by omega), t1 4 _ 1 (by omega), ← row.2.2.2.2.2.2.2.2.1]
  refine ⟨rfl, ?_⟩
  by_cases hp : r_X8_canBe M i = 0
  · rw [pif_pos hp, pif_pos hp]; exact ⟨cn, h, Or.inl hp⟩
  · rw [pif_neg hp, pif_neg hp]
    by_cases hz : gi S 4 (pmR S.2.2 i) 1 = 0
    · rw [pif_pos hz, pif_pos hz]
      refine ⟨cn, x_serve h hi hz, Or.inr ?_⟩
      exact pot_request h hi (row.2.2.2.2.2.2.2.2.1.symm.trans hz)
    · rw [pif_neg hz, pif_neg hz]
      obtain ⟨cn2, g1, g2⟩ := x_hear h hi hz
      exact ⟨cn2, g1, Or.inr g2⟩
theorem x_deliver_n {n tc ac cn : Nat} {Z : zZ} {S M : zS} {x : Int32} (_ : Cx n tc ac cn Z S M) (hi : r_X1_at S (pmR S.2.2) x = none) : r_X7_deliver S n x = 0 ∧ s_X7_deliver S n x = S := by
  unfold r_X7_deliver s_X7_deliver
  rw [oel_n hi, oel_n hi]; exact ⟨rfl, rfl⟩
