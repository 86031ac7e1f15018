/-- what a new act's row holds ahead of its beginning: S0 against S -/
def actP (S S0 : zS) (c a : Nat) (κ t lt : Int32) (v : Int64) : Prop :=
  (∀ k i f, ¬ (k = 0 ∧ i = a) → ¬ (k = 2 ∧ i = c ∧ f = 7) → gi S0 k i f = gi S k i f) ∧ (∀ k i f, ¬ (k = 0 ∧ i = a) → gj S0 k i f = gj S k i f) ∧ (∀ k i f, k ≠ 0 → gr S0 k i f = gr S k i f) ∧
  (gi S0 0 a 0 = nI (a + 1) ∧ gi S0 0 a 1 = κ ∧ gi S0 0 a 2 = nI c ∧ gi S0 0 a 4 = -1 ∧ gi S0 0 a 5 = -1 ∧ gi S0 0 a 6 = -1 ∧ gi S0 0 a 7 = t ∧ gj S0 0 a 8 = v) ∧ gi S0 2 c 7 = lt
theorem x_newact {n tc ac cn c φ : Nat} {Z Z' : zZ} {S S0 M : zS} {κ t lt : Int32} {v : Int64} (h : Cx n tc ac cn Z S M) (hc : c < 4) (hd : gr S 2 c 2 = none) (ha : ac < 200) (hx : zext Z Z' 0 ac 0) (hp : actP S S0 c ac κ t lt v) (hlt : ivN tc lt)
    (hk : (φ = 1 ∧ (κ = 0 ∨ κ = 1) ∧ t = -1 ∧ lt = gi S 2 c 7) ∨ (φ = 3 ∧ κ = 2 ∧ ivN tc t ∧ lt = t)) :
    r_X7_beginAct S0 n c ac (nI φ) = r_X8_beginAct M n ac (nI c) κ v t ∧ ∃ cn2, Cx n tc (ac + 1) cn2 Z' (s_X7_beginAct S0 n c ac (nI φ)) (s_X8_beginAct M n ac (nI c) κ v t) := by
  obtain ⟨h1, h2, h3, ⟨k0, k1, k2, k4, k5, k6, k7, k8⟩, hl⟩ := hp
  have hac : gi S 7 0 7 = nI ac := h.2.1.1.2.2.2.2.2.1
  have hac0 : gi S0 7 0 7 = nI ac := by rw [h1 _ _ _ (by omega) (by omega)]; exact hac
  obtain ⟨u1, u2, u3, u4, u5, u6, u7, u8, u9, u10⟩ := @cBA_gi S0 c ac
  rw [hac0, ix_nI (by omega)] at u10
  have hzv : zV n Z' (cPr (cBA S0 c ac) c (nI φ)).2.2 := by
    have z1 : zV n Z' S0.2.2 := h.1.newAct hx (fun k i f q => h3 k i f q)
    have z2 := z1.begin hc ((hx.2.1 0 ac).mpr (Or.inr ⟨rfl, rfl⟩)) ha
    have e : (cPr (cBA S0 c ac) c (nI φ)).2.2 = up3 (up3 S0.2.2 12 0 ac (some ac)) 2 c 2 (some ac) := by
      show up3 (up3 S0.2.2 12 0 (ix (gi S0 7 0 7)) (some ac)) 2 c 2 (some ac) = _
      rw [hac0, ix_nI (by omega)]
    rw [e]; exact z2
  have oP : ∀ k i f, ¬ (k = 2 ∧ i = c ∧ (f = 3 ∨ f = 4 ∨ f = 5)) → gi (cPr (cBA S0 c ac) c (nI φ)) k i f = gi (cBA S0 c ac) k i f := fun k i f q => by unfold cPr; rw [gi_si, if_neg (by omega), gi_si, if_neg (by omega), gi_si, if_neg (by omega)]
  have w3 : gi (cPr (cBA S0 c ac) c (nI φ)) 2 c 3 = nI φ := by unfold cPr; rw [gi_si, if_neg (by omega), gi_si, if_neg (by omega), gi_si, if_pos ⟨rfl, rfl, rfl⟩]
  have w4 : gi (cPr (cBA S0 c ac) c (nI φ)) 2 c 4 = 1 := by unfold cPr; rw [gi_si, if_neg (by omega), gi_si, if_pos ⟨rfl, rfl, rfl⟩, u6]; rfl
  have w5 : gi (cPr (cBA S0 c ac) c (nI φ)) 2 c 5 = 0 := by unfold cPr; rw [gi_si, if_pos ⟨rfl, rfl, rfl⟩]
  have wj : ∀ k i f, gj (cPr (cBA S0 c ac) c (nI φ)) k i f = gj (cBA S0 c ac) k i f := fun k i f => rfl
  have wr : ∀ k i f, gr (cPr (cBA S0 c ac) c (nI φ)) k i f = gr (cBA S0 c ac) k i f := fun k i f => rfl
  have ra : gr (cBA S0 c ac) 2 c 2 = some ac := by rw [u10, if_pos ⟨rfl, rfl, rfl⟩]
  obtain ⟨m1, m2, m3, m4, ⟨n1, n2, n3, n4, n5, n6, n7, n8⟩, l1, l2, l3, l4, l5⟩ := @mBA_gi M ac c (nI c) κ v t
  have key : ∀ (N0 : zS), (∀ K I f, ¬ (K = 9 ∧ I = 115 ∧ f = c) → gi N0 K I f = gi (mBA M ac c (nI c) κ v t) K I f) → (∀ K I f, gj N0 K I f = gj (mBA M ac c (nI c) κ v t) K I f) → gi N0 9 115 c = lt → ((φ = 1 ∧ (κ = 0 ∨ κ = 1) ∧ t = -1) ∨ (φ = 3 ∧ κ = 2 ∧ ivN tc t)) → Cx n tc (ac + 1) cn Z' (cPr (cBA S0 c ac) c (nI φ)) (mPr N0 c (nI φ)) := by
    intro N0 y1 y2 y3 y4
    have oN : ∀ K I f, ¬ (K = 9 ∧ f = c ∧ (I = 112 ∨ I = 113 ∨ I = 117)) → gi (mPr N0 c (nI φ)) K I f = gi N0 K I f := fun K I f q => by unfold mPr; rw [gi_si, if_neg (by omega), gi_si, if_neg (by omega), gi_si, if_neg (by omega)]
    have x2 : gi (mPr N0 c (nI φ)) 9 112 c = nI φ := by unfold mPr; rw [gi_si, if_neg (by omega), gi_si, if_neg (by omega), gi_si, if_pos ⟨rfl, rfl, rfl⟩]
    have x3 : gi (mPr N0 c (nI φ)) 9 113 c = 1 := by unfold mPr; rw [gi_si, if_neg (by omega), gi_si, if_pos ⟨rfl, rfl, rfl⟩, y1 _ _ _ (by omega), l2]; rfl
    have x7 : gi (mPr N0 c (nI φ)) 9 117 c = 0 := by unfold mPr; rw [gi_si, if_pos ⟨rfl, rfl, rfl⟩]
    refine h.newAct (φ := φ) (κ := κ) (t := t) (lt := lt) (v := v) hc hd ha (fun k i f q1 q2 q3 q4 => ?_) (fun k i f q1 q2 => ?_) (fun k i f q1 q2 q3 => ?_) ?_ ra hzv ?_ ?_ w3 w4 w5 ?_ ?_ ?_ ?_ ?_ ?_ ?_ ?_ ?_ ?_ ?_ ?_ ?_ (fun K I f q1 q2 q3 => ?_) (fun K I f q1 q2 => ?_) ?_ ?_ ?_ x2 x3 x7 ?_ ?_ ?_ ?_ ?_ ?_ ?_ ?_ ?_ ?_ ?_ ?_ hlt y4
    · rw [oP _ _ _ (by omega), u1 _ _ _ (by omega) (by omega) (by omega) (by omega), h1 _ _ _ (by omega) (by omega)]
    · rw [wj, u2 _ _ _ (by omega), h2 _ _ _ (by omega)]
    · rw [wr, u10, if_neg q3, if_neg q2, h3 _ _ _ q1]
    · rw [wr, u10, if_neg (by omega), if_pos ⟨rfl, rfl, rfl⟩]
    · rw [oP _ _ _ (by omega), u3, hac0, nI_1]
    · rw [oP _ _ _ (by omega), u4, h1 _ _ _ (by omega) (by omega)]
    · rw [oP _ _ _ (by omega), u1 _ _ _ (by omega) (by omega) (by omega) (by omega)]; exact hl
    · rw [oP _ _ _ (by omega)]; exact u7
    · rw [oP _ _ _ (by omega)]; exact u8
    · rw [wj]; exact u9
    · rw [oP _ _ _ (by omega), u1 _ _ _ (by omega) (by omega) (by omega) (by omega)]; exact k0
    · rw [oP _ _ _ (by omega), u1 _ _ _ (by omega) (by omega) (by omega) (by omega)]; exact k1
    · rw [oP _ _ _ (by omega), u1 _ _ _ (by omega) (by omega) (by omega) (by omega)]; exact k2
    · rw [oP _ _ _ (by omega), u5, h1 _ _ _ (by omega) (by omega)]
    · rw [oP _ _ _ (by omega), u1 _ _ _ (by omega) (by omega) (by omega) (by omega)]; exact k4
    · rw [oP _ _ _ (by omega), u1 _ _ _ (by omega) (by omega) (by omega) (by omega)]; exact k5
    · rw [oP _ _ _ (by omega), u1 _ _ _ (by omega) (by omega) (by omega) (by omega)]; exact k6
    · rw [oP _ _ _ (by omega), u1 _ _ _ (by omega) (by omega) (by omega) (by omega)]; exact k7
    · rw [wj, u2 _ _ _ (by omega)]; exact k8
    · rw [oN _ _ _ (by omega), y1 _ _ _ (by omega), m1 _ _ _ (by omega) (by omega) (by omega)]
    · show gj N0 K I f = _
      rw [y2, m2 _ _ _ q1 q2]
    · rw [oN _ _ _ (by omega), y1 _ _ _ (by omega)]; exact m3
    · rw [oN _ _ _ (by omega), y1 _ _ _ (by omega)]; exact m4
    · rw [oN _ _ _ (by omega), y1 _ _ _ (by omega)]; exact l1
    · rw [oN _ _ _ (by omega)]; exact y3
    · rw [oN _ _ _ (by omega), y1 _ _ _ (by omega)]; exact l3
    · rw [oN _ _ _ (by omega), y1 _ _ _ (by omega)]; exact l4
    · show gj N0 10 120 c = 0
      rw [y2]; exact l5
    · rw [oN _ _ _ (by omega), y1 _ _ _ (by omega)]; exact n1
    · rw [oN _ _ _ (by omega), y1 _ _ _ (by omega)]; exact n2
    · rw [oN _ _ _ (by omega), y1 _ _ _ (by omega)]; exact n3
    · rw [oN _ _ _ (by omega), y1 _ _ _ (by omega)]; exact n4
    · rw [oN _ _ _ (by omega), y1 _ _ _ (by omega)]; exact n5
    · rw [oN _ _ _ (by omega), y1 _ _ _ (by omega)]; exact n6
    · rw [oN _ _ _ (by omega), y1 _ _ _ (by omega)]; exact n7
    · show gj N0 10 128 (ac + 1) = v
      rw [y2]; exact n8
  have fin : ∃ cn2, Cx n tc (ac + 1) cn2 Z' (s_X7_beginAct S0 n c ac (nI φ)) (s_X8_beginAct M n ac (nI c) κ v t) := by
    rw [mBA_eq hc, cBA_eq]
    rcases hk with ⟨rfl, e2, e3, e4⟩ | ⟨rfl, e2, e3, e4⟩
    · rw [pif_neg (by rcases e2 with e | e <;> rw [e] <;> decide)]
      refine x_begin (a := ac) hc (key _ (fun K I f _ => rfl) (fun K I f => rfl) ?_ (Or.inl ⟨rfl, e2, e3⟩)) ra (by decide)
      rw [m1 _ _ _ (by omega) (by omega) (by omega), e4]
      exact (h.c1 hc).2.2.2.2.1.symm
    · rw [pif_pos e2]
      refine x_begin (a := ac) hc (key _ (fun K I f q => by rw [gi_si, if_neg (by omega)]) (fun K I f => rfl) ?_ (Or.inr ⟨rfl, e2, e3⟩)) ra (by decide)
      rw [gi_si, if_pos ⟨rfl, rfl, rfl⟩, e4]
  refine ⟨?_, fin⟩
  obtain ⟨cn2, g⟩ := fin
  have g1 : gi (s_X7_beginAct S0 n c ac (nI φ)) 0 ac 0 = nI (ac + 1) := (g.a1 (by omega)).1
  have g2 : gi (s_X8_beginAct M n ac (nI c) κ v t) 8 0 29 = nI (ac + 1) := g.2.2.1.2.2.1.symm.trans g.2.1.1.2.2.2.2.2.1
  have e7 : r_X7_beginAct S0 n c ac (nI φ) = gi (s_X7_beginAct S0 n c ac (nI φ)) 0 ac 0 := rfl
  have e8 : r_X8_beginAct M n ac (nI c) κ v t = gi (s_X8_beginAct M n ac (nI c) κ v t) 8 0 29 := by
    unfold r_X8_beginAct s_X8_beginAct
    rw [gi_pif]
  rw [e7, g1, e8, g2]
/-- a client that may begin -/
theorem begin_cases {n tc ac cn c : Nat} {Z : zZ} {S M : zS} (h : Cx n tc ac cn Z S M) (hc : c < 4) : (r_X7_canBegin S n c = 0 ∧ ((0 : Int32) ≤ gi M 9 111 c ∨ gi M 8 0 29 = 200)) ∨ (¬ r_X7_canBegin S n c = 0 ∧ gr S 2 c 2 = none ∧ ac < 200 ∧ ¬ (0 : Int32) ≤ gi M 9 111 c ∧ ¬ gi M 8 0 29 = 200 ∧ ix (gi M 8 0 29) = ac) := by
  have hac := h.2.1.1.2.2.1
  have hs : gi S 7 0 7 = nI ac := h.2.1.1.2.2.2.2.2.1
  have hm : gi M 8 0 29 = nI ac := h.2.2.1.2.2.1.symm.trans hs
  have e2 : nI 200 = 200 := rfl
  unfold r_X7_canBegin
  rw [hm, hs, ix_nI (by omega)]
  rcases h.doing hc with ⟨d1, d2, d3⟩ | ⟨a, d0, dc, d1, d2, d3, d4⟩
  · rw [oel_n d1]
    by_cases ha : ac < 200
    · have n1 : ¬ (200 : Int32) ≤ nI ac := by rw [← e2, nI_leI (by decide) (by omega)]; omega
      have n2 : ¬ nI ac = 200 := by rw [← e2, nI_eq (by omega) (by decide)]; omega
      exact Or.inr ⟨by rw [pif_neg n1]; decide, d1, ha, d3, n2, rfl⟩
    · have e : ac = 200 := by omega
      subst e
      exact Or.inl ⟨by rw [pif_pos (by decide)], Or.inr rfl⟩
  · rw [oel_s d1]
    exact Or.inl ⟨rfl, Or.inl d3⟩
theorem cl_ivl {n tc ac cn c : Nat} {Z : zZ} {S M : zS} (h : Cx n tc ac cn Z S M) (hc : c < 4) : ivN tc (gi S 2 c 7) := (h.ic hc).2.2.1
theorem init_gi {S : zS} {a : Nat} {x y z : Int32} : (∀ k i f, ¬ (k = 0 ∧ i = a) → gi (s_X0_init (sz S 0 a) a x y z) k i f = gi S k i f) ∧ (∀ k i f, ¬ (k = 0 ∧ i = a) → gj (s_X0_init (sz S 0 a) a x y z) k i f = gj S k i f) ∧ (∀ k i f, k ≠ 0 → gr (s_X0_init (sz S 0 a) a x y z) k i f = gr S k i f) ∧ gi (s_X0_init (sz S 0 a) a x y z) 0 a 0 = x ∧ gi (s_X0_init (sz S 0 a) a x y z) 0 a 1 = y ∧ gi (s_X0_init (sz S 0 a) a x y z) 0 a 2 = z ∧ gi (s_X0_init (sz S 0 a) a x y z) 0 a 4 = -1 ∧ gi (s_X0_init (sz S 0 a) a x y z) 0 a 5 = -1 ∧ gi (s_X0_init (sz S 0 a) a x y z) 0 a 6 = -1 ∧ gi (s_X0_init (sz S 0 a) a x y z) 0 a 7 = -1 ∧ gj (s_X0_init (sz S 0 a) a x y z) 0 a 8 = 0 := by
  unfold s_X0_init
  refine ⟨fun k i f q => ?_, fun k i f q => ?_, fun k i f q => ?_, ?_, ?_, ?_, ?_, ?_, ?_, ?_, ?_⟩
  · rw [gi_si, if_neg (by omega), gi_si, if_neg (by omega), gi_si, if_neg (by omega), gi_si, if_neg (by omega), gi_si, if_neg (by omega), gi_si, if_neg (by omega), gi_si, if_neg (by omega), gi_sz, if_neg q]
  · show gj (sz S 0 a) k i f = _
    rw [gj_sz, if_neg q]
  · show gr (sz S 0 a) k i f = _
    rw [gr_sz, if_neg (by omega)]
  · simp [gi_si]
  · simp [gi_si]
  · simp [gi_si]
  · simp [gi_si]
  · simp [gi_si]
  · simp [gi_si]
  · simp [gi_si]
  · show gj (sz S 0 a) 0 a 8 = 0
    rw [gj_sz, if_pos ⟨rfl, rfl⟩]
