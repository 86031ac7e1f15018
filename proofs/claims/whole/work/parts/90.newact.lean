noncomputable def cBA (S0 : zS) (c a : Nat) : zS := (s_X6_put (si (sr (si (si (si (sr S0 12 (0) (ix (gi S0 7 (0) (7))) (some (a))) 7 (0) (7) ((gi S0 7 (0) (7)) + (1))) 7 (0) (8) ((gi S0 7 (0) (8)) + (1))) 0 (a) (3) ((gi S0 7 (0) (8)) + (1))) 2 (c) (2) (some (a))) 2 (c) (4) (0)) (10 + c) (0) (0) (0))
theorem cBA_eq (S0 : zS) (n c a : Nat) (x : Int32) : s_X7_beginAct S0 n c a x = s_X7_beginPhase (cBA S0 c a) n c a x := rfl
theorem cBA_gi {S0 : zS} {c a : Nat} : (∀ k i f, ¬ (k = 7 ∧ i = 0 ∧ (f = 7 ∨ f = 8)) → ¬ (k = 0 ∧ i = a ∧ f = 3) → ¬ (k = 2 ∧ i = c ∧ f = 4) → ¬ (k = 6 ∧ i = 10 + c ∧ (f = 0 ∨ f = 1)) → gi (cBA S0 c a) k i f = gi S0 k i f) ∧
    (∀ k i f, ¬ (k = 6 ∧ i = 10 + c ∧ f = 2) → gj (cBA S0 c a) k i f = gj S0 k i f) ∧ gi (cBA S0 c a) 7 0 7 = gi S0 7 0 7 + 1 ∧ gi (cBA S0 c a) 7 0 8 = gi S0 7 0 8 + 1 ∧ gi (cBA S0 c a) 0 a 3 = gi S0 7 0 8 + 1 ∧ gi (cBA S0 c a) 2 c 4 = 0 ∧ gi (cBA S0 c a) 6 (10 + c) 0 = 0 ∧ gi (cBA S0 c a) 6 (10 + c) 1 = 0 ∧ gj (cBA S0 c a) 6 (10 + c) 2 = 0 ∧
    (∀ k i f, gr (cBA S0 c a) k i f = if k = 2 ∧ i = c ∧ f = 2 then some a else if k = 12 ∧ i = 0 ∧ f = ix (gi S0 7 0 7) then some a else gr S0 k i f) := by
  unfold cBA
  refine ⟨fun k i f q1 q2 q3 q4 => ?_, fun k i f q => ?_, ?_, ?_, ?_, ?_, ?_, ?_, ?_, fun k i f => ?_⟩
  · rw [put6_gi, if_neg (by omega), if_neg (by omega), gi_si, if_neg (by omega), gi_sr, gi_si, if_neg (by omega), gi_si, if_neg (by omega), gi_si, if_neg (by omega), gi_sr]
  · rw [put6_gj, if_neg q]; rfl
  · rw [put6_gi, if_neg (by omega), if_neg (by omega), gi_si, if_neg (by omega), gi_sr, gi_si, if_neg (by omega), gi_si, if_neg (by omega), gi_si, if_pos ⟨rfl, rfl, rfl⟩]
  · rw [put6_gi, if_neg (by omega), if_neg (by omega), gi_si, if_neg (by omega), gi_sr, gi_si, if_neg (by omega), gi_si, if_pos ⟨rfl, rfl, rfl⟩]
  · rw [put6_gi, if_neg (by omega), if_neg (by omega), gi_si, if_neg (by omega), gi_sr, gi_si, if_pos ⟨rfl, rfl, rfl⟩]
  · rw [put6_gi, if_neg (by omega), if_neg (by omega), gi_si, if_pos ⟨rfl, rfl, rfl⟩]
  · rw [put6_gi, if_neg (by omega), if_pos ⟨rfl, rfl, rfl⟩]
  · rw [put6_gi, if_pos ⟨rfl, rfl, rfl⟩]
  · rw [put6_gj, if_pos ⟨rfl, rfl, rfl⟩]
  · show gr (si (sr (si (si (si (sr S0 12 (0) (ix (gi S0 7 (0) (7))) (some (a))) 7 (0) (7) ((gi S0 7 (0) (7)) + (1))) 7 (0) (8) ((gi S0 7 (0) (8)) + (1))) 0 (a) (3) ((gi S0 7 (0) (8)) + (1))) 2 (c) (2) (some (a))) 2 (c) (4) (0)) k i f = _
    rw [gr_si, gr_sr, gr_si, gr_si, gr_si, gr_sr]
noncomputable def mBA (M : zS) (ac c : Nat) (x y : Int32) (v : Int64) (t : Int32) : zS := (sj (si (si (si (si (sj (si (si (si (si (si (si (si (si (si M 8 (0) (29) (nI (ac + 1))) 8 (0) (30) ((gi M 8 (0) (30)) + (1))) 9 (121) (ac + 1) (y)) 9 (122) (ac + 1) (x)) 9 (123) (ac + 1) ((gi M 8 (0) (30)) + (1))) 9 (124) (ac + 1) ((-1))) 9 (125) (ac + 1) ((-1))) 9 (126) (ac + 1) ((-1))) 9 (127) (ac + 1) (t)) 10 (128) (ac + 1) (v)) 9 (111) c (nI (ac + 1))) 9 (113) c (0)) 9 (118) c (0)) 9 (119) c (0)) 10 (120) c (0))
theorem mBA_eq {M : zS} {n ac c : Nat} {y : Int32} {v : Int64} {t : Int32} (hc : c < 4) : s_X8_beginAct M n ac (nI c) y v t = pif (y = 2) (s_X8_beginPhase (si (mBA M ac c (nI c) y v t) 9 115 c t) n (nI c) 3) (s_X8_beginPhase (mBA M ac c (nI c) y v t) n (nI c) 1) := by
  unfold s_X8_beginAct
  rw [ix_nI (by omega)]
  rfl
theorem mBA_gi {M : zS} {ac c : Nat} {x y : Int32} {v : Int64} {t : Int32} : (∀ K I f, ¬ (K = 8 ∧ I = 0 ∧ (f = 29 ∨ f = 30)) → ¬ (K = 9 ∧ 121 ≤ I ∧ I ≤ 127 ∧ f = ac + 1) → ¬ (K = 9 ∧ f = c ∧ (I = 111 ∨ I = 113 ∨ I = 118 ∨ I = 119)) → gi (mBA M ac c x y v t) K I f = gi M K I f) ∧
    (∀ K I f, ¬ (I = 128 ∧ f = ac + 1) → ¬ (I = 120 ∧ f = c) → gj (mBA M ac c x y v t) K I f = gj M K I f) ∧ gi (mBA M ac c x y v t) 8 0 29 = nI (ac + 1) ∧ gi (mBA M ac c x y v t) 8 0 30 = gi M 8 0 30 + 1 ∧
    (gi (mBA M ac c x y v t) 9 121 (ac + 1) = y ∧ gi (mBA M ac c x y v t) 9 122 (ac + 1) = x ∧ gi (mBA M ac c x y v t) 9 123 (ac + 1) = gi M 8 0 30 + 1 ∧ gi (mBA M ac c x y v t) 9 124 (ac + 1) = -1 ∧ gi (mBA M ac c x y v t) 9 125 (ac + 1) = -1 ∧ gi (mBA M ac c x y v t) 9 126 (ac + 1) = -1 ∧ gi (mBA M ac c x y v t) 9 127 (ac + 1) = t ∧ gj (mBA M ac c x y v t) 10 128 (ac + 1) = v) ∧
    (gi (mBA M ac c x y v t) 9 111 c = nI (ac + 1) ∧ gi (mBA M ac c x y v t) 9 113 c = 0 ∧ gi (mBA M ac c x y v t) 9 118 c = 0 ∧ gi (mBA M ac c x y v t) 9 119 c = 0 ∧ gj (mBA M ac c x y v t) 10 120 c = 0) := by
  unfold mBA
  refine ⟨fun K I f q1 q2 q3 => ?_, fun K I f q1 q2 => ?_, ?_, ?_, ?_, ?_⟩
  · rw [gi_sj, gi_si, if_neg (by omega), gi_si, if_neg (by omega), gi_si, if_neg (by omega), gi_si, if_neg (by omega), gi_sj, gi_si, if_neg (by omega), gi_si, if_neg (by omega), gi_si, if_neg (by omega), gi_si, if_neg (by omega), gi_si, if_neg (by omega), gi_si, if_neg (by omega), gi_si, if_neg (by omega), gi_si, if_neg (by omega), gi_si, if_neg (by omega)]
  · rw [gj_sj, if_neg (by omega), gj_si, gj_si, gj_si, gj_si, gj_sj, if_neg (by omega)]; rfl
  · simp [gi_si, gi_sj]
  · simp [gi_si, gi_sj]
  · simp [gi_si, gi_sj, gj_si, gj_sj]
  · simp [gi_si, gi_sj, gj_si, gj_sj]
/-- a new act of client c, ahead of its requests -/
theorem Cx.newAct {n tc ac cn c φ : Nat} {Z Z' : zZ} {S P M N : zS} {κ t lt : Int32} {v : Int64} (h : Cx n tc ac cn Z S M) (hc : c < 4) (hd : gr S 2 c 2 = none) (ha : ac < 200)
    (hi : ∀ k i f, ¬ (k = 0 ∧ i = ac) → ¬ (k = 7 ∧ i = 0 ∧ (f = 7 ∨ f = 8)) → ¬ (k = 2 ∧ i = c ∧ (f = 3 ∨ f = 4 ∨ f = 5 ∨ f = 7)) → ¬ (k = 6 ∧ i = 10 + c ∧ (f = 0 ∨ f = 1)) → gi P k i f = gi S k i f)
    (hj : ∀ k i f, ¬ (k = 0 ∧ i = ac) → ¬ (k = 6 ∧ i = 10 + c ∧ f = 2) → gj P k i f = gj S k i f)
    (hr : ∀ k i f, k ≠ 0 → ¬ (k = 12 ∧ i = 0 ∧ f = ac) → ¬ (k = 2 ∧ i = c ∧ f = 2) → gr P k i f = gr S k i f) (r1 : gr P 12 0 ac = some ac) (r2 : gr P 2 c 2 = some ac) (hz : zV n Z' P.2.2)
    (p7 : gi P 7 0 7 = nI (ac + 1)) (p8 : gi P 7 0 8 = gi S 7 0 8 + 1) (c3 : gi P 2 c 3 = nI φ) (c4 : gi P 2 c 4 = 1) (c5 : gi P 2 c 5 = 0) (c7 : gi P 2 c 7 = lt) (v0 : gi P 6 (10 + c) 0 = 0) (v1 : gi P 6 (10 + c) 1 = 0) (v2 : gj P 6 (10 + c) 2 = 0)
    (a0 : gi P 0 ac 0 = nI (ac + 1)) (a1 : gi P 0 ac 1 = κ) (a2 : gi P 0 ac 2 = nI c) (a3 : gi P 0 ac 3 = gi S 7 0 8 + 1) (a4 : gi P 0 ac 4 = -1) (a5 : gi P 0 ac 5 = -1) (a6 : gi P 0 ac 6 = -1) (a7 : gi P 0 ac 7 = t) (a8 : gj P 0 ac 8 = v)
    (mi : ∀ K I f, ¬ (K = 8 ∧ I = 0 ∧ (f = 29 ∨ f = 30)) → ¬ (K = 9 ∧ 121 ≤ I ∧ I ≤ 127 ∧ f = ac + 1) → ¬ (K = 9 ∧ f = c ∧ (I = 111 ∨ I = 112 ∨ I = 113 ∨ I = 115 ∨ I = 117 ∨ I = 118 ∨ I = 119)) → gi N K I f = gi M K I f)
    (mj : ∀ K I f, ¬ (I = 128 ∧ f = ac + 1) → ¬ (I = 120 ∧ f = c) → gj N K I f = gj M K I f)
    (m29 : gi N 8 0 29 = nI (ac + 1)) (m30 : gi N 8 0 30 = gi M 8 0 30 + 1) (m111 : gi N 9 111 c = nI (ac + 1)) (m112 : gi N 9 112 c = nI φ) (m113 : gi N 9 113 c = 1) (m117 : gi N 9 117 c = 0) (m115 : gi N 9 115 c = lt) (m118 : gi N 9 118 c = 0) (m119 : gi N 9 119 c = 0) (m120 : gj N 10 120 c = 0)
    (b1 : gi N 9 121 (ac + 1) = κ) (b2 : gi N 9 122 (ac + 1) = nI c) (b3 : gi N 9 123 (ac + 1) = gi M 8 0 30 + 1) (b4 : gi N 9 124 (ac + 1) = -1) (b5 : gi N 9 125 (ac + 1) = -1) (b6 : gi N 9 126 (ac + 1) = -1) (b7 : gi N 9 127 (ac + 1) = t) (b8 : gj N 10 128 (ac + 1) = v)
    (hlt : ivN tc lt) (hk : (φ = 1 ∧ (κ = 0 ∨ κ = 1) ∧ t = -1) ∨ (φ = 3 ∧ κ = 2 ∧ ivN tc t)) : Cx n tc (ac + 1) cn Z' P N := by
  obtain ⟨hV, ⟨i1, i2, i3, i4, i5, i6, i7⟩, ⟨g1, g2, g3, g4, g5, g6, g7, g8⟩⟩ := h
  have hn7 := hV.n7
  have hpm : ∀ j, pmR P.2.2 j = pmR S.2.2 j := fun j => by
    have := hr 15 0 j (by omega) (by omega) (by omega)
    unfold gr at this
    unfold pmR; rw [this]
  have hdc : ∀ c', c' < 4 → c' ≠ c → gr P 2 c' 2 = gr S 2 c' 2 := fun c' _ q => hr _ _ _ (by omega) (by omega) (by omega)
  have htc := i1.2.1
  obtain ⟨b, hb, eb⟩ := (i5 c hc).2.1
  refine ⟨hz, ⟨?_, fun k' hk' => ?_, ?_, fun a' ha' => ?_, fun c' hc4 => ?_, fun j hj2 => ?_, fun j hj2 => ?_⟩, ⟨?_, fun k' hk' => ?_, fun t' ht => ?_, fun c' hc4 => ?_, fun c' hc4 => ?_, fun a' ha' => ?_, fun j hj2 => ?_, fun i hi2 => ?_⟩⟩
  · obtain ⟨q1, q2, q3, q4, q5, q6, q7⟩ := i1
    exact ⟨q1, q2, by omega, q4, by rw [hi _ _ _ (by omega) (by omega) (by omega) (by omega)]; exact q5, p7, by rw [hi _ _ _ (by omega) (by omega) (by omega) (by omega)]; exact q7⟩
  · exact (i2 k' hk').tr (fun f => hi _ _ _ (by omega) (by omega) (by omega) (by omega))
  · obtain ⟨q1, q2, q3, q4⟩ := i3
    refine ⟨fun t' ht => ?_, fun t' ht ht2 => ?_, fun a' ha' => ?_, fun a' ha' ha2 => ?_⟩
    · exact (hr 16 0 t' (by omega) (by omega) (by omega)).trans (q1 t' ht)
    · exact (hr 16 0 t' (by omega) (by omega) (by omega)).trans (q2 t' ht ht2)
    · by_cases e : a' = ac
      · subst e; exact r1
      · exact (hr 12 0 a' (by omega) (by omega) (by omega)).trans (q3 a' (by omega))
    · exact (hr 12 0 a' (by omega) (by omega) (by omega)).trans (q4 a' (by omega) ha2)
  · by_cases e : a' = ac
    · subst e
      unfold ivA1
      rw [a7]
      rcases hk with q | q
      · exact Or.inl q.2.2
      · exact Or.inr q.2.2
    · have := i4 a' (by omega)
      unfold ivA1 at this ⊢
      rw [hi _ _ _ (by omega) (by omega) (by omega) (by omega)]
      exact this
  · by_cases e : c' = c
    · subst e
      refine ⟨by rw [hi _ _ _ (by omega) (by omega) (by omega) (by omega)]; exact (i5 c' hc).1, by rw [hi _ _ _ (by omega) (by omega) (by omega) (by omega)]; exact (i5 c' hc).2.1, by rw [c7]; exact hlt, fun a' ha' => ?_⟩
      have : a' = ac := Option.some.inj (ha'.symm.trans r2)
      subst this
      refine ⟨by omega, a2, φ, 1, b, c3, c4, by rw [hi _ _ _ (by omega) (by omega) (by omega) (by omega)]; exact eb, hb, by omega, ⟨by omega, by omega, by omega⟩, ?_, fun q => by omega⟩
      rw [a1, a7]
      rcases hk with q | q
      · exact Or.inl ⟨by omega, q.2.1⟩
      · exact Or.inr ⟨by omega, q.2.1, q.2.2⟩
    · have hcc := i5 c' hc4
      have na : ∀ a', gr S 2 c' 2 = some a' → a' ≠ ac := fun a' q => by
        have := (hcc.2.2.2 a' q).1
        omega
      have := hcc.tr (S' := P) (hdc c' hc4 e) (fun f _ _ => hi _ _ _ (by omega) (by omega) (by omega) (by omega)) (fun a' q f => by
        have := na a' q
        exact ⟨hi _ _ _ (by omega) (by omega) (by omega) (by omega), hj _ _ _ (by omega) (by omega)⟩) (fun f => ⟨hi _ _ _ (by omega) (by omega) (by omega) (by omega), hj _ _ _ (by omega) (by omega)⟩)
      exact ⟨this.1, this.2.1, this.2.2.1, fun a' q => by
        obtain ⟨x1, x2⟩ := this.2.2.2 a' q
        exact ⟨by omega, x2⟩⟩
  · rw [hpm]
    have hm := (i6 j hj2).tr2 (S' := P) (c := c) (fun f => hi _ _ _ (by omega) (by omega) (by omega) (by omega)) hdc (fun c' q1 q2 => ⟨hi _ _ _ (by omega) (by omega) (by omega) (by omega), hi _ _ _ (by omega) (by omega) (by omega) (by omega)⟩) (fun a' q1 _ q3 => by
      have : a' = ac := Option.some.inj (q3.symm.trans r2)
      omega)
    obtain ⟨k, c', a', h1, h2, h3, h4⟩ := hm
    exact ⟨k, c', a', h1, h2, by omega, h4⟩
  · rw [hi _ _ _ (by omega) (by omega) (by omega) (by omega)]; exact i7 j hj2
  · obtain ⟨q1, q2, q3, q4, q5, q6⟩ := g1
    refine ⟨?_, ?_, p7.trans m29.symm, ?_, ?_, ?_⟩
    · rw [mi _ _ _ (by omega) (by omega) (by omega)]; exact q1
    · rw [mi _ _ _ (by omega) (by omega) (by omega), hi _ _ _ (by omega) (by omega) (by omega) (by omega)]; exact q2
    · rw [p8, m30, q4]
    · rw [mi _ _ _ (by omega) (by omega) (by omega), hi _ _ _ (by omega) (by omega) (by omega) (by omega)]; exact q5
    · rw [mi _ _ _ (by omega) (by omega) (by omega), hi _ _ _ (by omega) (by omega) (by omega) (by omega)]; exact q6
  · exact (g2 k' hk').tr (fun f => ⟨hi _ _ _ (by omega) (by omega) (by omega) (by omega), hj _ _ _ (by omega) (by omega)⟩) (fun f => hi _ _ _ (by omega) (by omega) (by omega) (by omega)) (hi _ _ _ (by omega) (by omega) (by omega) (by omega)) (fun i q1 q2 => mi _ _ _ (by omega) (by omega) (by omega)) (mi _ _ _ (by omega) (by omega) (by omega)) (mj _ _ _ (by omega) (by omega))
  · exact (g3 t' ht).tr (fun f => hi _ _ _ (by omega) (by omega) (by omega) (by omega)) (fun f => hi _ _ _ (by omega) (by omega) (by omega) (by omega)) (fun i _ => mi _ _ _ (by omega) (by omega) (by omega)) hn7
  · by_cases e : c' = c
    · subst e
      obtain ⟨q1, q2, q3, q4, q5, q6⟩ := g4 c' hc
      refine ⟨c3.trans m112.symm, c4.trans m113.symm, c5.trans m117.symm, ?_, c7.trans m115.symm, ?_⟩
      · rw [hi _ _ _ (by omega) (by omega) (by omega) (by omega), mi _ _ _ (by omega) (by omega) (by omega)]; exact q4
      · rw [hi _ _ _ (by omega) (by omega) (by omega) (by omega), mi _ _ _ (by omega) (by omega) (by omega)]; exact q6
    · exact (g4 c' hc4).tr (fun f => hi _ _ _ (by omega) (by omega) (by omega) (by omega)) (fun i q1 q2 => mi _ _ _ (by omega) (by omega) (by omega))
  · by_cases e : c' = c
    · subst e
      refine ⟨fun q => absurd (q.symm.trans r2) (fun w => by cases w), fun a' q => ?_⟩
      have : a' = ac := Option.some.inj (q.symm.trans r2)
      subst this
      exact ⟨m111, fun _ => ⟨v0.trans m118.symm, v1.trans m119.symm, v2.trans m120.symm⟩⟩
    · exact (g5 c' hc4).tr (hdc c' hc4 e) (hi _ _ _ (by omega) (by omega) (by omega) (by omega)) (fun a' q => by
        have := ((i5 c' hc4).2.2.2 a' q).1
        exact hi _ _ _ (by omega) (by omega) (by omega) (by omega)) (fun f => ⟨hi _ _ _ (by omega) (by omega) (by omega) (by omega), hj _ _ _ (by omega) (by omega)⟩) (mi _ _ _ (by omega) (by omega) (by omega)) (fun i q1 q2 => mi _ _ _ (by omega) (by omega) (by omega)) (mj _ _ _ (by omega) (by omega))
  · by_cases e : a' = ac
    · subst e
      exact ⟨a0, a1.trans b1.symm, a2.trans b2.symm, by rw [a3, b3, g1.2.2.2.1], a4.trans b4.symm, a5.trans b5.symm, a6.trans b6.symm, a7.trans b7.symm, a8.trans b8.symm⟩
    · exact (g6 a' (by omega)).tr (fun f => ⟨hi _ _ _ (by omega) (by omega) (by omega) (by omega), hj _ _ _ (by omega) (by omega)⟩) (fun i q1 q2 => mi _ _ _ (by omega) (by omega) (by omega)) (mj _ _ _ (by omega) (by omega))
  · rw [hpm]
    exact (g7 j hj2).tr (fun f => hi _ _ _ (by omega) (by omega) (by omega) (by omega)) (fun f => ⟨hi _ _ _ (by omega) (by omega) (by omega) (by omega), hj _ _ _ (by omega) (by omega)⟩) (fun i q1 q2 => mi _ _ _ (by omega) (by omega) (by omega)) (mi _ _ _ (by omega) (by omega) (by omega)) (mj _ _ _ (by omega) (by omega))
  · rw [mi _ _ _ (by omega) (by omega) (by omega)]; exact g8 i hi2
