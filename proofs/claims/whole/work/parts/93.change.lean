theorem ivA1.mono {tc tc2 : Nat} {S : zS} {a : Nat} (h : ivA1 tc S a) (ht : tc ≤ tc2) : ivA1 tc2 S a := h.elim Or.inl (fun q => Or.inr (q.mono ht))
theorem ivD1.mono {tc tc2 ac : Nat} {S : zS} {c a : Nat} (h : ivD1 tc ac S c a) (ht : tc ≤ tc2) : ivD1 tc2 ac S c a := by
  obtain ⟨d0, d1, φ, r, b, f1, f2, f3, f4, f5, f6, f7, f8⟩ := h
  exact ⟨d0, d1, φ, r, b, f1, f2, f3, by omega, f5, f6, f7.elim Or.inl (fun q => Or.inr ⟨q.1, q.2.1, q.2.2.mono ht⟩), f8⟩
theorem ivC1.mono {tc tc2 ac : Nat} {S : zS} {c : Nat} (h : ivC1 tc ac S c) (ht : tc ≤ tc2) : ivC1 tc2 ac S c := ⟨h.1, h.2.1.mono ht, h.2.2.1.mono ht, fun a ha => (h.2.2.2 a ha).mono ht⟩
theorem ivM1.mono {n tc tc2 ac : Nat} {S : zS} {p : Nat} (h : ivM1 n tc ac S p) (ht : tc ≤ tc2) : ivM1 n tc2 ac S p := by
  obtain ⟨k, c, a, h1, h2, h3, h4, h5, h6, h7, h8, h9⟩ := h
  exact ⟨k, c, a, h1, h2, h3, h4, h5, h6, fun q1 q2 => (h7 q1 q2).mono ht, fun q => ⟨(h8 q).1.mono ht, (h8 q).2.mono ht⟩, h9⟩
/-- a new table, on both sides -/
theorem Cx.newTab {n tc ac cn : Nat} {Z Z' : zZ} {S P M N : zS} (h : Cx n tc ac cn Z S M) (ht : tc < 16) (hz : zV n Z' P.2.2)
    (hi : ∀ k i f, ¬ (k = 5 ∧ i = tc) → ¬ (k = 9 ∧ i = 1 + tc) → ¬ (k = 7 ∧ i = 0 ∧ f = 6) → gi P k i f = gi S k i f) (hj : ∀ k i f, ¬ (k = 5 ∧ i = tc) → ¬ (k = 9 ∧ i = 1 + tc) → gj P k i f = gj S k i f)
    (hr : ∀ k i f, ¬ (k = 5 ∧ i = tc) → ¬ (k = 9 ∧ i = 1 + tc) → ¬ (k = 16 ∧ i = 0 ∧ f = tc) → gr P k i f = gr S k i f) (r1 : gr P 16 0 tc = some tc) (p6 : gi P 7 0 6 = nI (tc + 1))
    (mi : ∀ K I f, ¬ (K = 9 ∧ I = 108 ∧ 9 * tc ≤ f) → ¬ (K = 8 ∧ I = 0 ∧ f = 10) → gi N K I f = gi M K I f) (mj : ∀ K I f, gj N K I f = gj M K I f) (m10 : gi N 8 0 10 = nI (tc + 1)) (row : cqT1 n P N tc) : Cx n (tc + 1) ac cn Z' P N := by
  obtain ⟨hV, ⟨i1, i2, i3, i4, i5, i6, i7⟩, ⟨g1, g2, g3, g4, g5, g6, g7, g8⟩⟩ := h
  have hn7 := hV.n7
  have hpm : ∀ j, pmR P.2.2 j = pmR S.2.2 j := fun j => by
    have := hr 15 0 j (by omega) (by omega) (by omega)
    unfold gr at this
    unfold pmR; rw [this]
  have hd : ∀ c, gr P 2 c 2 = gr S 2 c 2 := fun c => hr _ _ _ (by omega) (by omega) (by omega)
  refine ⟨hz, ⟨?_, fun k' hk' => ?_, ?_, fun a' ha' => ?_, fun c' hc4 => ?_, fun j hj2 => ?_, fun j hj2 => ?_⟩, ⟨?_, fun k' hk' => ?_, fun t' ht' => ?_, fun c' hc4 => ?_, fun c' hc4 => ?_, fun a' ha' => ?_, fun j hj2 => ?_, fun i hi2 => ?_⟩⟩
  · obtain ⟨q1, q2, q3, q4, q5, q6, q7⟩ := i1
    exact ⟨q1, by omega, q3, q4, p6, by rw [hi _ _ _ (by omega) (by omega) (by omega)]; exact q6, by rw [hi _ _ _ (by omega) (by omega) (by omega)]; exact q7⟩
  · have := (i2 k' hk').tr (S' := P) (fun f => hi _ _ _ (by omega) (by omega) (by omega))
    exact ⟨this.1.mono (by omega), this.2.mono (by omega)⟩
  · obtain ⟨q1, q2, q3, q4⟩ := i3
    refine ⟨fun t' ht' => ?_, fun t' ht' ht2 => ?_, fun a' ha' => ?_, fun a' ha' ha2 => ?_⟩
    · by_cases e : t' = tc
      · subst e; exact r1
      · exact (hr 16 0 t' (by omega) (by omega) (by omega)).trans (q1 t' (by omega))
    · exact (hr 16 0 t' (by omega) (by omega) (by omega)).trans (q2 t' (by omega) ht2)
    · exact (hr 12 0 a' (by omega) (by omega) (by omega)).trans (q3 a' ha')
    · exact (hr 12 0 a' (by omega) (by omega) (by omega)).trans (q4 a' ha' ha2)
  · have := (i4 a' ha').mono (show tc ≤ tc + 1 by omega)
    unfold ivA1 at this ⊢
    rw [hi _ _ _ (by omega) (by omega) (by omega)]
    exact this
  · exact ((i5 c' hc4).tr (S' := P) (hd c') (fun f _ _ => hi _ _ _ (by omega) (by omega) (by omega)) (fun a' _ f => ⟨hi _ _ _ (by omega) (by omega) (by omega), hj _ _ _ (by omega) (by omega)⟩) (fun f => ⟨hi _ _ _ (by omega) (by omega) (by omega), hj _ _ _ (by omega) (by omega)⟩)).mono (by omega)
  · rw [hpm]
    exact ((i6 j hj2).tr (S' := P) (fun f => hi _ _ _ (by omega) (by omega) (by omega)) (fun c _ => hd c) (fun c _ => ⟨hi _ _ _ (by omega) (by omega) (by omega), hi _ _ _ (by omega) (by omega) (by omega)⟩)).mono (by omega)
  · rw [hi _ _ _ (by omega) (by omega) (by omega)]; exact i7 j hj2
  · obtain ⟨q1, q2, q3, q4, q5, q6⟩ := g1
    refine ⟨?_, p6.trans m10.symm, ?_, ?_, ?_, ?_⟩
    · rw [mi _ _ _ (by omega) (by omega)]; exact q1
    · rw [mi _ _ _ (by omega) (by omega), hi _ _ _ (by omega) (by omega) (by omega)]; exact q3
    · rw [mi _ _ _ (by omega) (by omega), hi _ _ _ (by omega) (by omega) (by omega)]; exact q4
    · rw [mi _ _ _ (by omega) (by omega), hi _ _ _ (by omega) (by omega) (by omega)]; exact q5
    · rw [mi _ _ _ (by omega) (by omega), hi _ _ _ (by omega) (by omega) (by omega)]; exact q6
  · obtain ⟨q1, q2, q3, q4, q5, q6, q7, q8⟩ := g2 k' hk'
    unfold cqP1
    rw [hi _ _ _ (by omega) (by omega) (by omega), hi _ _ _ (by omega) (by omega) (by omega), hi _ _ _ (by omega) (by omega) (by omega), hi _ _ _ (by omega) (by omega) (by omega), hi _ _ _ (by omega) (by omega) (by omega), hi _ _ _ (by omega) (by omega) (by omega), hi _ _ _ (by omega) (by omega) (by omega), hj _ _ _ (by omega) (by omega), mi _ _ _ (by omega) (by omega), mi _ _ _ (by omega) (by omega), mi _ _ _ (by omega) (by omega), mi _ _ _ (by omega) (by omega), mi _ _ _ (by omega) (by omega), mi _ _ _ (by omega) (by omega), mi _ _ _ (by omega) (by omega), mj]
    exact ⟨q1, q2, q3, q4, q5, q6, q7, q8⟩
  · by_cases e : t' = tc
    · subst e; exact row
    · exact (g3 t' (by omega)).tr (fun f => hi _ _ _ (by omega) (by omega) (by omega)) (fun f => hi _ _ _ (by omega) (by omega) (by omega)) (fun x hx => mi _ _ _ (by omega) (by omega)) hn7
  · exact (g4 c' hc4).tr (fun f => hi _ _ _ (by omega) (by omega) (by omega)) (fun i q1 q2 => mi _ _ _ (by omega) (by omega))
  · exact (g5 c' hc4).tr (hd c') (hi _ _ _ (by omega) (by omega) (by omega)) (fun a' q => hi _ _ _ (by omega) (by omega) (by omega)) (fun f => ⟨hi _ _ _ (by omega) (by omega) (by omega), hj _ _ _ (by omega) (by omega)⟩) (mi _ _ _ (by omega) (by omega)) (fun i q1 q2 => mi _ _ _ (by omega) (by omega)) (mj _ _ _)
  · exact (g6 a' ha').tr (fun f => ⟨hi _ _ _ (by omega) (by omega) (by omega), hj _ _ _ (by omega) (by omega)⟩) (fun i q1 q2 => mi _ _ _ (by omega) (by omega)) (mj _ _ _)
  · rw [hpm]
    exact (g7 j hj2).tr (fun f => hi _ _ _ (by omega) (by omega) (by omega)) (fun f => ⟨hi _ _ _ (by omega) (by omega) (by omega), hj _ _ _ (by omega) (by omega)⟩) (fun i q1 q2 => mi _ _ _ (by omega) (by omega)) (mi _ _ _ (by omega) (by omega)) (mj _ _ _)
  · rw [mi _ _ _ (by omega) (by omega)]; exact g8 i hi2
theorem lTb_gi {tc : Nat} : ∀ (f k : Nat) (T : zS) (K I x : Nat), gi (lTb tc f k T) K I x = if K = 9 ∧ I = 108 ∧ 9 * tc + k ≤ x ∧ x < 9 * tc + k + f then gi T 9 109 (x - 9 * tc) else gi T K I x := by
  intro f
  induction f with
  | zero => intro k T K I x; rw [if_neg (by omega)]; rfl
  | succ f ih =>
    intro k T K I x
    show gi (lTb tc f (k + 1) (si T 9 108 (9 * tc + k) (gi T 9 109 k))) K I x = _
    rw [ih, gi_si, gi_si, if_neg (show ¬ (9 = 9 ∧ 109 = 108 ∧ x - 9 * tc = 9 * tc + k) by omega)]
    by_cases q : K = 9 ∧ I = 108
    · by_cases e : x = 9 * tc + k
      · rw [if_neg (by omega), if_pos (by omega), if_pos (by omega), show x - 9 * tc = k by omega]
      · by_cases g : 9 * tc + (k + 1) ≤ x ∧ x < 9 * tc + (k + 1) + f
        · rw [if_pos (by omega), if_pos (by omega)]
        · rw [if_neg (by omega), if_neg (by omega), if_neg (by omega)]
    · rw [if_neg (by omega), if_neg (by omega), if_neg (by omega)]
theorem lTb_2 {tc : Nat} : ∀ (f k : Nat) (T : zS), (lTb tc f k T).2 = T.2 := by
  intro f
  induction f with
  | zero => intro k T; rfl
  | succ f ih => intro k T; exact ih (k + 1) (si T 9 108 (9 * tc + k) (gi T 9 109 k))
theorem bit_m1 : ∀ k, k < 32 → (((-1 : Int32) >>> ((nI k) &&& (31))) &&& (1) = (1)) := by decide +kernel
theorem sum_all {n tc ac cn : Nat} {Z : zZ} {S M : zS} (h : Cx n tc ac cn Z S M) : ∀ (f k : Nat) (r : Int32), k + f = n → lSum S 0 (-1) f k r = lNx M f k r := by
  have hn7 := h.n7
  intro f
  induction f with
  | zero => intro k r _; rfl
  | succ f ih =>
    intro k r hk
    show pif (((-1) >>> ((nI k) &&& (31))) &&& (1) = (1)) (lSum S 0 (-1) f (k + 1) (r + gi S 9 0 (ix (nI k)))) (lSum S 0 (-1) f (k + 1) r) = lNx M f (k + 1) (r + gi M 9 109 k)
    rw [pif_pos (bit_m1 k (by omega)), ix_nI (by omega), (h.2.2.2.1 k (by omega)).2.2.2.2.2.2.2]
    exact ih (k + 1) _ (by omega)
