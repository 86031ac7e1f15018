theorem zV.inj {n : Nat} {Z : zZ} {R : zR} (h : zV n Z R) {i j : Nat} (hi : i < 300) (hj : j < 300) (e : pmR R i = pmR R j) : i = j := h.2.2.2.1.2.2.2.2.1 i j hi hj e
theorem zV.ntk {n : Nat} {Z : zZ} {R : zR} (h : zV n Z R) {j : Nat} (hj : j < 300) : pmR R j ≠ tkR R := h.2.2.2.1.2.2.2.2.2 j hj
/-- one message more, on both sides -/
theorem Cx.app {n tc ac cn : Nat} {Z : zZ} {S S' M M' : zS} {p : Nat} (h : Cx n tc ac cn Z S M) (hcn : cn < 300) (hp : p = pmR S.2.2 cn) (hr : S'.2.2 = S.2.2)
    (hi : ∀ k i f, ¬ (k = 4 ∧ i = p) → ¬ (k = 6 ∧ i = 20 + p) → ¬ (k = 1 ∧ i = 0 ∧ f = 2) → gi S' k i f = gi S k i f)
    (hj : ∀ k i f, ¬ (k = 6 ∧ i = 20 + p) → gj S' k i f = gj S k i f)
    (mi : ∀ k i f, ¬ (132 ≤ i ∧ i ≤ 143 ∧ f = cn) → ¬ (k = 8 ∧ i = 0 ∧ f = 44) → gi M' k i f = gi M k i f)
    (mj : ∀ k i f, ¬ (i = 143 ∧ f = cn) → gj M' k i f = gj M k i f)
    (hc : gi S' 1 0 2 = nI (cn + 1)) (mc : gi M' 8 0 44 = nI (cn + 1)) (row : cqR1 S' M' p cn) (inv : ivM1 n tc ac S' p) (hb : isB (gi S' 4 p 1)) : Cx n tc ac (cn + 1) Z S' M' := by
  obtain ⟨hV, ⟨i1, i2, i3, i4, i5, i6, i7⟩, ⟨g1, g2, g3, g4, g5, g6, g7, g8⟩⟩ := h
  have hn7 := hV.n7
  have hpl : p < 301 := by rw [hp]; exact hV.pmlt hcn
  have hpj : ∀ j, j < cn → pmR S.2.2 j ≠ p := fun j hj e => by
    rw [hp] at e
    have := hV.inj (by omega) hcn e
    omega
  have er : ∀ k i f, gr S' k i f = gr S k i f := fun k i f => gr_of hr
  refine ⟨hV.of hr, ⟨?_, fun k hk => ?_, ?_, fun a ha => ?_, fun c hc4 => ?_, fun j hj2 => ?_, fun j hj2 => ?_⟩, ⟨?_, fun k hk => ?_, fun t ht => ?_, fun c hc4 => ?_, fun c hc4 => ?_, fun a ha => ?_, fun j hj2 => ?_, fun i hi2 => ?_⟩⟩
  · obtain ⟨a1, a2, a3, a4, a5, a6, a7⟩ := i1
    exact ⟨a1, a2, a3, by omega, by rw [hi _ _ _ (by omega) (by omega) (by omega)]; exact a5, by rw [hi _ _ _ (by omega) (by omega) (by omega)]; exact a6, hc⟩
  · exact (i2 k hk).tr (fun f => hi _ _ _ (by omega) (by omega) (by omega))
  · rw [hr]; exact i3
  · have := i4 a ha
    unfold ivA1 at this ⊢
    rw [hi _ _ _ (by omega) (by omega) (by omega)]
    exact this
  · exact (i5 c hc4).tr (er _ _ _) (fun f _ _ => hi _ _ _ (by omega) (by omega) (by omega)) (fun a _ f => ⟨hi _ _ _ (by omega) (by omega) (by omega), hj _ _ _ (by omega)⟩) (fun f => ⟨hi _ _ _ (by omega) (by omega) (by omega), hj _ _ _ (by omega)⟩)
  · rw [hr]
    by_cases e : j = cn
    · subst e; rw [← hp]; exact inv
    · have := hpj j (by omega)
      exact (i6 j (by omega)).tr (fun f => hi _ _ _ (by omega) (by omega) (by omega)) (fun c _ => er _ _ _) (fun c _ => ⟨hi _ _ _ (by omega) (by omega) (by omega), hi _ _ _ (by omega) (by omega) (by omega)⟩)
  · by_cases e : j = p
    · subst e; exact hb
    · rw [hi _ _ _ (by omega) (by omega) (by omega)]; exact i7 j hj2
  · obtain ⟨a1, a2, a3, a4, a5, a6⟩ := g1
    refine ⟨?_, ?_, ?_, ?_, hc.trans mc.symm, ?_⟩
    · rw [mi _ _ _ (by omega) (by omega)]; exact a1
    · rw [mi _ _ _ (by omega) (by omega), hi _ _ _ (by omega) (by omega) (by omega)]; exact a2
    · rw [mi _ _ _ (by omega) (by omega), hi _ _ _ (by omega) (by omega) (by omega)]; exact a3
    · rw [mi _ _ _ (by omega) (by omega), hi _ _ _ (by omega) (by omega) (by omega)]; exact a4
    · rw [mi _ _ _ (by omega) (by omega), hi _ _ _ (by omega) (by omega) (by omega)]; exact a6
  · exact (g2 k hk).tr (fun f => ⟨hi _ _ _ (by omega) (by omega) (by omega), hj _ _ _ (by omega)⟩) (fun f => hi _ _ _ (by omega) (by omega) (by omega)) (hi _ _ _ (by omega) (by omega) (by omega)) (fun i q1 q2 => mi _ _ _ (by omega) (by omega)) (mi _ _ _ (by omega) (by omega)) (mj _ _ _ (by omega))
  · exact (g3 t ht).tr (fun f => hi _ _ _ (by omega) (by omega) (by omega)) (fun f => hi _ _ _ (by omega) (by omega) (by omega)) (fun i _ => mi _ _ _ (by omega) (by omega)) hn7
  · exact (g4 c hc4).tr (fun f => hi _ _ _ (by omega) (by omega) (by omega)) (fun i q1 q2 => mi _ _ _ (by omega) (by omega))
  · exact (g5 c hc4).tr (er _ _ _) (hi _ _ _ (by omega) (by omega) (by omega)) (fun a _ => hi _ _ _ (by omega) (by omega) (by omega)) (fun f => ⟨hi _ _ _ (by omega) (by omega) (by omega), hj _ _ _ (by omega)⟩) (mi _ _ _ (by omega) (by omega)) (fun i q1 q2 => mi _ _ _ (by omega) (by omega)) (mj _ _ _ (by omega))
  · exact (g6 a ha).tr (fun f => ⟨hi _ _ _ (by omega) (by omega) (by omega), hj _ _ _ (by omega)⟩) (fun i q1 q2 => mi _ _ _ (by omega) (by omega)) (mj _ _ _ (by omega))
  · rw [hr]
    by_cases e : j = cn
    · subst e; rw [← hp]; exact row
    · have := hpj j (by omega)
      exact (g7 j (by omega)).tr (fun f => hi _ _ _ (by omega) (by omega) (by omega)) (fun f => ⟨hi _ _ _ (by omega) (by omega) (by omega), hj _ _ _ (by omega)⟩) (fun i q1 q2 => mi _ _ _ (by omega) (by omega)) (mi _ _ _ (by omega) (by omega)) (mj _ _ _ (by omega))
  · by_cases e : i = cn
    · subst e; rw [← row.2.2.2.2.2.2.2.2.1]; exact hb
    · rw [mi _ _ _ (by omega) (by omega)]; exact g8 i hi2
theorem Cx.lost {n tc ac cn : Nat} {Z : zZ} {S M : zS} (h : Cx n tc ac cn Z S M) : Cx n tc ac cn Z (si S 1 0 3 (gi S 1 0 3 + 1)) (si M 8 0 31 (gi M 8 0 31 + 1)) := by
  obtain ⟨hV, hI, ⟨g1, g2, g3, g4, g5, g6, g7, g8⟩⟩ := h
  refine ⟨hV, hI, ⟨⟨g1.1, g1.2.1, g1.2.2.1, g1.2.2.2.1, g1.2.2.2.2.1, ?_⟩, g2, g3, g4, g5, g6, g7, g8⟩⟩
  have e := g1.2.2.2.2.2
  rw [gi_si, if_pos ⟨rfl, rfl, rfl⟩, gi_si, if_pos ⟨rfl, rfl, rfl⟩, e]
theorem Cx.clock {n tc ac cn : Nat} {Z : zZ} {S M : zS} (h : Cx n tc ac cn Z S M) : Cx n tc ac cn Z (si S 7 0 8 (gi S 7 0 8 + 1)) (si M 8 0 30 (gi M 8 0 30 + 1)) := by
  obtain ⟨hV, hI, ⟨g1, g2, g3, g4, g5, g6, g7, g8⟩⟩ := h
  refine ⟨hV, hI, ⟨⟨g1.1, g1.2.1, g1.2.2.1, ?_, g1.2.2.2.2⟩, g2, g3, g4, g5, g6, g7, g8⟩⟩
  have e := g1.2.2.2.1
  rw [gi_si, if_pos ⟨rfl, rfl, rfl⟩, gi_si, if_pos ⟨rfl, rfl, rfl⟩, e]
