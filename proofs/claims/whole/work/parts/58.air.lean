/-- the air with m rows made (and the one kept apart, number 300): against the state S before -/
def arI (m : Nat) (Z : zZ) (S : zS) (Z' : zZ) (S' : zS) : Prop :=
  (∀ k i, ¬ (k = 15 ∧ i = 0) → ¬ (k = 4 ∧ (i < m ∨ i = 300)) → ¬ (k = 6 ∧ ((20 ≤ i ∧ i < 20 + m) ∨ i = 320)) → ((Z'.2.1 k i ↔ Z.2.1 k i) ∧ Z'.1 k i = Z.1 k i ∧ Z'.2.2 k i = Z.2.2 k i)) ∧
  (∀ k i f, ¬ (k = 15 ∧ i = 0) → ¬ (k = 4 ∧ (i < m ∨ i = 300)) → ¬ (k = 6 ∧ ((20 ≤ i ∧ i < 20 + m) ∨ i = 320)) → gi S' k i f = gi S k i f ∧ gj S' k i f = gj S k i f ∧ (¬ (k = 1 ∧ i = 0 ∧ f < 2) → gr S' k i f = gr S k i f)) ∧
  (Z'.2.1 15 0 ∧ Z'.2.2 15 0 = 300 ∧ gr S' 1 0 0 = some 0 ∧ gr S' 1 0 1 = some 300) ∧
  (∀ j, j < m ∨ j = 300 → Z'.2.1 4 j ∧ Z'.2.1 6 (20 + j) ∧ gr S' 4 j 0 = some (20 + j) ∧ (∀ f, gi S' 4 j f = 0) ∧ (∀ f, gi S' 6 (20 + j) f = 0) ∧ ∀ f, gj S' 6 (20 + j) f = 0) ∧
  (∀ j, j < m → gr S' 15 0 j = some j)
theorem arI.step {m : Nat} {Z Z1 Z2 Z3 : zZ} {S T : zS} (h : arI m Z S Z1 T) (hm : m < 300) (hx1 : zext Z1 Z2 4 m 0) (hx2 : zext Z2 Z3 6 (20 + m) 0) : arI (m + 1) Z S Z3 (sr (s_X4_init (sz T 4 m) m) 15 0 (ix (nI m)) (some m)) := by
  obtain ⟨h1, h2, ⟨h3, h4, h5, h6⟩, h7, h8⟩ := h
  have dn : ∀ k i, ¬ (k = 4 ∧ i = m) → ¬ (k = 6 ∧ i = 20 + m) → ((Z3.2.1 k i ↔ Z1.2.1 k i) ∧ Z3.1 k i = Z1.1 k i ∧ Z3.2.2 k i = Z1.2.2 k i) := fun k i q1 q2 =>
    ⟨⟨fun q => ((hx2.2.1 k i).mp q).elim (fun q => ((hx1.2.1 k i).mp q).elim (fun q => q) (fun q => absurd q q1)) (fun q => absurd q q2), fun q => (hx2.2.1 k i).mpr (Or.inl ((hx1.2.1 k i).mpr (Or.inl q)))⟩, (hx2.1 k i q2).1.trans (hx1.1 k i q1).1, (hx2.1 k i q2).2.trans (hx1.1 k i q1).2⟩
  have gi9 : ∀ k i f, gi (sr (s_X4_init (sz T 4 m) m) 15 0 (ix (nI m)) (some m)) k i f = if (k = 6 ∧ i = 20 + m) ∨ (k = 4 ∧ i = m) then 0 else gi T k i f := fun k i f => by
    unfold s_X4_init
    rw [gi_sr, gi_sr, gi_sz, gi_sz]
    by_cases q1 : k = 6 ∧ i = 20 + m
    · rw [if_pos q1, if_pos (Or.inl q1)]
    · rw [if_neg q1]
      by_cases q2 : k = 4 ∧ i = m
      · rw [if_pos q2, if_pos (Or.inr q2)]
      · rw [if_neg q2, if_neg (fun r => r.elim q1 q2)]
  have gj9 : ∀ k i f, gj (sr (s_X4_init (sz T 4 m) m) 15 0 (ix (nI m)) (some m)) k i f = if (k = 6 ∧ i = 20 + m) ∨ (k = 4 ∧ i = m) then 0 else gj T k i f := fun k i f => by
    unfold s_X4_init
    rw [gj_sr, gj_sr, gj_sz, gj_sz]
    by_cases q1 : k = 6 ∧ i = 20 + m
    · rw [if_pos q1, if_pos (Or.inl q1)]
    · rw [if_neg q1]
      by_cases q2 : k = 4 ∧ i = m
      · rw [if_pos q2, if_pos (Or.inr q2)]
      · rw [if_neg q2, if_neg (fun r => r.elim q1 q2)]
  have gr9 : ∀ k i f, gr (sr (s_X4_init (sz T 4 m) m) 15 0 (ix (nI m)) (some m)) k i f = if k = 15 ∧ i = 0 ∧ f = m then some m else if k = 4 ∧ i = m ∧ f = 0 then some (20 + m) else if (k = 6 ∧ i = 20 + m) ∨ (k = 4 ∧ i = m) then none else gr T k i f := fun k i f => by
    unfold s_X4_init
    rw [gr_sr, ix_nI (by omega), gr_sr, gr_sz, gr_sz]
    by_cases q0 : k = 15 ∧ i = 0 ∧ f = m
    · rw [if_pos q0, if_pos q0]
    · rw [if_neg q0, if_neg q0]
      by_cases q3 : k = 4 ∧ i = m ∧ f = 0
      · rw [if_pos q3, if_pos q3]
      · rw [if_neg q3, if_neg q3]
        by_cases q1 : k = 6 ∧ i = 20 + m
        · rw [if_pos q1, if_pos (Or.inl q1)]
        · rw [if_neg q1]
          by_cases q2 : k = 4 ∧ i = m
          · rw [if_pos q2, if_pos (Or.inr q2)]
          · rw [if_neg q2, if_neg (fun r => r.elim q1 q2)]
  refine ⟨fun k i n1 n2 n3 => ?_, fun k i f n1 n2 n3 => ?_, ⟨?_, ?_, ?_, ?_⟩, fun j hj => ?_, fun j hj => ?_⟩
  · have a := dn k i (by omega) (by omega)
    have b := h1 k i n1 (by omega) (by omega)
    exact ⟨a.1.trans b.1, a.2.1.trans b.2.1, a.2.2.trans b.2.2⟩
  · have b := h2 k i f n1 (by omega) (by omega)
    rw [gi9, gj9, gr9, if_neg (by omega), if_neg (by omega), if_neg (by omega), if_neg (by omega), if_neg (by omega)]
    exact b
  · exact (dn 15 0 (by omega) (by omega)).1.mpr h3
  · rw [(dn 15 0 (by omega) (by omega)).2.2]; exact h4
  · rw [gr9, if_neg (by omega), if_neg (by omega), if_neg (by omega)]; exact h5
  · rw [gr9, if_neg (by omega), if_neg (by omega), if_neg (by omega)]; exact h6
  · by_cases e : j = m
    · subst e
      refine ⟨(hx2.2.1 _ _).mpr (Or.inl ((hx1.2.1 _ _).mpr (Or.inr ⟨rfl, rfl⟩))), (hx2.2.1 _ _).mpr (Or.inr ⟨rfl, rfl⟩), ?_, fun f => ?_, fun f => ?_, fun f => ?_⟩
      · rw [gr9, if_neg (by omega), if_pos ⟨rfl, rfl, rfl⟩]
      · rw [gi9, if_pos (Or.inr ⟨rfl, rfl⟩)]
      · rw [gi9, if_pos (Or.inl ⟨rfl, rfl⟩)]
      · rw [gj9, if_pos (Or.inl ⟨rfl, rfl⟩)]
    · obtain ⟨b1, b2, b3, b4, b5, b6⟩ := h7 j (by omega)
      refine ⟨(dn 4 j (by omega) (by omega)).1.mpr b1, (dn 6 (20 + j) (by omega) (by omega)).1.mpr b2, ?_, fun f => ?_, fun f => ?_, fun f => ?_⟩
      · rw [gr9, if_neg (by omega), if_neg (by omega), if_neg (by omega)]; exact b3
      · rw [gi9, if_neg (by omega)]; exact b4 f
      · rw [gi9, if_neg (by omega)]; exact b5 f
      · rw [gj9, if_neg (by omega)]; exact b6 f
  · rw [gr9]
    by_cases e : j = m
    · rw [if_pos ⟨rfl, rfl, e⟩, e]
    · rw [if_neg (by omega), if_neg (by omega), if_neg (by omega)]; exact h8 j (by omega)
