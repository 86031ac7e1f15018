theorem rAt_nI {S : zS} {pm : Nat → Nat} {cn i : Nat} (hc : gi S 1 0 2 = nI cn) (h3 : cn ≤ 300) (hi : i < cn) : r_X1_at S pm (nI i) = some (pm i) := by
  have h9 : ¬ (300 : Int32) ≤ nI i := nI_ge (b := 300) (by omega) (by decide)
  unfold r_X1_at
  rw [pif_neg (nI_pos (by omega)), hc, pif_neg (nI_ge hi (by omega)), pif_neg h9, ix_nI (by omega)]
theorem Cx.cn {n tc ac cn : Nat} {Z : zZ} {S M : zS} (h : Cx n tc ac cn Z S M) : gi S 1 0 2 = nI cn := h.2.1.1.2.2.2.2.2.2
theorem Cx.cm {n tc ac cn : Nat} {Z : zZ} {S M : zS} (h : Cx n tc ac cn Z S M) : cn ≤ 300 := h.2.1.1.2.2.2.1
theorem Cx.mcn {n tc ac cn : Nat} {Z : zZ} {S M : zS} (h : Cx n tc ac cn Z S M) : gi M 8 0 44 = nI cn := h.2.2.1.2.2.2.2.1.symm.trans h.cn
/-- the message at row i is taken out, on both sides -/
theorem Cx.take {n tc ac cn i0 : Nat} {Z : zZ} {S M : zS} (h : Cx n tc ac cn Z S M) (h0 : i0 < cn) : Cx n tc ac (cn - 1) Z (s_X1_take S (pmR S.2.2) (tkR S.2.2) cn (nI i0)) (s_X8_take M cn i0) := by
  have hcn := h.cn
  have hcm := h.cm
  obtain ⟨hV, ⟨i1, i2, i3, i4, i5, i6, i7⟩, ⟨g1, g2, g3, g4, g5, g6, g7, g8⟩⟩ := h
  have hq := rAt_nI (pm := pmR S.2.2) hcn hcm h0
  obtain ⟨t1, t2, t3, -⟩ := take_gi (tk := tkR S.2.2) hq hcn hcm
  obtain ⟨r1, -, -⟩ := take_gr (tk := tkR S.2.2) hq hcn hcm hV.pm
  obtain ⟨z1, z2, -⟩ := take_zV hV hq hcn hcm
  rw [ix_nI (by omega)] at z2
  have m1 := fun K I x => mtk_gi (S := M) h0 K I x
  have m2 := fun K I x => mtk_gj (S := M) h0 K I x
  generalize s_X1_take S (pmR S.2.2) (tkR S.2.2) cn (nI i0) = S' at *
  generalize s_X8_take M cn i0 = M' at *
  have pm' : ∀ j, j < cn - 1 → pmR S'.2.2 j = pmR S.2.2 (if j < i0 then j else j + 1) := fun j hj => by
    rw [z2 j (by omega)]
    unfold pmT
    by_cases q : j < i0
    · rw [if_pos q, if_pos q]
    · rw [if_neg q, if_neg q, if_pos (by omega)]
  have mo : ∀ K I x, I < 132 → ¬ (K = 8 ∧ I = 0 ∧ x = 44) → gi M' K I x = gi M K I x := fun K I x q1 q2 => by
    rw [m1, if_neg (by omega), if_neg q2]
  have mj : ∀ K I x, I < 143 → gj M' K I x = gj M K I x := fun K I x q1 => by rw [m2, if_neg (by omega)]
  refine ⟨z1, ⟨?_, fun k hk => ?_, ?_, fun a ha => ?_, fun c hc4 => ?_, fun j hj2 => ?_, fun j hj2 => ?_⟩, ⟨?_, fun k hk => ?_, fun t ht => ?_, fun c hc4 => ?_, fun c hc4 => ?_, fun a ha => ?_, fun j hj2 => ?_, fun i hi2 => ?_⟩⟩
  · obtain ⟨a1, a2, a3, a4, a5, a6, a7⟩ := i1
    exact ⟨a1, a2, a3, by omega, by rw [t1 _ _ _ (by omega)]; exact a5, by rw [t1 _ _ _ (by omega)]; exact a6, t2⟩
  · exact (i2 k hk).tr (fun f => t1 _ _ _ (by omega))
  · have e : ∀ k i x, k ≠ 15 → k ≠ 1 → S'.2.2 k i x = S.2.2 k i x := fun k i x q1 q2 => r1 k i x (by omega) (by omega)
    unfold ivR at i3 ⊢
    refine ⟨fun t ht => ?_, fun t ht ht2 => ?_, fun t ht => ?_, fun t ht ht2 => ?_⟩
    · rw [e _ _ _ (by decide) (by decide)]; exact i3.1 t ht
    · rw [e _ _ _ (by decide) (by decide)]; exact i3.2.1 t ht ht2
    · rw [e _ _ _ (by decide) (by decide)]; exact i3.2.2.1 t ht
    · rw [e _ _ _ (by decide) (by decide)]; exact i3.2.2.2 t ht ht2
  · have := i4 a ha
    unfold ivA1 at this ⊢
    rw [t1 _ _ _ (by omega)]
    exact this
  · exact (i5 c hc4).tr (r1 _ _ _ (by omega) (by omega)) (fun f _ _ => t1 _ _ _ (by omega)) (fun a _ f => ⟨t1 _ _ _ (by omega), t3 _ _ _⟩) (fun f => ⟨t1 _ _ _ (by omega), t3 _ _ _⟩)
  · rw [pm' j hj2]
    exact (i6 (if j < i0 then j else j + 1) (by split <;> omega)).tr (fun f => t1 _ _ _ (by omega)) (fun c _ => r1 _ _ _ (by omega) (by omega)) (fun c _ => ⟨t1 _ _ _ (by omega), t1 _ _ _ (by omega)⟩)
  · rw [t1 _ _ _ (by omega)]; exact i7 j hj2
  · obtain ⟨a1, a2, a3, a4, a5, a6⟩ := g1
    refine ⟨?_, ?_, ?_, ?_, ?_, ?_⟩
    · rw [mo _ _ _ (by omega) (by omega)]; exact a1
    · rw [mo _ _ _ (by omega) (by omega), t1 _ _ _ (by omega)]; exact a2
    · rw [mo _ _ _ (by omega) (by omega), t1 _ _ _ (by omega)]; exact a3
    · rw [mo _ _ _ (by omega) (by omega), t1 _ _ _ (by omega)]; exact a4
    · rw [m1, if_neg (by omega), if_pos ⟨rfl, rfl, rfl⟩]; exact t2
    · rw [mo _ _ _ (by omega) (by omega), t1 _ _ _ (by omega)]; exact a6
  · exact (g2 k hk).tr (fun f => ⟨t1 _ _ _ (by omega), t3 _ _ _⟩) (fun f => t1 _ _ _ (by omega)) (t1 _ _ _ (by omega)) (fun i q1 q2 => mo _ _ _ (by omega) (by omega)) (mo _ _ _ (by omega) (by omega)) (mj _ _ _ (by omega))
  · exact (g3 t ht).tr (fun f => t1 _ _ _ (by omega)) (fun f => t1 _ _ _ (by omega)) (fun i _ => mo _ _ _ (by omega) (by omega)) hV.n7
  · exact (g4 c hc4).tr (fun f => t1 _ _ _ (by omega)) (fun i q1 q2 => mo _ _ _ (by omega) (by omega))
  · exact (g5 c hc4).tr (r1 _ _ _ (by omega) (by omega)) (t1 _ _ _ (by omega)) (fun a _ => t1 _ _ _ (by omega)) (fun f => ⟨t1 _ _ _ (by omega), t3 _ _ _⟩) (mo _ _ _ (by omega) (by omega)) (fun i q1 q2 => mo _ _ _ (by omega) (by omega)) (mj _ _ _ (by omega))
  · exact (g6 a ha).tr (fun f => ⟨t1 _ _ _ (by omega), t3 _ _ _⟩) (fun i q1 q2 => mo _ _ _ (by omega) (by omega)) (mj _ _ _ (by omega))
  · rw [pm' j hj2]
    have hy : (if j < i0 then j else j + 1) < cn := by split <;> omega
    refine (g7 _ hy).tr (fun f => t1 _ _ _ (by omega)) (fun f => ⟨t1 _ _ _ (by omega), t3 _ _ _⟩) (fun i q1 q2 => ?_) ?_ ?_
    · rw [m1]
      by_cases q : j < i0
      · rw [if_neg (by omega), if_neg (by omega), if_pos q]
      · rw [if_pos (by omega), if_neg q]
    · rw [m1]
      by_cases q : j < i0
      · rw [if_neg (by omega), if_neg (by omega), if_pos q]
      · rw [if_pos (by omega), if_neg q]
    · rw [m2]
      by_cases q : j < i0
      · rw [if_neg (by omega), if_pos q]
      · rw [if_pos (by omega), if_neg q]
  · rw [m1]
    by_cases q : (i0 ≤ i ∧ i + 1 < cn) ∧ ((11 = 9 ∧ 133 ≤ 132 ∧ 132 ≤ 142) ∨ (11 = 11 ∧ 132 = 132))
    · rw [if_pos q]; exact g8 _ (by omega)
    · rw [if_neg q, if_neg (by omega)]; exact g8 _ hi2
