/-- client c and its act a change, on both sides -/
theorem Cx.cli {n tc ac cn c a : Nat} {Z : zZ} {S S' M M' : zS} (h : Cx n tc ac cn Z S M) (hc : c < 4) (ha : gr S 2 c 2 = some a) (hr : S'.2.2 = S.2.2)
    (hi : ∀ K i f, ¬ (K = 2 ∧ i = c) → ¬ (K = 6 ∧ i = 10 + c) → ¬ (K = 0 ∧ i = a) → gi S' K i f = gi S K i f)
    (hj : ∀ K i f, ¬ (K = 6 ∧ i = 10 + c) → ¬ (K = 0 ∧ i = a) → gj S' K i f = gj S K i f)
    (mi : ∀ K i f, ¬ (K = 9 ∧ 111 ≤ i ∧ i ≤ 120 ∧ f = c) → ¬ (K = 9 ∧ 121 ≤ i ∧ i ≤ 128 ∧ f = a + 1) → gi M' K i f = gi M K i f)
    (mj : ∀ K i f, ¬ (i = 120 ∧ f = c) → ¬ (i = 128 ∧ f = a + 1) → gj M' K i f = gj M K i f)
    (n1 : cqC1 S' M' c) (n2 : cqD1 S' M' c) (n3 : cqA1 S' M' a) (n4 : ivC1 tc ac S' c) (n5 : ivA1 tc S' a)
    (n6 : (gi S' 2 c 3 = gi S 2 c 3 ∧ gi S' 2 c 4 = gi S 2 c 4) ∨ ∃ r, gi S 2 c 4 = nI r ∧ r < 99 ∧ gi S' 2 c 4 = nI (r + 1)) : Cx n tc ac cn Z S' M' := by
  obtain ⟨hV, ⟨i1, i2, i3, i4, i5, i6, i7⟩, ⟨g1, g2, g3, g4, g5, g6, g7, g8⟩⟩ := h
  have hn7 := hV.n7
  have er : ∀ k i f, gr S' k i f = gr S k i f := fun k i f => gr_of hr
  have hna : ∀ c', c' < 4 → c' ≠ c → ∀ a', gr S 2 c' 2 = some a' → a' ≠ a := fun c' h1 h2 a' h3 e => by
    subst e
    have e1 := ((i5 c' h1).2.2.2 _ h3).2.1
    have e2 := ((i5 c hc).2.2.2 _ ha).2.1
    rw [e1] at e2
    exact h2 ((nI_eq (by omega) (by omega)).mp e2)
  refine ⟨hV.of hr, ⟨?_, fun k' hk' => ?_, ?_, fun a' ha' => ?_, fun c' hc4 => ?_, fun j hj2 => ?_, fun j hj2 => ?_⟩, ⟨?_, fun k' hk' => ?_, fun t ht => ?_, fun c' hc4 => ?_, fun c' hc4 => ?_, fun a' ha' => ?_, fun j hj2 => ?_, fun i hi2 => ?_⟩⟩
  · obtain ⟨a1, a2, a3, a4, a5, a6, a7⟩ := i1
    exact ⟨a1, a2, a3, a4, by rw [hi _ _ _ (by omega) (by omega) (by omega)]; exact a5, by rw [hi _ _ _ (by omega) (by omega) (by omega)]; exact a6, by rw [hi _ _ _ (by omega) (by omega) (by omega)]; exact a7⟩
  · exact (i2 k' hk').tr (fun f => hi _ _ _ (by omega) (by omega) (by omega))
  · rw [hr]; exact i3
  · by_cases e : a' = a
    · subst e; exact n5
    · have := i4 a' ha'
      unfold ivA1 at this ⊢
      rw [hi _ _ _ (by omega) (by omega) (by omega)]
      exact this
  · by_cases e : c' = c
    · subst e; exact n4
    · exact (i5 c' hc4).tr (er _ _ _) (fun f _ _ => hi _ _ _ (by omega) (by omega) (by omega)) (fun a' q f => by
        have := hna c' hc4 e a' q
        exact ⟨hi _ _ _ (by omega) (by omega) (by omega), hj _ _ _ (by omega) (by omega)⟩) (fun f => ⟨hi _ _ _ (by omega) (by omega) (by omega), hj _ _ _ (by omega) (by omega)⟩)
  · rw [hr]
    refine (i6 j hj2).tr2 (c := c) (fun f => hi _ _ _ (by omega) (by omega) (by omega)) (fun c _ _ => er _ _ _) (fun c _ _ => ⟨hi _ _ _ (by omega) (by omega) (by omega), hi _ _ _ (by omega) (by omega) (by omega)⟩) (fun a' _ q1 q2 => ?_)
    rw [er] at q2
    obtain ⟨r, q, e1, e2, e3, e4, e5⟩ := q1 q2
    rcases n6 with ⟨m1, m2⟩ | ⟨r', m1, m2, m3⟩
    · rw [m1, m2]; exact ⟨r, q, e1, e2, e3, e4, e5⟩
    · have hrr : r = r' := (nI_eq (by omega) (by omega)).mp (e1.symm.trans m1)
      subst hrr
      exact ⟨r + 1, q, m3, e2, by omega, by omega, fun x => absurd x (by omega)⟩
  · rw [hi _ _ _ (by omega) (by omega) (by omega)]; exact i7 j hj2
  · obtain ⟨a1, a2, a3, a4, a5, a6⟩ := g1
    unfold cqG
    rw [mi _ _ _ (by omega) (by omega), mi _ _ _ (by omega) (by omega), mi _ _ _ (by omega) (by omega), mi _ _ _ (by omega) (by omega), mi _ _ _ (by omega) (by omega), mi _ _ _ (by omega) (by omega), hi _ _ _ (by omega) (by omega) (by omega), hi _ _ _ (by omega) (by omega) (by omega), hi _ _ _ (by omega) (by omega) (by omega), hi _ _ _ (by omega) (by omega) (by omega), hi _ _ _ (by omega) (by omega) (by omega)]
    exact ⟨a1, a2, a3, a4, a5, a6⟩
  · exact (g2 k' hk').tr (fun f => ⟨hi _ _ _ (by omega) (by omega) (by omega), hj _ _ _ (by omega) (by omega)⟩) (fun f => hi _ _ _ (by omega) (by omega) (by omega)) (hi _ _ _ (by omega) (by omega) (by omega)) (fun i q1 q2 => mi _ _ _ (by omega) (by omega)) (mi _ _ _ (by omega) (by omega)) (mj _ _ _ (by omega) (by omega))
  · exact (g3 t ht).tr (fun f => hi _ _ _ (by omega) (by omega) (by omega)) (fun f => hi _ _ _ (by omega) (by omega) (by omega)) (fun i _ => mi _ _ _ (by omega) (by omega)) hn7
  · by_cases e : c' = c
    · subst e; exact n1
    · exact (g4 c' hc4).tr (fun f => hi _ _ _ (by omega) (by omega) (by omega)) (fun i q1 q2 => mi _ _ _ (by omega) (by omega))
  · by_cases e : c' = c
    · subst e; exact n2
    · exact (g5 c' hc4).tr (er _ _ _) (hi _ _ _ (by omega) (by omega) (by omega)) (fun a' q => by
        have := hna c' hc4 e a' q
        exact hi _ _ _ (by omega) (by omega) (by omega)) (fun f => ⟨hi _ _ _ (by omega) (by omega) (by omega), hj _ _ _ (by omega) (by omega)⟩) (mi _ _ _ (by omega) (by omega)) (fun i q1 q2 => mi _ _ _ (by omega) (by omega)) (mj _ _ _ (by omega) (by omega))
  · by_cases e : a' = a
    · subst e; exact n3
    · exact (g6 a' ha').tr (fun f => ⟨hi _ _ _ (by omega) (by omega) (by omega), hj _ _ _ (by omega) (by omega)⟩) (fun i q1 q2 => mi _ _ _ (by omega) (by omega)) (mj _ _ _ (by omega) (by omega))
  · rw [hr]
    exact (g7 j hj2).tr (fun f => hi _ _ _ (by omega) (by omega) (by omega)) (fun f => ⟨hi _ _ _ (by omega) (by omega) (by omega), hj _ _ _ (by omega) (by omega)⟩) (fun i q1 q2 => mi _ _ _ (by omega) (by omega)) (mi _ _ _ (by omega) (by omega)) (mj _ _ _ (by omega) (by omega))
  · rw [mi _ _ _ (by omega) (by omega)]; exact g8 i hi2
theorem Cx.c1 {n tc ac cn c : Nat} {Z : zZ} {S M : zS} (h : Cx n tc ac cn Z S M) (hc : c < 4) : cqC1 S M c := h.2.2.2.2.2.1 c hc
theorem Cx.d1 {n tc ac cn c : Nat} {Z : zZ} {S M : zS} (h : Cx n tc ac cn Z S M) (hc : c < 4) : cqD1 S M c := h.2.2.2.2.2.2.1 c hc
theorem Cx.a1 {n tc ac cn a : Nat} {Z : zZ} {S M : zS} (h : Cx n tc ac cn Z S M) (ha : a < ac) : cqA1 S M a := h.2.2.2.2.2.2.2.1 a ha
theorem Cx.ic {n tc ac cn c : Nat} {Z : zZ} {S M : zS} (h : Cx n tc ac cn Z S M) (hc : c < 4) : ivC1 tc ac S c := h.2.1.2.2.2.2.1 c hc
theorem Cx.ia {n tc ac cn a : Nat} {Z : zZ} {S M : zS} (h : Cx n tc ac cn Z S M) (ha : a < ac) : ivA1 tc S a := h.2.1.2.2.2.1 a ha
theorem Cx.cA {n tc ac cn c : Nat} {Z : zZ} {S M : zS} {v : Int32} (h : Cx n tc ac cn Z S M) : Cx n tc ac cn Z (si S 2 c 5 v) (si M 9 117 c v) := by
  obtain ⟨hV, hI, ⟨g1, g2, g3, g4, g5, g6, g7, g8⟩⟩ := h
  refine ⟨hV, hI, ⟨g1, g2, g3, fun c' hc => ?_, g5, g6, g7, g8⟩⟩
  obtain ⟨q1, q2, q3, q4, q5, q6⟩ := g4 c' hc
  refine ⟨q1, q2, ?_, q4, q5, q6⟩
  rw [gi_si, gi_si]
  by_cases e : c' = c
  · rw [if_pos ⟨rfl, e, rfl⟩, if_pos ⟨rfl, rfl, e⟩]
  · rw [if_neg (by omega), if_neg (by omega)]; exact q3
/-- a new base of client c that is no smaller, or in a change -/
theorem Cx.cBv {n tc ac cn c a : Nat} {Z : zZ} {S M : zS} {t : Int32} (h : Cx n tc ac cn Z S M) (hc : c < 4) (ha : gr S 2 c 2 = some a) (ht : ivN tc t) (hg : gi S 2 c 6 ≤ t ∨ gi S 2 c 3 = 4) : Cx n tc ac cn Z (si S 2 c 6 t) (si M 9 114 c t) := by
  have hd := (h.ic hc).2.2.2 a ha
  have htc := h.2.1.1.2.1.2
  obtain ⟨q1, q2, q3, q4, q5, q6⟩ := h.c1 hc
  refine h.cli hc ha rfl (fun K i f r1 r2 r3 => by rw [gi_si, if_neg (by omega)]) (fun K i f r1 r2 => rfl) (fun K i f r1 r2 => by rw [gi_si, if_neg (by omega)]) (fun K i f r1 r2 => rfl) ⟨q1, q2, q3, ?_, q5, q6⟩ (h.d1 hc) (h.a1 hd.1) ?_ (h.ia hd.1) (Or.inl ⟨rfl, rfl⟩)
  · rw [gi_si, if_pos ⟨rfl, rfl, rfl⟩, gi_si, if_pos ⟨rfl, rfl, rfl⟩]
  · obtain ⟨i1, i2, i3, i4⟩ := h.ic hc
    refine ⟨i1, by rw [gi_si, if_pos ⟨rfl, rfl, rfl⟩]; exact ht, i3, fun a' ha' => ?_⟩
    have : a' = a := Option.some.inj (ha'.symm.trans ha)
    subst this
    obtain ⟨d0, d1, φ, r, b, e1, e2, e3, e4, e5, e6, e7, e8⟩ := hd
    obtain ⟨t', ht1, ht2⟩ := ht
    refine ⟨d0, d1, φ, r, t', e1, e2, by rw [gi_si, if_pos ⟨rfl, rfl, rfl⟩]; exact ht2, ht1, e5, ?_, e7, e8⟩
    rcases hg with hg | hg
    · rw [e3, ht2, nI_leI (by omega) (by omega)] at hg
      omega
    · rw [e1] at hg
      have h4 : nI 4 = 4 := rfl
      rw [← h4, nI_eq (by omega) (by omega)] at hg
      omega
theorem Cx.cB {n tc ac cn c a : Nat} {Z : zZ} {S M : zS} {t : Int32} (h : Cx n tc ac cn Z S M) (hc : c < 4) (ha : gr S 2 c 2 = some a) (ht : ivN tc t) : Cx n tc ac cn Z (si S 2 c 6 (if gi S 2 c 6 < t then t else gi S 2 c 6)) (pif (t ≤ gi M 9 114 c) M (si M 9 114 c t)) := by
  obtain ⟨q1, q2, q3, q4, q5, q6⟩ := h.c1 hc
  by_cases hl : gi S 2 c 6 < t
  · rw [if_pos hl, pif_neg (by rw [← q4]; exact Int32.not_le.mpr hl)]
    exact h.cBv hc ha ht (Or.inl (Int32.le_of_lt hl))
  · rw [if_neg hl, pif_pos (by rw [← q4]; exact Int32.not_lt.mp hl)]
    have e : si S 2 c 6 (gi S 2 c 6) = S := zS_ext (fun k i f => by
      rw [gi_si]
      by_cases q : k = 2 ∧ i = c ∧ f = 6
      · rw [if_pos q, q.1, q.2.1, q.2.2]
      · rw [if_neg q]) (fun k i f => rfl) rfl
    rw [e]; exact h
theorem Cx.cC {n tc ac cn c a : Nat} {Z : zZ} {S M : zS} {t : Int32} (h : Cx n tc ac cn Z S M) (hc : c < 4) (ha : gr S 2 c 2 = some a) (ht : ivN tc t) : Cx n tc ac cn Z (si S 2 c 7 (if gi S 2 c 7 < t then t else gi S 2 c 7)) (pif (t ≤ gi M 9 115 c) M (si M 9 115 c t)) := by
  have hd := (h.ic hc).2.2.2 a ha
  obtain ⟨q1, q2, q3, q4, q5, q6⟩ := h.c1 hc
  obtain ⟨i1, i2, i3, i4⟩ := h.ic hc
  by_cases hl : gi S 2 c 7 < t
  · rw [if_pos hl, pif_neg (by rw [← q5]; exact Int32.not_le.mpr hl)]
    refine h.cli hc ha rfl (fun K i f r1 r2 r3 => by rw [gi_si, if_neg (by omega)]) (fun K i f r1 r2 => rfl) (fun K i f r1 r2 => by rw [gi_si, if_neg (by omega)]) (fun K i f r1 r2 => rfl) ⟨q1, q2, q3, q4, ?_, q6⟩ (h.d1 hc) (h.a1 hd.1) ?_ (h.ia hd.1) (Or.inl ⟨rfl, rfl⟩)
    · rw [gi_si, if_pos ⟨rfl, rfl, rfl⟩, gi_si, if_pos ⟨rfl, rfl, rfl⟩]
    · exact ⟨i1, i2, by rw [gi_si, if_pos ⟨rfl, rfl, rfl⟩]; exact ht, i4⟩
  · rw [if_neg hl, pif_pos (by rw [← q5]; exact Int32.not_lt.mp hl)]
    have e : si S 2 c 7 (gi S 2 c 7) = S := zS_ext (fun k i f => by
      rw [gi_si]
      by_cases q : k = 2 ∧ i = c ∧ f = 7
      · rw [if_pos q, q.1, q.2.1, q.2.2]
      · rw [if_neg q]) (fun k i f => rfl) rfl
    rw [e]; exact h
noncomputable def bst (T : zS) (c : Nat) (a b : Int32) (v : Int64) : zS := sj (si (si T 9 118 c a) 9 119 c b) 10 120 c v
theorem Cx.cV {n tc ac cn c a q : Nat} {Z : zZ} {S M : zS} {x y : Int32} {v : Int64} (h : Cx n tc ac cn Z S M) (hc : c < 4) (ha : gr S 2 c 2 = some a) (h2 : ¬ gi S 2 c 3 = 2) (e0 : gi S 6 (20 + q) 0 = x) (e1 : gi S 6 (20 + q) 1 = y) (e2 : gj S 6 (20 + q) 2 = v) : Cx n tc ac cn Z (s_X6_set S (10 + c) (20 + q)) (bst M c x y v) := by
  have hd := (h.ic hc).2.2.2 a ha
  obtain ⟨i1, i2, i3, i4⟩ := h.ic hc
  refine h.cli hc ha rfl (fun K i f r1 r2 r3 => by rw [set6_gi, if_neg (by omega), if_neg (by omega)]) (fun K i f r1 r2 => by rw [set6_gj, if_neg (by omega)]) (fun K i f r1 r2 => by unfold bst; rw [gi_sj, gi_si, if_neg (by omega), gi_si, if_neg (by omega)]) (fun K i f r1 r2 => by unfold bst; rw [gj_sj, if_neg (by omega), gj_si, gj_si]) (h.c1 hc) ⟨(h.d1 hc).1, fun a' ha' => ⟨((h.d1 hc).2 a' ha').1, fun _ => ⟨?_, ?_, ?_⟩⟩⟩ (h.a1 hd.1) ⟨i1, i2, i3, fun a' ha' => ?_⟩ (h.ia hd.1) (Or.inl ⟨rfl, rfl⟩)
  · unfold bst; rw [set6_gi, if_neg (by omega), if_pos ⟨rfl, rfl, rfl⟩, e0, gi_sj, gi_si, if_neg (by omega), gi_si, if_pos ⟨rfl, rfl, rfl⟩]
  · unfold bst; rw [set6_gi, if_pos ⟨rfl, rfl, rfl⟩, e1, gi_sj, gi_si, if_pos ⟨rfl, rfl, rfl⟩]
  · unfold bst; rw [set6_gj, if_pos ⟨rfl, rfl, rfl⟩, e2, gj_sj, if_pos ⟨rfl, rfl, rfl⟩]
  · have : a' = a := Option.some.inj (ha'.symm.trans ha)
    subst this
    obtain ⟨d0, d1, φ, r, b, f1, f2, f3, f4, f5, f6, f7, f8⟩ := hd
    refine ⟨d0, d1, φ, r, b, f1, f2, f3, f4, f5, f6, f7, fun q => ?_⟩
    subst q
    exact absurd f1 h2
