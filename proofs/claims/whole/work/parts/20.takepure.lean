/-! what Air.take does, as a picture -/
theorem lTk_1 (pm : Nat → Nat) : ∀ (f j : Nat) (T : zS), (lTk pm f j T).1 = T.1 ∧ (lTk pm f j T).2.1 = T.2.1 := by
  intro f
  induction f with
  | zero => intro j T; exact ⟨rfl, rfl⟩
  | succ f ih => intro j T; exact ih (j + 1) (sr T 15 (0) (ix ((nI j) - (1))) (some (pm j)))
theorem lTk_gr (pm : Nat → Nat) : ∀ (f j : Nat) (T : zS), 1 ≤ j → j + f ≤ 300 → ∀ k i x, gr (lTk pm f j T) k i x = if k = 15 ∧ i = 0 ∧ j ≤ x + 1 ∧ x + 1 < j + f then some (pm (x + 1)) else gr T k i x := by
  intro f
  induction f with
  | zero =>
    intro j T h1 h2 k i x
    rw [if_neg (by omega)]
    rfl
  | succ f ih =>
    intro j T h1 h2 k i x
    have e : lTk pm (f + 1) j T = lTk pm f (j + 1) (sr T 15 (0) (ix ((nI j) - (1))) (some (pm j))) := rfl
    rw [e, ih (j + 1) _ (by omega) (by omega), gr_sr, nI_sub1 h1 (by omega), ix_nI (by omega)]
    by_cases hk : k = 15 ∧ i = 0
    · obtain ⟨rfl, rfl⟩ := hk
      by_cases hx : x = j - 1
      · subst hx
        rw [if_neg (by omega), if_pos (by omega), if_pos (by omega), show j - 1 + 1 = j by omega]
      · by_cases h3 : j + 1 ≤ x + 1 ∧ x + 1 < j + 1 + f
        · rw [if_pos (by omega), if_pos (by omega)]
        · rw [if_neg (by omega), if_neg (by omega), if_neg (by omega)]
    · rw [if_neg (by omega), if_neg (by omega), if_neg (by omega)]
/-- the rows behind the taking of row i0 of cn -/
def pmT (pm : Nat → Nat) (tk cn i0 : Nat) (x : Nat) : Nat := if x < i0 then pm x else if x + 1 < cn then pm (x + 1) else if x + 1 = cn then tk else pm x
theorem take_gr {S : zS} {pm : Nat → Nat} {tk cn q : Nat} {k : Int32} (hq : r_X1_at S pm k = some q) (hcn : gi S 1 0 2 = nI cn) (hcm : cn ≤ 300) (hpm : ∀ j, j < 300 → gr S 15 0 j = some (pm j)) :
    (∀ k' i x, ¬ (k' = 15 ∧ i = 0 ∧ x < 300) → ¬ (k' = 1 ∧ i = 0 ∧ x = 1) → gr (s_X1_take S pm tk cn k) k' i x = gr S k' i x) ∧ gr (s_X1_take S pm tk cn k) 1 0 1 = some (pm (ix k)) ∧ ∀ x, x < 300 → gr (s_X1_take S pm tk cn k) 15 0 x = some (pmT pm tk cn (ix k) x) := by
  obtain ⟨rfl, h0, h1, h2⟩ := rAt_cases hq
  rw [hcn] at h1
  have hk : ix k < cn := ix_lt_nI h0 h1 (by omega)
  unfold s_X1_take
  rw [oel_s hq]
  unfold fTk
  have e1 : gi (lTk pm (cn - (ix k + 1)) (ix k + 1) S) 1 0 2 = nI cn := by rw [← hcn]; unfold gi; rw [(lTk_1 pm _ _ S).1]
  rw [e1, nI_sub1 (by omega) (by omega), ix_nI (by omega)]
  refine ⟨fun k' i x n1 n2 => ?_, ?_, fun x hx => ?_⟩
  · rw [gr_sr, if_neg n2, gr_sr, if_neg (by omega), gr_si, lTk_gr pm _ _ _ (by omega) (by omega), if_neg (by omega)]
  · rw [gr_sr, if_pos ⟨rfl, rfl, rfl⟩]
  · rw [gr_sr, if_neg (by omega), gr_sr]
    unfold pmT
    by_cases hx1 : x = cn - 1
    · subst hx1
      rw [if_pos ⟨rfl, rfl, rfl⟩, if_neg (by omega), if_neg (by omega), if_pos (by omega)]
    · rw [if_neg (by omega), gr_si, lTk_gr pm _ _ _ (by omega) (by omega)]
      by_cases ha : x < ix k
      · rw [if_neg (by omega), if_pos ha, hpm x hx]
      · rw [if_neg ha]
        by_cases hb : x + 1 < cn
        · rw [if_pos (by omega), if_pos hb]
        · rw [if_neg (by omega), if_neg hb, if_neg (by omega), hpm x hx]
theorem take_gi {S : zS} {pm : Nat → Nat} {tk cn q : Nat} {k : Int32} (hq : r_X1_at S pm k = some q) (hcn : gi S 1 0 2 = nI cn) (hcm : cn ≤ 300) :
    (∀ k' i x, ¬ (k' = 1 ∧ i = 0 ∧ x = 2) → gi (s_X1_take S pm tk cn k) k' i x = gi S k' i x) ∧ gi (s_X1_take S pm tk cn k) 1 0 2 = nI (cn - 1) ∧ (∀ k' i x, gj (s_X1_take S pm tk cn k) k' i x = gj S k' i x) ∧ ix k < cn := by
  obtain ⟨rfl, h0, h1, h2⟩ := rAt_cases hq
  rw [hcn] at h1
  have hk : ix k < cn := ix_lt_nI h0 h1 (by omega)
  unfold s_X1_take
  rw [oel_s hq]
  unfold fTk
  have e0 : ∀ k' i x, gi (lTk pm (cn - (ix k + 1)) (ix k + 1) S) k' i x = gi S k' i x := fun k' i x => by unfold gi; rw [(lTk_1 pm _ _ S).1]
  have ej : ∀ k' i x, gj (lTk pm (cn - (ix k + 1)) (ix k + 1) S) k' i x = gj S k' i x := fun k' i x => by unfold gj; rw [(lTk_1 pm _ _ S).2]
  refine ⟨fun k' i x n1 => ?_, ?_, fun k' i x => ?_, hk⟩
  · rw [gi_sr, gi_sr, gi_si, if_neg n1, e0]
  · rw [gi_sr, gi_sr, gi_si, if_pos ⟨rfl, rfl, rfl⟩, e0, hcn, nI_sub1 (by omega) (by omega)]
  · rw [gj_sr, gj_sr, gj_si, ej]
theorem zV.rows {n : Nat} {Z : zZ} {R R' : zR} (h : zV n Z R) (he : ∀ k i x, ¬ (k = 15 ∧ i = 0 ∧ x < 300) → ¬ (k = 1 ∧ i = 0 ∧ x = 1) → R' k i x = R k i x) (h4 : (∀ j, j < 300 → R' 15 0 j = some (pmR R' j) ∧ pmR R' j < 301) ∧ R' 1 0 1 = some (tkR R') ∧ tkR R' < 301 ∧ (∀ i j, i < 300 → j < 300 → pmR R' i = pmR R' j → i = j) ∧ ∀ j, j < 300 → pmR R' j ≠ tkR R') : zV n Z R' := by
  obtain ⟨⟨⟨a1, a2, a3, a4, a5, a6, a7⟩, b1, b2, b3⟩, ⟨c1, c2, c3, c4⟩, d, ⟨f1, -⟩, g5, g6, g7⟩ := h
  have e : ∀ k i x, k ≠ 15 → k ≠ 1 → R' k i x = R k i x := fun k i x h1 h2 => he k i x (fun q => h1 q.1) (fun q => h2 q.1)
  refine ⟨⟨⟨a1, ?_, ?_, ?_, ?_, ?_, ?_⟩, b1, ?_, b3⟩, ⟨c1, c2, c3, fun c hc => ?_⟩, fun c hc => ?_, ⟨fun j hj => ?_, h4⟩, fun t ht => ?_, fun a ha => ?_, fun c hc => ?_⟩
  · rw [e _ _ _ (by decide) (by decide)]; exact a2
  · rw [e _ _ _ (by decide) (by decide)]; exact a3
  · rw [e _ _ _ (by decide) (by decide)]; exact a4
  · rw [e _ _ _ (by decide) (by decide)]; exact a5
  · rw [e _ _ _ (by decide) (by decide)]; exact a6
  · rw [e _ _ _ (by decide) (by decide)]; exact a7
  · rw [he _ _ _ (by decide) (by decide)]; exact b2
  · rw [e _ _ _ (by decide) (by decide), e _ _ _ (by decide) (by decide)]; exact c4 c hc
  · rw [e _ _ _ (by decide) (by decide), e _ _ _ (by decide) (by decide)]; exact d c hc
  · rw [e _ _ _ (by decide) (by decide)]; exact f1 j hj
  · rw [e _ _ _ (by decide) (by decide), e _ _ _ (by decide) (by decide)]; exact g5 t ht
  · rw [e _ _ _ (by decide) (by decide)]; exact g6 a ha
  · rcases g7 c hc with q | ⟨a, q1, q2, q3⟩
    · exact Or.inl (by rw [e _ _ _ (by decide) (by decide)]; exact q)
    · exact Or.inr ⟨a, q1, by rw [e _ _ _ (by decide) (by decide)]; exact q2, by rw [e _ _ _ (by decide) (by decide)]; exact q3⟩
def sxT (cn i0 x : Nat) : Nat := if x < i0 then x else if x + 1 < cn then x + 1 else if x + 1 = cn then 300 else x
def peT (pm : Nat → Nat) (tk : Nat) (y : Nat) : Nat := if y = 300 then tk else pm y
theorem pmT_eq (pm : Nat → Nat) {tk cn i0 x : Nat} (hx : x < 300) (hc : cn ≤ 300) : pmT pm tk cn i0 x = peT pm tk (sxT cn i0 x) := by
  unfold pmT peT sxT
  by_cases h1 : x < i0
  · rw [if_pos h1, if_pos h1, if_neg (by omega)]
  · rw [if_neg h1, if_neg h1]
    by_cases h2 : x + 1 < cn
    · rw [if_pos h2, if_pos h2, if_neg (by omega)]
    · rw [if_neg h2, if_neg h2]
      by_cases h3 : x + 1 = cn
      · rw [if_pos h3, if_pos h3, if_pos rfl]
      · rw [if_neg h3, if_neg h3, if_neg (by omega)]
theorem sxT_le {cn i0 x : Nat} (hx : x < 300) (hc : cn ≤ 300) : sxT cn i0 x ≤ 300 := by
  unfold sxT
  (repeat' split) <;> omega
theorem sxT_inj {cn i0 x y : Nat} (h0 : i0 < cn) (hx : x < 300) (hy : y < 300) (hc : cn ≤ 300) (e : sxT cn i0 x = sxT cn i0 y) : x = y := by
  unfold sxT at e
  (repeat' split at e) <;> omega
theorem sxT_ne {cn i0 x : Nat} (h0 : i0 < cn) (hx : x < 300) (hc : cn ≤ 300) : sxT cn i0 x ≠ i0 := by
  unfold sxT
  (repeat' split) <;> omega
theorem peT_inj {pm : Nat → Nat} {tk : Nat} (hi : ∀ i j, i < 300 → j < 300 → pm i = pm j → i = j) (ht : ∀ j, j < 300 → pm j ≠ tk) {x y : Nat} (hx : x ≤ 300) (hy : y ≤ 300) (e : peT pm tk x = peT pm tk y) : x = y := by
  unfold peT at e
  by_cases h1 : x = 300 <;> by_cases h2 : y = 300
  · omega
  · rw [if_pos h1, if_neg h2] at e
    exact absurd e.symm (ht y (by omega))
  · rw [if_neg h1, if_pos h2] at e
    exact absurd e (ht x (by omega))
  · rw [if_neg h1, if_neg h2] at e
    exact hi x y (by omega) (by omega) e
theorem pmT_lt {pm : Nat → Nat} {tk cn i0 x : Nat} (h : ∀ j, j < 300 → pm j < 301) (ht : tk < 301) (hx : x < 300) (hc : cn ≤ 300) : pmT pm tk cn i0 x < 301 := by
  rw [pmT_eq pm hx hc]
  have := sxT_le (i0 := i0) hx hc
  unfold peT
  by_cases h1 : sxT cn i0 x = 300
  · rw [if_pos h1]; exact ht
  · rw [if_neg h1]; exact h _ (by omega)
theorem pmT_inj {pm : Nat → Nat} {tk cn i0 : Nat} (hi : ∀ i j, i < 300 → j < 300 → pm i = pm j → i = j) (ht : ∀ j, j < 300 → pm j ≠ tk) (h0 : i0 < cn) (hc : cn ≤ 300) {x y : Nat} (hx : x < 300) (hy : y < 300) (e : pmT pm tk cn i0 x = pmT pm tk cn i0 y) : x = y := by
  rw [pmT_eq pm hx hc, pmT_eq pm hy hc] at e
  exact sxT_inj h0 hx hy hc (peT_inj hi ht (sxT_le hx hc) (sxT_le hy hc) e)
theorem pmT_ne {pm : Nat → Nat} {tk cn i0 : Nat} (hi : ∀ i j, i < 300 → j < 300 → pm i = pm j → i = j) (ht : ∀ j, j < 300 → pm j ≠ tk) (h0 : i0 < cn) (hc : cn ≤ 300) {x : Nat} (hx : x < 300) : pmT pm tk cn i0 x ≠ pm i0 := by
  rw [pmT_eq pm hx hc]
  intro e
  have e2 : peT pm tk (sxT cn i0 x) = peT pm tk i0 := by
    rw [e]; unfold peT; rw [if_neg (by omega)]
  exact sxT_ne h0 hx hc (peT_inj hi ht (sxT_le hx hc) (by omega) e2)
theorem pmR_of {T : zS} {x y : Nat} (h : gr T 15 0 x = some y) : pmR T.2.2 x = y := by
  unfold pmR
  unfold gr at h
  rw [h]; rfl
theorem tkR_of {T : zS} {y : Nat} (h : gr T 1 0 1 = some y) : tkR T.2.2 = y := by
  unfold tkR
  unfold gr at h
  rw [h]; rfl
theorem take_zV {S : zS} {n cn q : Nat} {Z : zZ} {k : Int32} (hV : zV n Z S.2.2) (hq : r_X1_at S (pmR S.2.2) k = some q) (hcn : gi S 1 0 2 = nI cn) (hcm : cn ≤ 300) :
    zV n Z (s_X1_take S (pmR S.2.2) (tkR S.2.2) cn k).2.2 ∧ (∀ x, x < 300 → pmR (s_X1_take S (pmR S.2.2) (tkR S.2.2) cn k).2.2 x = pmT (pmR S.2.2) (tkR S.2.2) cn (ix k) x) ∧ tkR (s_X1_take S (pmR S.2.2) (tkR S.2.2) cn k).2.2 = pmR S.2.2 (ix k) := by
  obtain ⟨g1, g2, g3⟩ := take_gr (tk := tkR S.2.2) hq hcn hcm hV.pm
  have hk := (take_gi (tk := tkR S.2.2) hq hcn hcm).2.2.2
  have p1 : ∀ x, x < 300 → pmR (s_X1_take S (pmR S.2.2) (tkR S.2.2) cn k).2.2 x = pmT (pmR S.2.2) (tkR S.2.2) cn (ix k) x := fun x hx => pmR_of (g3 x hx)
  have p2 : tkR (s_X1_take S (pmR S.2.2) (tkR S.2.2) cn k).2.2 = pmR S.2.2 (ix k) := tkR_of g2
  obtain ⟨f1, f2, f3, f4, f5, f6⟩ := hV.2.2.2.1
  refine ⟨hV.rows g1 ⟨fun j hj => ⟨by rw [p1 j hj]; exact g3 j hj, by rw [p1 j hj]; exact pmT_lt (fun x hx => (f2 x hx).2) f4 hj hcm⟩, by rw [p2]; exact g2, by rw [p2]; exact (f2 _ (by omega)).2, fun i j hi hj e => ?_, fun j hj => ?_⟩, p1, p2⟩
  · rw [p1 i hi, p1 j hj] at e
    exact pmT_inj f5 f6 hk hcm hi hj e
  · rw [p1 j hj, p2]
    exact pmT_ne f5 f6 hk hcm hj
