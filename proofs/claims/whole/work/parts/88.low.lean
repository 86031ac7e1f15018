/-! what lies ahead of row k, the sides and who is silent: no delivery at row k changes them -/
def lowR (k : Nat) (M' M : zS) : Prop := (∀ x, gi M' 11 107 x = gi M 11 107 x ∧ gi M' 9 106 x = gi M 9 106 x ∧ gi M' 9 116 x = gi M 9 116 x) ∧ ∀ j, j < k → gi M' 9 133 j = gi M 9 133 j ∧ gi M' 9 134 j = gi M 9 134 j
def cOK (k : Nat) (M : zS) : Prop := ∃ cn, gi M 8 0 44 = nI cn ∧ cn ≤ 300 ∧ k ≤ cn
def lw (k : Nat) (M' M : zS) : Prop := lowR k M' M ∧ cOK k M' ∧ M'.2.2 = M.2.2
theorem lw_rf {k : Nat} {M : zS} (h : cOK k M) : lw k M M := ⟨⟨fun _ => ⟨rfl, rfl, rfl⟩, fun _ _ => ⟨rfl, rfl⟩⟩, h, rfl⟩
theorem lw_si {k K I x : Nat} {v : Int32} {T M : zS} (h : lw k T M) (hI : I ≠ 107 ∧ I ≠ 106 ∧ I ≠ 116 ∧ I ≠ 133 ∧ I ≠ 134) (h8 : K = 8 → x ≠ 44) : lw k (si T K I x v) M := by
  obtain ⟨⟨h1, h2⟩, ⟨cn, h3, h4, h5⟩, h6⟩ := h
  refine ⟨⟨fun y => ?_, fun j hj => ?_⟩, ⟨cn, ?_, h4, h5⟩, h6⟩
  · rw [gi_si, if_neg (by omega), gi_si, if_neg (by omega), gi_si, if_neg (by omega)]; exact h1 y
  · rw [gi_si, if_neg (by omega), gi_si, if_neg (by omega)]; exact h2 j hj
  · rw [gi_si, if_neg (fun q => h8 q.1.symm q.2.2.symm)]; exact h3
theorem lw_sj {k K I x : Nat} {v : Int64} {T M : zS} (h : lw k T M) : lw k (sj T K I x v) M := h
theorem lw_pif {k : Nat} {b : Prop} {A B M : zS} (h1 : lw k A M) (h2 : lw k B M) : lw k (pif b A B) M := (Classical.em b).elim (fun h => by rw [pif_pos h]; exact h1) (fun h => by rw [pif_neg h]; exact h2)
theorem lw_put {k : Nat} {T M : zS} {cn : Nat} {x1 x2 x3 x4 x5 x6 x7 x8 : Int32} {v : Int64} {x9 x10 x11 : Int32} (h : lw k T M) (hc : gi T 8 0 44 = nI cn) (h3 : cn ≤ 300) : lw k (s_X8_put T cn x1 x2 x3 x4 x5 x6 x7 x8 v x9 x10 x11) M := by
  obtain ⟨⟨h1, h2⟩, ⟨cn', g1, g2, g3⟩, h6⟩ := h
  have hcc : cn' = cn := (nI_eq (by omega) (by omega)).mp (g1.symm.trans hc)
  subst hcc
  by_cases hl : cn' < 300
  · obtain ⟨p1, -, p3, -⟩ := @put_pic T cn' x1 x2 x3 x4 x5 x6 x7 x8 v x9 x10 x11 hl
    refine ⟨⟨fun y => ?_, fun j hj => ?_⟩, ⟨cn' + 1, p3, by omega, by omega⟩, k_X8_put.trans h6⟩
    · rw [p1 _ _ _ (by omega) (by omega), p1 _ _ _ (by omega) (by omega), p1 _ _ _ (by omega) (by omega)]; exact h1 y
    · rw [p1 _ _ _ (by omega) (by omega), p1 _ _ _ (by omega) (by omega)]; exact h2 j hj
  · have e : cn' = 300 := by omega
    subst e
    unfold s_X8_put
    rw [pif_pos (by decide)]
    exact lw_si ⟨⟨h1, h2⟩, ⟨300, g1, g2, g3⟩, h6⟩ (by omega) (by omega)
theorem lw_asks {k : Nat} {x : Int32} {M : zS} : ∀ (f j : Nat) (T : zS), lw k T M → lw k (lAsk x f j T) M := by
  intro f
  induction f with
  | zero => intro j T h; exact h
  | succ f ih =>
    intro j T h
    show lw k (lAsk x f (j + 1) (s_X8_ask T (ix (gi T 8 0 44)) x (nI j))) M
    refine ih (j + 1) _ ?_
    obtain ⟨x4, x5, x6, x7, x8, v, x9, e⟩ := @ask_put T (ix (gi T 8 0 44)) x (nI j)
    rw [e]
    obtain ⟨-, ⟨cn, g1, g2, g3⟩, -⟩ := id h
    have := cnI g2 g1
    exact lw_put h this.1 this.2
theorem lw_begin {k n : Nat} {x y : Int32} {T M : zS} (h : lw k T M) : lw k (s_X8_beginPhase T n x y) M := lw_asks n 0 _ (lw_si (lw_si (lw_si h (by omega) (by omega)) (by omega) (by omega)) (by omega) (by omega))
theorem lw_end {k : Nat} {x : Int32} {T M : zS} (h : lw k T M) : lw k (s_X8_end T x) M := lw_si (lw_si (lw_si h (by omega) (by omega)) (by omega) (by omega)) (by omega) (by omega)
theorem lw_finish {k : Nat} {x : Int32} {T M : zS} (h : lw k T M) : lw k (s_X8_finish T x) M :=
  lw_pif (lw_end (lw_sj (lw_si (lw_si (lw_si h (by omega) (by omega)) (by omega) (by omega)) (by omega) (by omega)))) (lw_end (lw_si h (by omega) (by omega)))
theorem lw_goOn {k n : Nat} {x : Int32} {T M : zS} (h : lw k T M) : lw k (s_X8_goOn T n x) M :=
  lw_pif (lw_pif (lw_begin (lw_si (lw_si h (by omega) (by omega)) (by omega) (by omega))) (lw_begin h)) (lw_pif (lw_finish h) (lw_pif (lw_begin (lw_si (lw_si h (by omega) (by omega)) (by omega) (by omega))) (lw_pif (lw_begin (lw_si h (by omega) (by omega))) (lw_finish h))))
theorem lw_fin {k n c : Nat} {x : Int32} {T M : zS} (h : lw k T M) : lw k (mFin T n c x) M := lw_pif h (lw_goOn h)
theorem lw_bst {k c : Nat} {a b : Int32} {v : Int64} {T M : zS} (h : lw k T M) : lw k (bst T c a b v) M := lw_sj (lw_si (lw_si h (by omega) (by omega)) (by omega) (by omega))
theorem lw_L2 {k c : Nat} {ph g a b : Int32} {v : Int64} {T M : zS} (h : lw k T M) : lw k (mL2 T c ph g a b v) M := lw_pif (lw_pif h (lw_bst h)) (lw_pif (lw_pif h (lw_bst h)) h)
theorem lw_L3 {k c : Nat} {ba la b0 l0 : Int32} {T M : zS} (h : lw k T M) : lw k (mL3 T c ba la b0 l0) M := lw_pif (lw_pif h (lw_si h (by omega) (by omega))) (lw_pif (lw_si h (by omega) (by omega)) (lw_si (lw_si h (by omega) (by omega)) (by omega) (by omega)))
theorem lw_take {k cn : Nat} {T M : zS} (h : lw k T M) (hk : k < cn) (hc : gi T 8 0 44 = nI cn) (h3 : cn ≤ 300) : lw k (s_X8_take T cn k) M := by
  obtain ⟨⟨h1, h2⟩, -, h6⟩ := h
  refine ⟨⟨fun y => ?_, fun j hj => ?_⟩, ⟨cn - 1, ?_, by omega, by omega⟩, k_X8_take.trans h6⟩
  · rw [mtk_gi hk, if_neg (by omega), if_neg (by omega), mtk_gi hk, if_neg (by omega), if_neg (by omega), mtk_gi hk, if_neg (by omega), if_neg (by omega)]; exact h1 y
  · rw [mtk_gi hk, if_neg (by omega), if_neg (by omega), mtk_gi hk, if_neg (by omega), if_neg (by omega)]; exact h2 j hj
  · rw [mtk_gi hk, if_neg (by omega), if_pos ⟨rfl, rfl, rfl⟩]
theorem lw_answer {k n cn : Nat} {T M : zS} (h : lw k T M) (hk : k < cn) (hc : gi T 8 0 44 = nI cn) (h3 : cn ≤ 300) : lw k (s_X8_answer T n k) M := by
  rw [answer_eq]
  have hx : ix (gi T 8 0 44) = cn := by rw [hc, ix_nI (by omega)]
  unfold mX
  rw [hx]
  have ht := lw_take h hk hc h3
  have hX := fun {C : Nat} {w ph g a b ba la b0 l0 : Int32} {v : Int64} => lw_L3 (c := C) (ba := ba) (la := la) (b0 := b0) (l0 := l0) (lw_L2 (c := C) (ph := ph) (g := g) (a := a) (b := b) (v := v) (lw_si (K := 9) (I := 117) (x := C) (v := w) ht (by omega) (by omega)))
  exact lw_pif ht (lw_pif (lw_pif (lw_pif (lw_pif (lw_pif (lw_pif (lw_fin hX) (lw_begin hX)) (lw_fin hX)) ht) ht) ht) ht)
theorem lw_ob {k k2 : Nat} {ph t a b g la ba : Int32} {v : Int64} {T M : zS} (h : lw k T M) : lw k (mObV T k2 ph t a b v g la ba) M := by
  have hv : lw k (sj (si (si T 9 102 k2 a) 9 103 k2 b) 10 101 k2 v) M := lw_sj (lw_si (lw_si h (by omega) (by omega)) (by omega) (by omega))
  have h5 : lw k (si T 9 105 k2 t) M := lw_si h (by omega) (by omega)
  have h4 : lw k (si T 9 104 k2 t) M := lw_si h (by omega) (by omega)
  exact lw_pif (lw_pif h hv) (lw_pif (lw_pif h hv) (lw_pif (lw_pif h h5) (lw_pif (lw_pif (lw_pif h h4) (lw_pif h5 (lw_si h5 (by omega) (by omega)))) h)))
theorem ob_cn {k2 : Nat} {ph t a b g la ba : Int32} {v : Int64} {T : zS} : gi (mObV T k2 ph t a b v g la ba) 8 0 44 = gi T 8 0 44 := by
  have z1 : ∀ (X : zS) I y, gi (si X 9 I k2 y) 8 0 44 = gi X 8 0 44 := fun X I y => by rw [gi_si, if_neg (by omega)]
  unfold mObV
  simp only [gi_pif, gi_sj, z1, pif_same]
theorem lw_request {k n cn : Nat} {T M : zS} (h : lw k T M) (hk : k < cn) (hc : gi T 8 0 44 = nI cn) (h3 : cn ≤ 300) : lw k (s_X8_request T n k) M := by
  rw [request_eq]
  have hx : ix (gi T 8 0 44) = cn := by rw [hc, ix_nI (by omega)]
  unfold mRp
  rw [hx]
  refine lw_put (lw_take (lw_ob h) hk (ob_cn.trans hc) h3) ?_ (by omega)
  rw [mtk_gi hk, if_neg (by omega), if_pos ⟨rfl, rfl, rfl⟩]
theorem lw_deliver {k n cn : Nat} {M : zS} (hk : k < cn) (hc : gi M 8 0 44 = nI cn) (h3 : cn ≤ 300) : lw k (s_X8_deliver M n k) M := by
  have h0 : lw k M M := lw_rf ⟨cn, hc, h3, by omega⟩
  have h1 : lw k (si M 8 0 30 (gi M 8 0 30 + 1)) M := lw_si h0 (by omega) (by omega)
  have hc1 : gi (si M 8 0 30 (gi M 8 0 30 + 1)) 8 0 44 = nI cn := by rw [gi_si, if_neg (by omega)]; exact hc
  exact lw_pif h0 (lw_pif (lw_request h1 hk hc1 h3) (lw_answer h1 hk hc1 h3))
theorem lw_can {k j : Nat} {M M' : zS} (h : lw k M' M) (hj : j < k) : r_X8_canBe M' j = r_X8_canBe M j := by
  obtain ⟨⟨h1, h2⟩, -⟩ := h
  unfold r_X8_canBe
  rw [(h2 j hj).1, (h2 j hj).2, (h1 _).1, (h1 _).2.1, (h1 _).2.2]
theorem lF_first {T : zS} {k : Nat} (hk : ¬ r_X8_canBe T k = 0) : ∀ (f j : Nat), j ≤ k → k < j + f → (∀ i, j ≤ i → i < k → r_X8_canBe T i = 0) → lF T f j = k := by
  intro f
  induction f with
  | zero => intro j h1 h2 _; omega
  | succ f ih =>
    intro j h1 h2 h3
    show pif (r_X8_canBe T j = 0) (lF T f (j + 1)) j = k
    by_cases e : j = k
    · subst e; rw [pif_neg hk]
    · rw [pif_pos (h3 j (Nat.le_refl _) (by omega))]
      exact ih (j + 1) (by omega) (by omega) (fun i q1 q2 => h3 i (by omega) q2)
theorem lF_none {T : zS} : ∀ (f j : Nat), (∀ i, j ≤ i → i < j + f → r_X8_canBe T i = 0) → lF T f j = j + f := by
  intro f
  induction f with
  | zero => intro j _; rfl
  | succ f ih =>
    intro j h3
    show pif (r_X8_canBe T j = 0) (lF T f (j + 1)) j = j + (f + 1)
    rw [pif_pos (h3 j (Nat.le_refl _) (by omega)), ih (j + 1) (fun i q1 q2 => h3 i (by omega) (by omega))]
    omega
