theorem zS_ext {S T : zS} (h1 : ∀ k i f, gi S k i f = gi T k i f) (h2 : ∀ k i f, gj S k i f = gj T k i f) (h3 : S.2.2 = T.2.2) : S = T := by
  obtain ⟨a, b, c⟩ := S
  obtain ⟨a', b', c'⟩ := T
  have e1 : a = a' := funext fun k => funext fun i => funext fun f => h1 k i f
  have e2 : b = b' := funext fun k => funext fun i => funext fun f => h2 k i f
  have e3 : c = c' := h3
  rw [e1, e2, e3]
theorem app_pif {α β : Type} (f : α → β) {b : Prop} {x y : α} : f (pif b x y) = pif b (f x) (f y) := (Classical.em b).elim (fun h => by rw [pif_pos h, pif_pos h]) (fun h => by rw [pif_neg h, pif_neg h])
theorem mtk_si {M : zS} {cn k K I x : Nat} {v : Int32} (hk : k < cn) (hI : I < 132) (h8 : ¬ (K = 8 ∧ I = 0 ∧ x = 44)) : s_X8_take (si M K I x v) cn k = si (s_X8_take M cn k) K I x v := by
  refine zS_ext (fun k' i f => ?_) (fun k' i f => ?_) ?_
  · rw [gi_si (s_X8_take M cn k) K I x v k' i f, mtk_gi hk, mtk_gi hk]
    by_cases q1 : (k ≤ f ∧ f + 1 < cn) ∧ ((k' = 9 ∧ 133 ≤ i ∧ i ≤ 142) ∨ (k' = 11 ∧ i = 132))
    · rw [if_pos q1, if_pos q1, gi_si, if_neg (by omega), if_neg (by omega)]
    · rw [if_neg q1, if_neg q1]
      by_cases q2 : k' = 8 ∧ i = 0 ∧ f = 44
      · rw [if_pos q2, if_pos q2, if_neg (by omega)]
      · rw [if_neg q2, if_neg q2, gi_si]
  · rw [gj_si (s_X8_take M cn k), mtk_gj hk, mtk_gj hk]; rfl
  · rw [k_X8_take]; show M.2.2 = (s_X8_take M cn k).2.2; exact k_X8_take.symm
theorem mtk_sj {M : zS} {cn k K I x : Nat} {v : Int64} (hk : k < cn) (hI : I < 132) : s_X8_take (sj M K I x v) cn k = sj (s_X8_take M cn k) K I x v := by
  refine zS_ext (fun k' i f => ?_) (fun k' i f => ?_) ?_
  · rw [gi_sj (s_X8_take M cn k), mtk_gi hk, mtk_gi hk]; rfl
  · rw [gj_sj (s_X8_take M cn k), mtk_gj hk, mtk_gj hk]
    by_cases q1 : (k ≤ f ∧ f + 1 < cn) ∧ k' = 10 ∧ i = 143
    · rw [if_pos q1, if_pos q1, gj_sj, if_neg (by omega), if_neg (by omega)]
    · rw [if_neg q1, if_neg q1, gj_sj]
  · rw [k_X8_take]; show M.2.2 = (s_X8_take M cn k).2.2; exact k_X8_take.symm
/-- copy k changes, on both sides -/
theorem Cx.cop {n tc ac cn k : Nat} {Z : zZ} {S S' M M' : zS} (h : Cx n tc ac cn Z S M) (hk : k < n) (hr : S'.2.2 = S.2.2)
    (hi : ∀ K i f, ¬ (K = 3 ∧ i = k) → ¬ (K = 6 ∧ i = k) → gi S' K i f = gi S K i f) (hj : ∀ K i f, ¬ (K = 6 ∧ i = k) → gj S' K i f = gj S K i f)
    (mi : ∀ K i f, ¬ (K = 9 ∧ 102 ≤ i ∧ i ≤ 105 ∧ f = k) → gi M' K i f = gi M K i f) (mj : ∀ K i f, ¬ (i = 101 ∧ f = k) → gj M' K i f = gj M K i f) (hp : cqP1 S' M' k) (hv : ivP1 tc S' k) : Cx n tc ac cn Z S' M' := by
  obtain ⟨hV, ⟨i1, i2, i3, i4, i5, i6, i7⟩, ⟨g1, g2, g3, g4, g5, g6, g7, g8⟩⟩ := h
  have hn7 := hV.n7
  have er : ∀ k i f, gr S' k i f = gr S k i f := fun k i f => gr_of hr
  refine ⟨hV.of hr, ⟨?_, fun k' hk' => ?_, ?_, fun a ha => ?_, fun c hc4 => ?_, fun j hj2 => ?_, fun j hj2 => ?_⟩, ⟨?_, fun k' hk' => ?_, fun t ht => ?_, fun c hc4 => ?_, fun c hc4 => ?_, fun a ha => ?_, fun j hj2 => ?_, fun i hi2 => ?_⟩⟩
  · obtain ⟨a1, a2, a3, a4, a5, a6, a7⟩ := i1
    exact ⟨a1, a2, a3, a4, by rw [hi _ _ _ (by omega) (by omega)]; exact a5, by rw [hi _ _ _ (by omega) (by omega)]; exact a6, by rw [hi _ _ _ (by omega) (by omega)]; exact a7⟩
  · by_cases e : k' = k
    · subst e; exact hv
    · exact (i2 k' hk').tr (fun f => hi _ _ _ (by omega) (by omega))
  · rw [hr]; exact i3
  · have := i4 a ha
    unfold ivA1 at this ⊢
    rw [hi _ _ _ (by omega) (by omega)]
    exact this
  · exact (i5 c hc4).tr (er _ _ _) (fun f _ _ => hi _ _ _ (by omega) (by omega)) (fun a _ f => ⟨hi _ _ _ (by omega) (by omega), hj _ _ _ (by omega)⟩) (fun f => ⟨hi _ _ _ (by omega) (by omega), hj _ _ _ (by omega)⟩)
  · rw [hr]
    exact (i6 j hj2).tr (fun f => hi _ _ _ (by omega) (by omega)) (fun c _ => er _ _ _) (fun c _ => ⟨hi _ _ _ (by omega) (by omega), hi _ _ _ (by omega) (by omega)⟩)
  · rw [hi _ _ _ (by omega) (by omega)]; exact i7 j hj2
  · obtain ⟨a1, a2, a3, a4, a5, a6⟩ := g1
    unfold cqG
    rw [mi _ _ _ (by omega), mi _ _ _ (by omega), mi _ _ _ (by omega), mi _ _ _ (by omega), mi _ _ _ (by omega), mi _ _ _ (by omega), hi _ _ _ (by omega) (by omega), hi _ _ _ (by omega) (by omega), hi _ _ _ (by omega) (by omega), hi _ _ _ (by omega) (by omega), hi _ _ _ (by omega) (by omega)]
    exact ⟨a1, a2, a3, a4, a5, a6⟩
  · by_cases e : k' = k
    · subst e; exact hp
    · exact (g2 k' hk').tr (fun f => ⟨hi _ _ _ (by omega) (by omega), hj _ _ _ (by omega)⟩) (fun f => hi _ _ _ (by omega) (by omega)) (hi _ _ _ (by omega) (by omega)) (fun i q1 q2 => mi _ _ _ (by omega)) (mi _ _ _ (by omega)) (mj _ _ _ (by omega))
  · exact (g3 t ht).tr (fun f => hi _ _ _ (by omega) (by omega)) (fun f => hi _ _ _ (by omega) (by omega)) (fun i _ => mi _ _ _ (by omega)) hn7
  · exact (g4 c hc4).tr (fun f => hi _ _ _ (by omega) (by omega)) (fun i q1 q2 => mi _ _ _ (by omega))
  · exact (g5 c hc4).tr (er _ _ _) (hi _ _ _ (by omega) (by omega)) (fun a _ => hi _ _ _ (by omega) (by omega)) (fun f => ⟨hi _ _ _ (by omega) (by omega), hj _ _ _ (by omega)⟩) (mi _ _ _ (by omega)) (fun i q1 q2 => mi _ _ _ (by omega)) (mj _ _ _ (by omega))
  · exact (g6 a ha).tr (fun f => ⟨hi _ _ _ (by omega) (by omega), hj _ _ _ (by omega)⟩) (fun i q1 q2 => mi _ _ _ (by omega)) (mj _ _ _ (by omega))
  · rw [hr]
    exact (g7 j hj2).tr (fun f => hi _ _ _ (by omega) (by omega)) (fun f => ⟨hi _ _ _ (by omega) (by omega), hj _ _ _ (by omega)⟩) (fun i q1 q2 => mi _ _ _ (by omega)) (mi _ _ _ (by omega)) (mj _ _ _ (by omega))
  · rw [mi _ _ _ (by omega)]; exact g8 i hi2
/-- what a request with these values does to copy k of the reference -/
noncomputable def mObV (M : zS) (k : Nat) (ph t a b : Int32) (v : Int64) (g : Int32) (la ba : Int32) : zS :=
  pif (ph = 2) (pif (g = 0) M (sj (si (si M 9 102 k a) 9 103 k b) 10 101 k v))
    (pif (ph = 4) (pif (g = 0) M (sj (si (si M 9 102 k a) 9 103 k b) 10 101 k v))
      (pif (ph = 3) (pif (t ≤ la) M (si M 9 105 k t))
        (pif (ph = 5) (pif (t ≤ la) (pif (t ≤ ba) M (si M 9 104 k t)) (pif (t ≤ ba) (si M 9 105 k t) (si (si M 9 105 k t) 9 104 k t))) M)))
noncomputable def mRp (S : zS) (k : Nat) (U : zS) : zS := s_X8_put (s_X8_take U (ix (gi S 8 0 44)) k) ((ix (gi S 8 0 44)) - 1) (1) (gi S 9 (133) (k)) (gi S 9 (134) (k)) (gi S 9 (135) (k)) (gi S 9 (136) (k)) (gi S 9 (137) (k)) (gi (s_X8_take U (ix (gi S 8 0 44)) k) 9 (102) (ix (gi S 9 (133) (k)))) (gi (s_X8_take U (ix (gi S 8 0 44)) k) 9 (103) (ix (gi S 9 (133) (k)))) (gj (s_X8_take U (ix (gi S 8 0 44)) k) 10 (101) (ix (gi S 9 (133) (k)))) ((-1)) (gi (s_X8_take U (ix (gi S 8 0 44)) k) 9 (104) (ix (gi S 9 (133) (k)))) (gi (s_X8_take U (ix (gi S 8 0 44)) k) 9 (105) (ix (gi S 9 (133) (k))))
theorem request_eq (S : zS) (n k : Nat) : s_X8_request S n k = mRp S k (mObV S (ix (gi S 9 133 k)) (gi S 9 136 k) (gi S 9 140 k) (gi S 9 138 k) (gi S 9 139 k) (gj S 10 143 k) (r_X8_isGreater S (gi S 9 138 k) (gi S 9 139 k) (gi S 9 102 (ix (gi S 9 133 k))) (gi S 9 103 (ix (gi S 9 133 k)))) (gi S 9 105 (ix (gi S 9 133 k))) (gi S 9 104 (ix (gi S 9 133 k)))) := by
  unfold mObV
  simp only [app_pif (mRp S k)]
  rfl
theorem mtk_ob {M : zS} {cn i k : Nat} {ph t a b g la ba : Int32} {v : Int64} (hi : i < cn) : s_X8_take (mObV M k ph t a b v g la ba) cn i = mObV (s_X8_take M cn i) k ph t a b v g la ba := by
  unfold mObV
  simp only [app_pif (fun M => s_X8_take M cn i)]
  rw [mtk_sj hi (by omega), mtk_si hi (by omega) (by omega), mtk_si hi (by omega) (by omega), mtk_si hi (by omega) (by omega), mtk_si hi (by omega) (by omega), mtk_si hi (by omega) (by omega), mtk_si hi (by omega) (by omega)]
