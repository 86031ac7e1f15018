/-! how much can still be delivered: a measure of the reference's state -/
def pw (M : zS) (j : Nat) : Nat := if gi M 11 132 j = 0 then 2 else 1
def pS (M : zS) : Nat → Nat
  | 0 => 0
  | j + 1 => pS M j + pw M j
def rkV (d p b : Int32) : Nat := if d < 0 then 0 else if p = 1 then 2 + (15 - ix b) else if p = 3 then 2 else if p = 4 then 1 else 0
def rk (M : zS) (c : Nat) : Nat := rkV (gi M 9 111 c) (gi M 9 112 c) (gi M 9 114 c)
def pot (M : zS) : Nat := pS M (ix (gi M 8 0 44)) + 14 * (rk M 0 + rk M 1 + rk M 2 + rk M 3)
theorem pw_le (M : zS) (j : Nat) : 1 ≤ pw M j ∧ pw M j ≤ 2 := by
  unfold pw; split <;> omega
theorem rk_le (M : zS) (c : Nat) : rk M c ≤ 17 := by
  unfold rk rkV
  (repeat' split) <;> omega
theorem pS_le (M : zS) : ∀ m, pS M m ≤ 2 * m := by
  intro m
  induction m with
  | zero => exact Nat.le_refl _
  | succ m ih =>
    show pS M m + pw M m ≤ _
    have := (pw_le M m).2
    omega
theorem pot_le {M : zS} {cn : Nat} (hcn : gi M 8 0 44 = nI cn) (h3 : cn ≤ 300) : pot M ≤ 1552 := by
  unfold pot
  rw [hcn, ix_nI (by omega)]
  have := pS_le M cn
  have := rk_le M 0
  have := rk_le M 1
  have := rk_le M 2
  have := rk_le M 3
  omega
theorem pS_eq {M M' : zS} : ∀ m, (∀ j, j < m → gi M' 11 132 j = gi M 11 132 j) → pS M' m = pS M m := by
  intro m
  induction m with
  | zero => intro _; rfl
  | succ m ih =>
    intro h
    show pS M' m + pw M' m = pS M m + pw M m
    rw [ih (fun j hj => h j (by omega))]
    unfold pw
    rw [h m (by omega)]
theorem pot_cli {M M' : zS} {c : Nat} (hc : c < 4) (e1 : ∀ j, gi M' 11 132 j = gi M 11 132 j) (e2 : gi M' 8 0 44 = gi M 8 0 44) (e3 : ∀ c', c' ≠ c → rk M' c' = rk M c') : pot M' + 14 * rk M c = pot M + 14 * rk M' c := by
  unfold pot
  rw [e2, pS_eq _ (fun j _ => e1 j)]
  have : c = 0 ∨ c = 1 ∨ c = 2 ∨ c = 3 := by omega
  rcases this with rfl | rfl | rfl | rfl
  · rw [e3 1 (by omega), e3 2 (by omega), e3 3 (by omega)]; omega
  · rw [e3 0 (by omega), e3 2 (by omega), e3 3 (by omega)]; omega
  · rw [e3 0 (by omega), e3 1 (by omega), e3 3 (by omega)]; omega
  · rw [e3 0 (by omega), e3 1 (by omega), e3 2 (by omega)]; omega
theorem rk_eq {M M' : zS} {c : Nat} (e1 : gi M' 9 111 c = gi M 9 111 c) (e2 : gi M' 9 112 c = gi M 9 112 c) (e3 : gi M' 9 114 c = gi M 9 114 c) : rk M' c = rk M c := by
  unfold rk; rw [e1, e2, e3]
theorem pot_eq {M M' : zS} (e1 : ∀ j, gi M' 11 132 j = gi M 11 132 j) (e2 : gi M' 8 0 44 = gi M 8 0 44) (e3 : ∀ c, rk M' c = rk M c) : pot M' = pot M := by
  unfold pot
  rw [e2, pS_eq _ (fun j _ => e1 j), e3, e3, e3, e3]
theorem pot_put {M : zS} {cn : Nat} {x1 x2 x3 x4 x5 x6 x7 x8 : Int32} {v : Int64} {x9 x10 x11 : Int32} (hcn : gi M 8 0 44 = nI cn) (h3 : cn ≤ 300) : pot (s_X8_put M cn x1 x2 x3 x4 x5 x6 x7 x8 v x9 x10 x11) ≤ pot M + (if x1 = 0 then 2 else 1) := by
  by_cases h : cn < 300
  · obtain ⟨p1, -, p3, q1, -⟩ := @put_pic M cn x1 x2 x3 x4 x5 x6 x7 x8 v x9 x10 x11 h
    generalize s_X8_put M cn x1 x2 x3 x4 x5 x6 x7 x8 v x9 x10 x11 = M' at *
    have er : ∀ c, rk M' c = rk M c := fun c => rk_eq (p1 _ _ _ (by omega) (by omega)) (p1 _ _ _ (by omega) (by omega)) (p1 _ _ _ (by omega) (by omega))
    unfold pot
    rw [p3, ix_nI (by omega), hcn, ix_nI (by omega), er, er, er, er]
    have e : pS M' (cn + 1) = pS M cn + (if x1 = 0 then 2 else 1) := by
      show pS M' cn + pw M' cn = _
      rw [pS_eq cn (fun j hj => p1 _ _ _ (by omega) (by omega))]
      unfold pw
      rw [q1]
    omega
  · have e3 : cn = 300 := by omega
    subst e3
    have e : pot (s_X8_put M 300 x1 x2 x3 x4 x5 x6 x7 x8 v x9 x10 x11) = pot M := by
      unfold s_X8_put
      rw [pif_pos (by decide)]
      exact pot_eq (fun j => by rw [gi_si, if_neg (by omega)]) (by rw [gi_si, if_neg (by omega)]) (fun c => rk_eq (by rw [gi_si, if_neg (by omega)]) (by rw [gi_si, if_neg (by omega)]) (by rw [gi_si, if_neg (by omega)]))
    omega
theorem pS_take {M : zS} {cn i : Nat} (hi : i < cn) : ∀ m, m + 1 ≤ cn → (m ≤ i → pS (s_X8_take M cn i) m = pS M m) ∧ (i ≤ m → pS (s_X8_take M cn i) m + pw M i = pS M (m + 1)) := by
  intro m
  induction m with
  | zero =>
    intro h
    refine ⟨fun _ => rfl, fun h0 => ?_⟩
    have : i = 0 := by omega
    subst this
    show 0 + pw M 0 = 0 + pw M 0
    rfl
  | succ m ih =>
    intro h
    obtain ⟨a1, a2⟩ := ih (by omega)
    refine ⟨fun h0 => ?_, fun h0 => ?_⟩
    · show pS (s_X8_take M cn i) m + pw (s_X8_take M cn i) m = pS M m + pw M m
      rw [a1 (by omega)]
      have e0 : gi (s_X8_take M cn i) 11 132 m = gi M 11 132 m := by rw [mtk_gi hi, if_neg (by omega), if_neg (by omega)]
      unfold pw
      rw [e0]
    · show pS (s_X8_take M cn i) m + pw (s_X8_take M cn i) m + pw M i = pS M (m + 1) + pw M (m + 1)
      by_cases hm : i ≤ m
      · have e : pw (s_X8_take M cn i) m = pw M (m + 1) := by
          have e0 : gi (s_X8_take M cn i) 11 132 m = gi M 11 132 (m + 1) := by rw [mtk_gi hi, if_pos (by omega)]
          unfold pw
          rw [e0]
        have := a2 hm
        omega
      · have hmi : i = m + 1 := by omega
        have e : pw (s_X8_take M cn i) m = pw M m := by
          have e0 : gi (s_X8_take M cn i) 11 132 m = gi M 11 132 m := by rw [mtk_gi hi, if_neg (by omega), if_neg (by omega)]
          unfold pw
          rw [e0]
        have e2 : pS M (m + 1) = pS M m + pw M m := rfl
        have := a1 (by omega)
        have hpw : pw M i = pw M (m + 1) := by rw [hmi]
        omega
theorem pot_take {M : zS} {cn i : Nat} (hi : i < cn) (hcn : gi M 8 0 44 = nI cn) (h3 : cn ≤ 300) : pot (s_X8_take M cn i) + pw M i = pot M := by
  have er : ∀ c, rk (s_X8_take M cn i) c = rk M c := fun c => rk_eq (by rw [mtk_gi hi, if_neg (by omega), if_neg (by omega)]) (by rw [mtk_gi hi, if_neg (by omega), if_neg (by omega)]) (by rw [mtk_gi hi, if_neg (by omega), if_neg (by omega)])
  have ec : gi (s_X8_take M cn i) 8 0 44 = nI (cn - 1) := by rw [mtk_gi hi, if_neg (by omega), if_pos ⟨rfl, rfl, rfl⟩]
  unfold pot
  rw [ec, ix_nI (by omega), hcn, ix_nI (by omega), er, er, er, er]
  have := (pS_take hi (M := M) (cn - 1) (by omega)).2 (by omega)
  rw [show cn - 1 + 1 = cn by omega] at this
  omega
theorem pot_asks {x : Int32} : ∀ (f k : Nat) (T : zS), (gi T 8 0 44 = nI (ix (gi T 8 0 44)) ∧ ix (gi T 8 0 44) ≤ 300) → pot (lAsk x f k T) ≤ pot T + 2 * f := by
  intro f
  induction f with
  | zero => intro k T _; exact Nat.le_refl _
  | succ f ih =>
    intro k T hT
    show pot (lAsk x f (k + 1) (s_X8_ask T (ix (gi T 8 0 44)) x (nI k))) ≤ _
    obtain ⟨-, -, ⟨c2, g1, g2⟩, -⟩ := ask_gi (x := x) (y := nI k) hT.1 hT.2
    have h1 := ih (k + 1) _ (cnI g1 g2)
    obtain ⟨x4, x5, x6, x7, x8, v, x9, e⟩ := @ask_put T (ix (gi T 8 0 44)) x (nI k)
    have h2 : pot (s_X8_ask T (ix (gi T 8 0 44)) x (nI k)) ≤ pot T + 2 := by
      rw [e]; exact pot_put hT.1 hT.2
    omega
theorem pot_begin {M : zS} {n c cn : Nat} {y : Int32} (hc : c < 4) (hn : n ≤ 7) (hcn : gi M 8 0 44 = nI cn) (h3 : cn ≤ 300) : pot (s_X8_beginPhase M n (nI c) y) ≤ pot (mPr M c y) + 14 := by
  unfold s_X8_beginPhase
  rw [ix_nI (by omega)]
  have hm : gi (mPr M c y) 8 0 44 = nI cn := by unfold mPr; rw [gi_si, if_neg (by omega), gi_si, if_neg (by omega), gi_si, if_neg (by omega)]; exact hcn
  have := pot_asks (x := nI c) n 0 (mPr M c y) (cnI h3 hm)
  exact Nat.le_trans this (by omega)
/-- the next phase's rank -/
theorem pot_prep {M N : zS} {c : Nat} {y : Int32} (hc : c < 4) (e1 : ∀ j, gi N 11 132 j = gi M 11 132 j) (e2 : gi N 8 0 44 = gi M 8 0 44) (e3 : ∀ c', c' ≠ c → rk N c' = rk M c') : pot (mPr N c y) + 14 * rk M c = pot M + 14 * rkV (gi N 9 111 c) y (gi N 9 114 c) := by
  have o : ∀ K i f, ¬ (K = 9 ∧ f = c ∧ (i = 112 ∨ i = 113 ∨ i = 117)) → gi (mPr N c y) K i f = gi N K i f := fun K i f q => by unfold mPr; rw [gi_si, if_neg (by omega), gi_si, if_neg (by omega), gi_si, if_neg (by omega)]
  have w : gi (mPr N c y) 9 112 c = y := by unfold mPr; rw [gi_si, if_neg (by omega), gi_si, if_neg (by omega), gi_si, if_pos ⟨rfl, rfl, rfl⟩]
  have := pot_cli (M := M) (M' := mPr N c y) hc (fun j => by rw [o _ _ _ (by omega)]; exact e1 j) (by rw [o _ _ _ (by omega)]; exact e2) (fun c' q => by rw [← e3 c' q]; exact rk_eq (o _ _ _ (by omega)) (o _ _ _ (by omega)) (o _ _ _ (by omega)))
  rw [this]
  unfold rk
  rw [w, o _ _ _ (by omega), o _ _ _ (by omega)]
theorem rkV_n {d p b : Int32} (h : d < 0) : rkV d p b = 0 := by unfold rkV; rw [if_pos h]
theorem rkV_1 {d b : Int32} (h : ¬ d < 0) : rkV d 1 b = 2 + (15 - ix b) := by unfold rkV; rw [if_neg h, if_pos rfl]
theorem rkV_2 {d b : Int32} (h : ¬ d < 0) : rkV d 2 b = 0 := by unfold rkV; rw [if_neg h, if_neg (by decide), if_neg (by decide), if_neg (by decide)]
theorem rkV_3 {d b : Int32} (h : ¬ d < 0) : rkV d 3 b = 2 := by unfold rkV; rw [if_neg h, if_neg (by decide), if_pos rfl]
theorem rkV_4 {d b : Int32} (h : ¬ d < 0) : rkV d 4 b = 1 := by unfold rkV; rw [if_neg h, if_neg (by decide), if_neg (by decide), if_pos rfl]
theorem rkV_5 {d b : Int32} (h : ¬ d < 0) : rkV d 5 b = 0 := by unfold rkV; rw [if_neg h, if_neg (by decide), if_neg (by decide), if_neg (by decide)]
theorem pot_end {M N : zS} {c : Nat} (hc : c < 4) (e1 : ∀ j, gi N 11 132 j = gi M 11 132 j) (e2 : gi N 8 0 44 = gi M 8 0 44) (e3 : ∀ c', c' ≠ c → rk N c' = rk M c') : pot (s_X8_end N (nI c)) ≤ pot M := by
  have o : ∀ K i f, ¬ (K = 9 ∧ f = c) → gi (s_X8_end N (nI c)) K i f = gi N K i f := fun K i f q => by unfold s_X8_end; rw [ix_nI (by omega), gi_si, if_neg (by omega), gi_si, if_neg (by omega), gi_si, if_neg (by omega)]
  have w : gi (s_X8_end N (nI c)) 9 111 c = -1 := by unfold s_X8_end; rw [ix_nI (by omega), gi_si, if_neg (by omega), gi_si, if_neg (by omega), gi_si, if_pos ⟨rfl, rfl, rfl⟩]
  have h0 : rk (s_X8_end N (nI c)) c = 0 := by unfold rk; rw [w]; exact rkV_n (by decide)
  have := pot_cli (M := M) (M' := s_X8_end N (nI c)) hc (fun j => by rw [o _ _ _ (by omega)]; exact e1 j) (by rw [o _ _ _ (by omega)]; exact e2) (fun c' q => by rw [← e3 c' q]; exact rk_eq (o _ _ _ (by omega)) (o _ _ _ (by omega)) (o _ _ _ (by omega)))
  omega
theorem pot_finish {M : zS} {c : Nat} (hc : c < 4) : pot (s_X8_finish M (nI c)) ≤ pot M := by
  unfold s_X8_finish
  by_cases h : gi M 9 121 (ix (gi M 9 111 (ix (nI c)))) = 0
  · rw [pif_pos h]
    refine pot_end hc (fun j => by rw [gi_sj, gi_si, if_neg (by omega), gi_si, if_neg (by omega), gi_si, if_neg (by omega)]) (by rw [gi_sj, gi_si, if_neg (by omega), gi_si, if_neg (by omega), gi_si, if_neg (by omega)]) (fun c' _ => rk_eq ?_ ?_ ?_)
    · rw [gi_sj, gi_si, if_neg (by omega), gi_si, if_neg (by omega), gi_si, if_neg (by omega)]
    · rw [gi_sj, gi_si, if_neg (by omega), gi_si, if_neg (by omega), gi_si, if_neg (by omega)]
    · rw [gi_sj, gi_si, if_neg (by omega), gi_si, if_neg (by omega), gi_si, if_neg (by omega)]
  · rw [pif_neg h]
    refine pot_end hc (fun j => by rw [gi_si, if_neg (by omega)]) (by rw [gi_si, if_neg (by omega)]) (fun c' _ => rk_eq ?_ ?_ ?_)
    · rw [gi_si, if_neg (by omega)]
    · rw [gi_si, if_neg (by omega)]
    · rw [gi_si, if_neg (by omega)]
/-- a phase is followed by one of a smaller rank -/
theorem pot_next {M N : zS} {n c cn : Nat} {y : Int32} (hc : c < 4) (hn : n ≤ 7) (hcn : gi M 8 0 44 = nI cn) (h3 : cn ≤ 300) (e1 : ∀ j, gi N 11 132 j = gi M 11 132 j) (e2 : gi N 8 0 44 = gi M 8 0 44) (e3 : ∀ c', c' ≠ c → rk N c' = rk M c') (hr : rkV (gi N 9 111 c) y (gi N 9 114 c) + 1 ≤ rk M c) : pot (s_X8_beginPhase N n (nI c) y) ≤ pot M := by
  have h1 := pot_begin (M := N) (y := y) hc hn (e2.trans hcn) h3
  have h2 := pot_prep (y := y) hc e1 e2 e3
  omega
