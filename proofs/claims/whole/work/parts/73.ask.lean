theorem n300 {cn : Nat} (h : cn < 300) : ¬ nI cn = 300 := fun e => by
  have e2 := congrArg ix e
  rw [ix_nI (by omega)] at e2
  have e3 : ix 300 = 300 := rfl
  omega
theorem l300 {cn : Nat} (h : cn < 300) : nI cn < 300 := nI_lt (b := 300) h (by decide)
theorem put_pic {M : zS} {cn : Nat} {x1 x2 x3 x4 x5 x6 x7 x8 : Int32} {v : Int64} {x9 x10 x11 : Int32} (h : cn < 300) :
    (∀ k i f, ¬ (132 ≤ i ∧ i ≤ 143 ∧ f = cn) → ¬ (k = 8 ∧ i = 0 ∧ f = 44) → gi (s_X8_put M cn x1 x2 x3 x4 x5 x6 x7 x8 v x9 x10 x11) k i f = gi M k i f) ∧
    (∀ k i f, ¬ (i = 143 ∧ f = cn) → gj (s_X8_put M cn x1 x2 x3 x4 x5 x6 x7 x8 v x9 x10 x11) k i f = gj M k i f) ∧ gi (s_X8_put M cn x1 x2 x3 x4 x5 x6 x7 x8 v x9 x10 x11) 8 0 44 = nI (cn + 1) ∧
    (gi (s_X8_put M cn x1 x2 x3 x4 x5 x6 x7 x8 v x9 x10 x11) 11 132 cn = x1 ∧ gi (s_X8_put M cn x1 x2 x3 x4 x5 x6 x7 x8 v x9 x10 x11) 9 133 cn = x2 ∧ gi (s_X8_put M cn x1 x2 x3 x4 x5 x6 x7 x8 v x9 x10 x11) 9 134 cn = x3 ∧ gi (s_X8_put M cn x1 x2 x3 x4 x5 x6 x7 x8 v x9 x10 x11) 9 135 cn = x4 ∧ gi (s_X8_put M cn x1 x2 x3 x4 x5 x6 x7 x8 v x9 x10 x11) 9 136 cn = x5 ∧ gi (s_X8_put M cn x1 x2 x3 x4 x5 x6 x7 x8 v x9 x10 x11) 9 137 cn = x6 ∧ gi (s_X8_put M cn x1 x2 x3 x4 x5 x6 x7 x8 v x9 x10 x11) 9 138 cn = x7 ∧ gi (s_X8_put M cn x1 x2 x3 x4 x5 x6 x7 x8 v x9 x10 x11) 9 139 cn = x8 ∧ gj (s_X8_put M cn x1 x2 x3 x4 x5 x6 x7 x8 v x9 x10 x11) 10 143 cn = v ∧ gi (s_X8_put M cn x1 x2 x3 x4 x5 x6 x7 x8 v x9 x10 x11) 9 140 cn = x9 ∧ gi (s_X8_put M cn x1 x2 x3 x4 x5 x6 x7 x8 v x9 x10 x11) 9 141 cn = x10 ∧ gi (s_X8_put M cn x1 x2 x3 x4 x5 x6 x7 x8 v x9 x10 x11) 9 142 cn = x11) := by
  unfold s_X8_put
  rw [pif_neg (n300 h)]
  refine ⟨fun k i f q1 q2 => ?_, fun k i f q => ?_, ?_, ?_⟩
  · rw [gi_si, if_neg (by omega), gi_si, if_neg (by omega), gi_si, if_neg (by omega), gi_si, if_neg (by omega), gi_sj, gi_si, if_neg (by omega), gi_si, if_neg (by omega), gi_si, if_neg (by omega), gi_si, if_neg (by omega), gi_si, if_neg (by omega), gi_si, if_neg (by omega), gi_si, if_neg (by omega), gi_si, if_neg (by omega)]
  · rw [gj_si, gj_si, gj_si, gj_si, gj_sj, if_neg (by omega), gj_si, gj_si, gj_si, gj_si, gj_si, gj_si, gj_si, gj_si]
  · rw [gi_si, if_pos ⟨rfl, rfl, rfl⟩]
  · simp [gi_si, gi_sj, gj_si, gj_sj]
/-- a request laid at row p, but for its version -/
noncomputable def sqB (S : zS) (p c a : Nat) (x v : Int32) : zS := (si (si (si (si (si (si (si (si (si S 1 (0) (2) ((gi S 1 (0) (2)) + 1)) 4 (p) (1) (0)) 4 (p) (2) (x)) 4 (p) (3) (gi S 2 (c) (0))) 4 (p) (4) (gi S 0 (a) (0))) 4 (p) (5) (gi S 2 (c) (3))) 4 (p) (6) (gi S 2 (c) (4))) 4 (p) (7) ((-1))) 4 (p) (8) (v))
theorem sqB_gi {S : zS} {p c a : Nat} {x v : Int32} : (∀ k i f, ¬ (k = 4 ∧ i = p) → ¬ (k = 1 ∧ i = 0 ∧ f = 2) → gi (sqB S p c a x v) k i f = gi S k i f) ∧ (∀ k i f, gj (sqB S p c a x v) k i f = gj S k i f) ∧ gi (sqB S p c a x v) 1 0 2 = gi S 1 0 2 + 1 ∧
    (gi (sqB S p c a x v) 4 p 1 = 0 ∧ gi (sqB S p c a x v) 4 p 2 = x ∧ gi (sqB S p c a x v) 4 p 3 = gi S 2 c 0 ∧ gi (sqB S p c a x v) 4 p 4 = gi S 0 a 0 ∧ gi (sqB S p c a x v) 4 p 5 = gi S 2 c 3 ∧ gi (sqB S p c a x v) 4 p 6 = gi S 2 c 4 ∧ gi (sqB S p c a x v) 4 p 8 = v) := by
  unfold sqB
  refine ⟨fun k i f q1 q2 => ?_, fun k i f => rfl, rfl, ?_⟩
  · rw [gi_si, if_neg (by omega), gi_si, if_neg (by omega), gi_si, if_neg (by omega), gi_si, if_neg (by omega), gi_si, if_neg (by omega), gi_si, if_neg (by omega), gi_si, if_neg (by omega), gi_si, if_neg (by omega), gi_si, if_neg (by omega)]
  · simp [gi_si]
theorem set6_gi (S : zS) (i j k i' f : Nat) : gi (s_X6_set S i j) k i' f = if k = 6 ∧ i' = i ∧ f = 1 then gi S 6 j 1 else if k = 6 ∧ i' = i ∧ f = 0 then gi S 6 j 0 else gi S k i' f := by
  unfold s_X6_set; rw [gi_sj, gi_si, gi_si]
theorem set6_gj (S : zS) (i j k i' f : Nat) : gj (s_X6_set S i j) k i' f = if k = 6 ∧ i' = i ∧ f = 2 then gj S 6 j 2 else gj S k i' f := by
  unfold s_X6_set; rw [gj_sj, gj_si, gj_si]
theorem put6_gi (S : zS) (i : Nat) (x y : Int32) (v : Int64) (k i' f : Nat) : gi (s_X6_put S i x y v) k i' f = if k = 6 ∧ i' = i ∧ f = 1 then y else if k = 6 ∧ i' = i ∧ f = 0 then x else gi S k i' f := by
  unfold s_X6_put; rw [gi_sj, gi_si, gi_si]
theorem put6_gj (S : zS) (i : Nat) (x y : Int32) (v : Int64) (k i' f : Nat) : gj (s_X6_put S i x y v) k i' f = if k = 6 ∧ i' = i ∧ f = 2 then v else gj S k i' f := by
  unfold s_X6_put; rw [gj_sj, gj_si, gj_si]
/-- a request appended on both sides, out of what was laid: T the class's state, W the values of its version -/
theorem Cx.req {n tc ac cn c a k : Nat} {Z : zZ} {S S' M : zS} {v w1 w2 t : Int32} {w3 : Int64} (h : Cx n tc ac cn Z S M) (hcn : cn < 300) (hc : c < 4) (ha : gr S 2 c 2 = some a) (hk : k < n)
    (e : S' = s_X6_put (sqB S (pmR S.2.2 cn) c a (nI k) v) (20 + pmR S.2.2 cn) w1 w2 w3) (hv : v = t) (ht : gi S 2 c 3 = 3 ∨ gi S 2 c 3 = 5 → ivN tc v) :
    Cx n tc ac (cn + 1) Z S' (s_X8_put M cn 0 (nI k) (nI c) (gi M 9 111 c) (gi M 9 112 c) (gi M 9 113 c) w1 w2 w3 t 0 0) := by
  obtain ⟨b1, b2, b3, b4, b5, b6, b7, b8, b9, b10⟩ := @sqB_gi S (pmR S.2.2 cn) c a (nI k) v
  obtain ⟨p1, p2, p3, q1, q2, q3, q4, q5, q6, q7, q8, q9, q10, q11, q12⟩ := @put_pic M cn 0 (nI k) (nI c) (gi M 9 111 c) (gi M 9 112 c) (gi M 9 113 c) w1 w2 w3 t 0 0 hcn
  have hS : (sqB S (pmR S.2.2 cn) c a (nI k) v).2.2 = S.2.2 := rfl
  generalize sqB S (pmR S.2.2 cn) c a (nI k) v = B at *
  generalize s_X8_put M cn 0 (nI k) (nI c) (gi M 9 111 c) (gi M 9 112 c) (gi M 9 113 c) w1 w2 w3 t 0 0 = M' at *
  have hcq := h.2.2.2.2.2.1 c hc
  have hdq := (h.2.2.2.2.2.2.1 c hc).2 a ha
  have hci := h.2.1.2.2.2.2.1 c hc
  have hdi := hci.2.2.2 a ha
  have haq := h.2.2.2.2.2.2.2.1 a hdi.1
  generalize hp : pmR S.2.2 cn = p at *
  subst e
  have f4 : ∀ f, gi (s_X6_put B (20 + p) w1 w2 w3) 4 p f = gi B 4 p f := fun f => by rw [put6_gi, if_neg (by omega), if_neg (by omega)]
  have o4 : ∀ k i f, ¬ (k = 6 ∧ i = 20 + p) → gi (s_X6_put B (20 + p) w1 w2 w3) k i f = gi B k i f := fun k i f q => by rw [put6_gi, if_neg (by omega), if_neg (by omega)]
  refine h.app hcn hp.symm hS (fun k i f r1 r2 r3 => by rw [o4 _ _ _ r2, b1 _ _ _ r1 r3]) (fun k i f r => by rw [put6_gj, if_neg (by omega), b2]) p1 p2 (by rw [o4 _ _ _ (by omega), b3, h.cn, nI_1]) p3 ?_ ?_ ?_
  · refine ⟨?_, ?_, ?_, ?_, ?_, ?_, ?_, ?_, ?_, fun _ => ⟨?_, q11, q12⟩, fun r => absurd (by rw [f4]; exact b4) r⟩
    · rw [f4, b5, q2]
    · rw [f4, b6, q3, hci.1]
    · rw [f4, b7, q4, hdq.1, haq.1]
    · rw [f4, b8, q5, hcq.1]
    · rw [f4, b9, q6, hcq.2.1]
    · rw [put6_gi, if_neg (by omega), if_pos ⟨rfl, rfl, rfl⟩, q7]
    · rw [put6_gi, if_pos ⟨rfl, rfl, rfl⟩, q8]
    · rw [put6_gj, if_pos ⟨rfl, rfl, rfl⟩, q9]
    · rw [f4, b4, q1]
    · rw [f4, b10, q10, hv]
  · refine ⟨k, c, a, hk, hc, hdi.1, by rw [f4, b5], by rw [f4, b6, hci.1], by rw [f4, b7, haq.1], fun _ r => ?_, fun r => absurd (by rw [f4]; exact b4) r, fun _ => ?_⟩
    · rw [f4, b8] at r
      rw [f4, b10]; exact ht r
    · obtain ⟨-, -, φ, r, b, d1, d2, d3, d4, d5, d6, -⟩ := hdi
      have := h.2.1.1.2.1.2
      refine ⟨r, r, by rw [o4 _ _ _ (by omega), b1 _ _ _ (by omega) (by omega), d2], by rw [f4, b9, d2], Nat.le_refl _, by omega, fun _ => by rw [f4, b8, o4 _ _ _ (by omega), b1 _ _ _ (by omega) (by omega)]⟩
  · rw [f4, b4]; exact isB_0
