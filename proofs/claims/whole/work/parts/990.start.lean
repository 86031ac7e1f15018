theorem lC1_gi : ∀ (f k : Nat) (T : zS) (K I x : Nat), gi (lC1 f k T) K I x = if K = 9 ∧ (I = 109 ∨ I = 108) ∧ k ≤ x ∧ x < k + f then 1 else gi T K I x := by
  intro f
  induction f with
  | zero => intro k T K I x; rw [if_neg (by omega)]; rfl
  | succ f ih =>
    intro k T K I x
    show gi (lC1 f (k + 1) (si (si T 9 (109) (k) (1)) 9 (108) (k) (1))) K I x = _
    rw [ih, gi_si, gi_si]
    by_cases q : K = 9 ∧ (I = 109 ∨ I = 108)
    · by_cases e : x = k
      · rw [if_neg (by omega)]
        by_cases h8 : I = 108
        · rw [if_pos ⟨q.1, h8, e⟩, if_pos (by omega)]
        · rw [if_neg (by omega), if_pos (by omega), if_pos (by omega)]
      · by_cases g : k + 1 ≤ x ∧ x < k + 1 + f
        · rw [if_pos (by omega), if_pos (by omega)]
        · rw [if_neg (by omega), if_neg (by omega), if_neg (by omega), if_neg (by omega)]
    · rw [if_neg (by omega), if_neg (by omega), if_neg (by omega), if_neg (by omega)]
theorem lC1_2 : ∀ (f k : Nat) (T : zS), (lC1 f k T).2 = T.2 := by
  intro f
  induction f with
  | zero => intro k T; rfl
  | succ f ih => intro k T; exact ih (k + 1) (si (si T 9 (109) (k) (1)) 9 (108) (k) (1))
theorem lC2_gi : ∀ (f k : Nat) (T : zS) (K I x : Nat), gi (lC2 f k T) K I x = if K = 9 ∧ I = 111 ∧ k ≤ x ∧ x < k + f then -1 else gi T K I x := by
  intro f
  induction f with
  | zero => intro k T K I x; rw [if_neg (by omega)]; rfl
  | succ f ih =>
    intro k T K I x
    show gi (lC2 f (k + 1) (si T 9 (111) (k) ((-1)))) K I x = _
    rw [ih, gi_si]
    by_cases q : K = 9 ∧ I = 111
    · by_cases e : x = k
      · rw [if_neg (by omega), if_pos ⟨q.1, q.2, e⟩, if_pos (by omega)]
      · by_cases g : k + 1 ≤ x ∧ x < k + 1 + f
        · rw [if_pos (by omega), if_pos (by omega)]
        · rw [if_neg (by omega), if_neg (by omega), if_neg (by omega)]
    · rw [if_neg (by omega), if_neg (by omega), if_neg (by omega)]
theorem lC2_2 : ∀ (f k : Nat) (T : zS), (lC2 f k T).2 = T.2 := by
  intro f
  induction f with
  | zero => intro k T; rfl
  | succ f ih => intro k T; exact ih (k + 1) (si T 9 (111) (k) ((-1)))
theorem mCt_gi {n : Nat} {T : zS} (K I x : Nat) : gi (mCt n T) K I x = if K = 9 ∧ I = 111 ∧ x < 4 then -1 else if K = 8 ∧ I = 0 ∧ x = 10 then 1 else if K = 9 ∧ I = 108 ∧ (x = 7 ∨ x = 8) then ((nI n) / (2)) + (1) else if K = 9 ∧ (I = 109 ∨ I = 108) ∧ x < n then 1 else if K = 8 ∧ I = 0 ∧ x = 0 then nI n else gi T K I x := by
  unfold mCt
  rw [lC2_gi, gi_si, gi_si, gi_si, lC1_gi, gi_si]
  by_cases h1 : K = 9 ∧ I = 111 ∧ x < 4
  · rw [if_pos (by omega), if_pos h1]
  · rw [if_neg (by omega), if_neg h1]
    by_cases h2 : K = 8 ∧ I = 0 ∧ x = 10
    · rw [if_pos h2, if_pos h2]
    · rw [if_neg h2, if_neg h2]
      by_cases h8 : K = 9 ∧ I = 108 ∧ x = 8
      · rw [if_pos h8, if_pos (by omega)]
      · rw [if_neg h8]
        by_cases h7 : K = 9 ∧ I = 108 ∧ x = 7
        · rw [if_pos h7, if_pos (by omega)]
        · rw [if_neg h7, if_neg (show ¬ (K = 9 ∧ I = 108 ∧ (x = 7 ∨ x = 8)) by omega)]
          by_cases h3 : K = 9 ∧ (I = 109 ∨ I = 108) ∧ x < n
          · rw [if_pos (by omega), if_pos h3]
          · rw [if_neg (by omega), if_neg h3]
theorem mCt_2 {n : Nat} {T : zS} : (mCt n T).2 = T.2 := by
  unfold mCt
  rw [lC2_2]
  show (lC1 n 0 (si T 8 0 0 (nI n))).2 = T.2
  rw [lC1_2]; rfl
theorem md_zero {Z Z' : zZ} {S T : zS} (h : mdI 45 Z S Z' T) (hz : zr S) : (∀ K I x, gi T K I x = 0) ∧ ∀ K I x, gj T K I x = 0 := by
  refine ⟨fun K I x => ?_, fun K I x => ?_⟩
  · by_cases q : isN 45 K I
    · obtain ⟨g, g1, g2, g3, g4⟩ := q
      rw [g3, g4]
      exact ((h.2.2 g g1 g2).2.2.2 x).1
    · rw [(h.2.1 K I x q).1]; exact (hz K I x).1
  · by_cases q : isN 45 K I
    · obtain ⟨g, g1, g2, g3, g4⟩ := q
      rw [g3, g4]
      exact ((h.2.2 g g1 g2).2.2.2 x).2
    · rw [(h.2.1 K I x q).2.1]; exact (hz K I x).2.1
theorem md_mOK {n : Nat} {Z Z' : zZ} {S T : zS} (h : mdI 45 Z S Z' T) (hd : Z.2.1 8 0) : mOK Z' (mCt n T).2.2 := by
  rw [show (mCt n T).2.2 = T.2.2 from congrArg Prod.snd mCt_2]
  refine ⟨((h.1 8 0 (fun ⟨g, _, _, _, q⟩ => by omega)).1).mpr hd, fun f h1 h2 => ⟨(h.2.2 f h1 h2).2.2.1, (h.2.2 f h1 h2).2.1⟩⟩
/-- the two objects as they are made -/
theorem x_start {n : Nat} {Z Zm Zm' : zZ} {S S0 T : zS} (hn : 1 ≤ n ∧ n ≤ 7) (h : vfP n Z S) (hm : mdI 45 Zm S0 Zm' T) (hz : zr S0) : Cx n 1 0 0 Z S (mCt n T) := by
  obtain ⟨hV, hf, ⟨g1, g2, g3, g4, g5⟩, hp, ⟨t1, t2⟩, hc, ⟨r1, r2⟩, r3, hb⟩ := h
  obtain ⟨z1, z2⟩ := md_zero hm hz
  have mg := fun K I x => mCt_gi (n := n) (T := T) K I x
  have mj : ∀ K I x, gj (mCt n T) K I x = 0 := fun K I x => by
    have : gj (mCt n T) K I x = gj T K I x := by unfold gj; rw [mCt_2]
    rw [this]; exact z2 K I x
  have m0 : ∀ K I x, ¬ (K = 9 ∧ I = 111 ∧ x < 4) → ¬ (K = 8 ∧ I = 0 ∧ (x = 10 ∨ x = 0)) → ¬ (K = 9 ∧ (I = 108 ∨ I = 109)) → gi (mCt n T) K I x = 0 := fun K I x q1 q2 q3 => by
    rw [mg, if_neg q1, if_neg (by omega), if_neg (by omega), if_neg (by omega), if_neg (by omega)]; exact z1 K I x
  have n0 : nI 0 = 0 := rfl
  have n1 : nI 1 = 1 := rfl
  have iv0 : ∀ x : Int32, x = 0 → ivN 1 x := fun x e => ⟨0, by omega, by rw [e]; rfl⟩
  refine ⟨hV, ⟨⟨hn, ⟨by omega, by omega⟩, by omega, by omega, g1, g2, g4⟩, fun k hk => ⟨iv0 _ ((hp k hk).1 1), iv0 _ ((hp k hk).1 2)⟩, ⟨fun t ht => ?_, fun t ht _ => r2 t ht, fun a ha => absurd ha (by omega), fun a _ _ => r3 a⟩, fun a ha => absurd ha (by omega), fun c hc4 => ⟨(hc c hc4).1, iv0 _ ((hc c hc4).2.1 6 (by omega)), iv0 _ ((hc c hc4).2.1 7 (by omega)), fun a ha => ?_⟩, fun j hj => absurd hj (by omega), fun j hj => ?_⟩, ⟨⟨?_, ?_, ?_, ?_, ?_, ?_⟩, fun k hk => ?_, fun t ht => ?_, fun c hc4 => ?_, fun c hc4 => ?_, fun a ha => absurd ha (by omega), fun j hj => absurd hj (by omega), fun i _ => ?_⟩⟩
  · have : t = 0 := by omega
    subst this; exact r1
  · have := (hc c hc4).2.2
    rw [this] at ha; cases ha
  · rw [hb j hj]; exact isB_0
  · rw [mg, if_neg (by omega), if_neg (by omega), if_neg (by omega), if_neg (by omega), if_pos ⟨rfl, rfl, rfl⟩]
  · rw [g1, mg, if_neg (by omega), if_pos ⟨rfl, rfl, rfl⟩]
  · rw [g2, m0 _ _ _ (by omega) (by omega) (by omega)]
  · rw [g3, m0 _ _ _ (by omega) (by omega) (by omega)]
  · rw [g4, m0 _ _ _ (by omega) (by omega) (by omega)]
  · rw [g5, m0 _ _ _ (by omega) (by omega) (by omega)]
  · obtain ⟨p1, p2, p3, p4, p5⟩ := hp k hk
    refine ⟨?_, ?_, ?_, ?_, ?_, ?_, ?_, ?_⟩
    · rw [p2, m0 _ _ _ (by omega) (by omega) (by omega)]
    · rw [p2, m0 _ _ _ (by omega) (by omega) (by omega)]
    · rw [p3, mj]
    · rw [p1, m0 _ _ _ (by omega) (by omega) (by omega)]
    · rw [p1, m0 _ _ _ (by omega) (by omega) (by omega)]
    · rw [p1, m0 _ _ _ (by omega) (by omega) (by omega)]
    · rw [p1, m0 _ _ _ (by omega) (by omega) (by omega)]
    · rw [p4, mg, if_neg (by omega), if_neg (by omega), if_neg (by omega), if_pos (by omega)]
  · have : t = 0 := by omega
    subst this
    refine ⟨fun k hk => ?_, ?_, ?_⟩
    · rw [(hp k hk).2.2.2.2, mg, if_neg (by omega), if_neg (by omega), if_neg (by omega), if_pos (by omega)]
    · rw [t1, mg, if_neg (by omega), if_neg (by omega), if_pos (by omega)]
    · rw [t2, mg, if_neg (by omega), if_neg (by omega), if_pos (by omega)]
  · obtain ⟨c0, c1, c2⟩ := hc c hc4
    refine ⟨?_, ?_, ?_, ?_, ?_, ?_⟩
    · rw [c1 _ (by omega), m0 _ _ _ (by omega) (by omega) (by omega)]
    · rw [c1 _ (by omega), m0 _ _ _ (by omega) (by omega) (by omega)]
    · rw [c1 _ (by omega), m0 _ _ _ (by omega) (by omega) (by omega)]
    · rw [c1 _ (by omega), m0 _ _ _ (by omega) (by omega) (by omega)]
    · rw [c1 _ (by omega), m0 _ _ _ (by omega) (by omega) (by omega)]
    · rw [c1 _ (by omega), m0 _ _ _ (by omega) (by omega) (by omega)]
  · refine ⟨fun _ => ?_, fun a ha => ?_⟩
    · rw [mg, if_pos ⟨rfl, rfl, hc4⟩]
    · have := (hc c hc4).2.2
      rw [this] at ha; cases ha
  · rw [m0 _ _ _ (by omega) (by omega) (by omega)]; exact isB_0
