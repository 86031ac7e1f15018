/-- the cells that are still free -/
def frs (tc ac : Nat) (Z : zZ) : Prop := (∀ a, ac ≤ a → ¬ Z.2.1 0 a) ∧ ∀ t, tc ≤ t → ¬ Z.2.1 5 t ∧ ¬ Z.2.1 9 (1 + t)
theorem frs.act {tc ac : Nat} {Z Z' : zZ} (h : frs tc ac Z) (hx : zext Z Z' 0 ac 0) : frs tc (ac + 1) Z' := by
  refine ⟨fun a ha q => ?_, fun t ht => ⟨fun q => ?_, fun q => ?_⟩⟩
  · rcases (hx.2.1 0 a).mp q with r | r
    · exact h.1 a (by omega) r
    · omega
  · rcases (hx.2.1 5 t).mp q with r | r
    · exact (h.2 t ht).1 r
    · omega
  · rcases (hx.2.1 9 (1 + t)).mp q with r | r
    · exact (h.2 t ht).2 r
    · omega
theorem frs.tab {tc ac n : Nat} {Z Z1 Z2 : zZ} (h : frs tc ac Z) (h1 : zext Z Z1 5 tc 0) (h2 : zext Z1 Z2 9 (1 + tc) n) : frs (tc + 1) ac Z2 := by
  have d : ∀ k i, Z2.2.1 k i → Z.2.1 k i ∨ (k = 5 ∧ i = tc) ∨ (k = 9 ∧ i = 1 + tc) := fun k i q => by
    rcases (h2.2.1 k i).mp q with r | r
    · rcases (h1.2.1 k i).mp r with r | r
      · exact Or.inl r
      · exact Or.inr (Or.inl r)
    · exact Or.inr (Or.inr r)
  refine ⟨fun a ha q => ?_, fun t ht => ⟨fun q => ?_, fun q => ?_⟩⟩
  · rcases d _ _ q with r | r | r
    · exact h.1 a ha r
    · omega
    · omega
  · rcases d _ _ q with r | r | r
    · exact (h.2 t (by omega)).1 r
    · omega
    · omega
  · rcases d _ _ q with r | r | r
    · exact (h.2 t (by omega)).2 r
    · omega
    · omega
theorem zext_ex (Z : zZ) (k i n : Nat) : ∃ Z', zext Z Z' k i n := by
  refine ⟨(Z.1, fun k' i' => Z.2.1 k' i' ∨ (k' = k ∧ i' = i), fun k' i' => if k' = k ∧ i' = i then n else Z.2.2 k' i'), fun k' i' q => ⟨rfl, ?_⟩, fun k' i' => Iff.rfl, ?_⟩
  · show (if k' = k ∧ i' = i then n else Z.2.2 k' i') = _
    rw [if_neg q]
  · show (if k = k ∧ i = i then n else Z.2.2 k i) = n
    rw [if_pos ⟨rfl, rfl⟩]
theorem Cx.acs {n tc ac cn : Nat} {Z : zZ} {S M : zS} (h : Cx n tc ac cn Z S M) : gi S 7 0 7 = nI ac ∧ ac ≤ 200 := ⟨h.2.1.1.2.2.2.2.2.1, h.2.1.1.2.2.1⟩
theorem noBegin {n tc ac cn c : Nat} {Z : zZ} {S M : zS} (h : Cx n tc ac cn Z S M) (hc : c < 4) (h0 : r_X7_canBegin S n c = 0) (h1 : gr S 2 c 2 = none) (h2 : ac < 200) : False := by
  rcases begin_cases h hc with ⟨-, e⟩ | ⟨e, -⟩
  · rcases e with e | e
    · have := (h.d1 hc).1 h1
      rw [this] at e
      exact absurd e (by decide)
    · have hm : gi M 8 0 29 = nI ac := h.2.2.1.2.2.1.symm.trans h.acs.1
      have e2 : nI 200 = 200 := rfl
      rw [hm, ← e2, nI_eq (by omega) (by decide)] at e
      omega
  · exact e h0
theorem sameAct {n tc ac cn cn2 : Nat} {Z Z2 : zZ} {S M M2 : zS} (h : Cx n tc ac cn Z S M) {tc2 : Nat} (h2 : Cx n tc2 (ac + 1) cn2 Z2 S M2) : False := by
  have e := h.acs.1.symm.trans h2.acs.1
  have := h.acs.2
  have := (nI_eq (by omega) (by omega)).mp e
  omega
theorem x_read {n tc ac cn : Nat} {Z Z' : zZ} {S M : zS} {x : Int32} (h : Cx n tc ac cn Z S M) (hp : (Z' = Z ∧ s_X7_read S n ac x = S) ∨ ∃ c, atI 4 x = some c ∧ gr S 2 c 2 = none ∧ ac < 200 ∧ zext Z Z' 0 ac 0) (hf : frs tc ac Z) :
    r_X7_read S n ac x = r_X8_read M n x ∧ ∃ ac2 cn2, Cx n tc ac2 cn2 Z' (s_X7_read S n ac x) (s_X8_read M n x) ∧ frs tc ac2 Z' := by
  have hb := h.acs
  unfold r_X7_read r_X8_read s_X8_read
  unfold s_X7_read at hp ⊢
  rcases client_cases (M := M) x with ⟨c1, c2⟩ | ⟨q, hq, hx, c1, c2, c3⟩
  · rw [oel_n c1, oel_n c1, pif_pos c2, pif_pos c2]
    rcases hp with ⟨rfl, -⟩ | ⟨c, e, -⟩
    · exact ⟨rfl, ac, cn, h, hf⟩
    · rw [c1] at e; cases e
  · rw [oel_s c1] at hp
    rw [oel_s c1, oel_s c1, pif_neg c2, pif_neg c2, hx, ix_nI (by omega)]
    rcases begin_cases h hq with ⟨e1, e2⟩ | ⟨e1, e2, e3, e4, e5, e6⟩
    · have eM : ∀ {α : Type} (a b : α), pif ((0 : Int32) ≤ gi M 9 111 q) a (pif (gi M 8 0 29 = 200) a b) = a := fun a b => by
        rcases e2 with e | e
        · rw [pif_pos e]
        · rw [pif_pos e, pif_same]
      rw [pif_pos e1, pif_pos e1, eM, eM]
      rcases hp with ⟨rfl, -⟩ | ⟨c, e, g1, g2, -⟩
      · exact ⟨rfl, ac, cn, h, hf⟩
      · have : q = c := Option.some.inj (c1.symm.trans e)
        subst this
        exact (noBegin h hq e1 g1 g2).elim
    · rw [pif_neg e1] at hp
      rw [pif_neg e1, pif_neg e1, pif_neg e4, pif_neg e4, pif_neg e5, pif_neg e5, e6, ← hx]
      have hz7 : gi (sz S 0 ac) 7 0 7 = nI ac := by rw [gi_sz, if_neg (by omega)]; exact hb.1
      rw [hz7, nI_1] at hp ⊢
      obtain ⟨p1, p2, p3, p4, p5, p6, p7, p8, p9, p10, p11⟩ := @init_gi S ac (nI (ac + 1)) 0 x
      have hP : actP S (s_X0_init (sz S 0 ac) ac (nI (ac + 1)) 0 x) q ac 0 (-1) (gi S 2 q 7) 0 := ⟨fun k i f r1 _ => p1 k i f r1, p2, p3, ⟨p4, p5, p6.trans hx, p7, p8, p9, p10, p11⟩, p1 _ _ _ (by omega)⟩
      have main : ∀ Z2, zext Z Z2 0 ac 0 → _ := fun Z2 hz => x_newact (φ := 1) (M := M) h hq e2 e3 hz hP (cl_ivl h hq) (Or.inl ⟨rfl, Or.inl rfl, rfl, rfl⟩)
      rw [← hx] at main
      rcases hp with ⟨rfl, e⟩ | ⟨c, e, g1, g2, g3⟩
      · obtain ⟨Z2, hz⟩ := zext_ex Z' 0 ac 0
        obtain ⟨-, cn2, g⟩ := main Z2 hz
        exact (sameAct h (e ▸ g)).elim
      · obtain ⟨g4, cn2, g⟩ := main Z' g3
        exact ⟨g4, ac + 1, cn2, g, hf.act g3⟩
theorem x_write {n tc ac cn : Nat} {Z Z' : zZ} {S M : zS} {x : Int32} {v : Int64} (h : Cx n tc ac cn Z S M) (hp : (Z' = Z ∧ s_X7_write S n ac x v = S) ∨ ∃ c, atI 4 x = some c ∧ gr S 2 c 2 = none ∧ ac < 200 ∧ zext Z Z' 0 ac 0) (hf : frs tc ac Z) :
    r_X7_write S n ac x v = r_X8_write M n x v ∧ ∃ ac2 cn2, Cx n tc ac2 cn2 Z' (s_X7_write S n ac x v) (s_X8_write M n x v) ∧ frs tc ac2 Z' := by
  have hb := h.acs
  unfold r_X7_write r_X8_write s_X8_write
  unfold s_X7_write at hp ⊢
  rcases client_cases (M := M) x with ⟨c1, c2⟩ | ⟨q, hq, hx, c1, c2, c3⟩
  · rw [oel_n c1, oel_n c1, pif_pos c2, pif_pos c2]
    rcases hp with ⟨rfl, -⟩ | ⟨c, e, -⟩
    · exact ⟨rfl, ac, cn, h, hf⟩
    · rw [c1] at e; cases e
  · rw [oel_s c1] at hp
    rw [oel_s c1, oel_s c1, pif_neg c2, pif_neg c2, hx, ix_nI (by omega)]
    rcases begin_cases h hq with ⟨e1, e2⟩ | ⟨e1, e2, e3, e4, e5, e6⟩
    · have eM : ∀ {α : Type} (a b : α), pif ((0 : Int32) ≤ gi M 9 111 q) a (pif (gi M 8 0 29 = 200) a b) = a := fun a b => by
        rcases e2 with e | e
        · rw [pif_pos e]
        · rw [pif_pos e, pif_same]
      rw [pif_pos e1, pif_pos e1, eM, eM]
      rcases hp with ⟨rfl, -⟩ | ⟨c, e, g1, g2, -⟩
      · exact ⟨rfl, ac, cn, h, hf⟩
      · have : q = c := Option.some.inj (c1.symm.trans e)
        subst this
        exact (noBegin h hq e1 g1 g2).elim
    · rw [pif_neg e1] at hp
      rw [pif_neg e1, pif_neg e1, pif_neg e4, pif_neg e4, pif_neg e5, pif_neg e5, e6, ← hx]
      have hz7 : gi (sz S 0 ac) 7 0 7 = nI ac := by rw [gi_sz, if_neg (by omega)]; exact hb.1
      rw [hz7, nI_1] at hp ⊢
      obtain ⟨p1, p2, p3, p4, p5, p6, p7, p8, p9, p10, p11⟩ := @init_gi S ac (nI (ac + 1)) 1 x
      have hP : actP S (sj (s_X0_init (sz S 0 ac) ac (nI (ac + 1)) 1 x) 0 ac 8 v) q ac 1 (-1) (gi S 2 q 7) v := ⟨fun k i f r1 _ => p1 k i f r1, fun k i f r => by rw [gj_sj, if_neg (by omega)]; exact p2 k i f r, p3, ⟨p4, p5, p6.trans hx, p7, p8, p9, p10, by rw [gj_sj, if_pos ⟨rfl, rfl, rfl⟩]⟩, p1 2 q 7 (by omega)⟩
      have main : ∀ Z2, zext Z Z2 0 ac 0 → _ := fun Z2 hz => x_newact (φ := 1) (M := M) h hq e2 e3 hz hP (cl_ivl h hq) (Or.inl ⟨rfl, Or.inr rfl, rfl, rfl⟩)
      rw [← hx] at main
      rcases hp with ⟨rfl, e⟩ | ⟨c, e, g1, g2, g3⟩
      · obtain ⟨Z2, hz⟩ := zext_ex Z' 0 ac 0
        obtain ⟨-, cn2, g⟩ := main Z2 hz
        exact (sameAct h (e ▸ g)).elim
      · obtain ⟨g4, cn2, g⟩ := main Z' g3
        exact ⟨g4, ac + 1, cn2, g, hf.act g3⟩
