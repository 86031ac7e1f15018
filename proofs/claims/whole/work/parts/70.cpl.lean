/-! the class's state S beside the reference's state M: what is equal (Ceq), and what holds of S (Inv) -/
def ivN (tc : Nat) (x : Int32) : Prop := ∃ t, t < tc ∧ x = nI t
def cqG (n : Nat) (S M : zS) : Prop := gi M 8 0 0 = nI n ∧ gi S 7 0 6 = gi M 8 0 10 ∧ gi S 7 0 7 = gi M 8 0 29 ∧ gi S 7 0 8 = gi M 8 0 30 ∧ gi S 1 0 2 = gi M 8 0 44 ∧ gi S 1 0 3 = gi M 8 0 31
def cqP1 (S M : zS) (k : Nat) : Prop := gi S 6 k 0 = gi M 9 102 k ∧ gi S 6 k 1 = gi M 9 103 k ∧ gj S 6 k 2 = gj M 10 101 k ∧ gi S 3 k 1 = gi M 9 104 k ∧ gi S 3 k 2 = gi M 9 105 k ∧ gi S 3 k 4 = gi M 9 106 k ∧ gi S 3 k 3 = gi M 11 107 k ∧ gi S 9 0 k = gi M 9 109 k
def cqT1 (n : Nat) (S M : zS) (t : Nat) : Prop := (∀ k, k < n → gi S 9 (1 + t) k = gi M 9 108 (9 * t + k)) ∧ gi S 5 t 1 = gi M 9 108 (9 * t + 7) ∧ gi S 5 t 2 = gi M 9 108 (9 * t + 8)
def cqC1 (S M : zS) (c : Nat) : Prop := gi S 2 c 3 = gi M 9 112 c ∧ gi S 2 c 4 = gi M 9 113 c ∧ gi S 2 c 5 = gi M 9 117 c ∧ gi S 2 c 6 = gi M 9 114 c ∧ gi S 2 c 7 = gi M 9 115 c ∧ gi S 2 c 8 = gi M 9 116 c
def cqV1 (S M : zS) (c : Nat) : Prop := gi S 6 (10 + c) 0 = gi M 9 118 c ∧ gi S 6 (10 + c) 1 = gi M 9 119 c ∧ gj S 6 (10 + c) 2 = gj M 10 120 c
def cqD1 (S M : zS) (c : Nat) : Prop := (gr S 2 c 2 = none → gi M 9 111 c = -1) ∧ ∀ a, gr S 2 c 2 = some a → gi M 9 111 c = nI (a + 1) ∧ (¬ (gi S 2 c 3 = 2 ∧ gi S 0 a 1 = 1) → cqV1 S M c)
def cqA1 (S M : zS) (a : Nat) : Prop := gi S 0 a 0 = nI (a + 1) ∧ gi S 0 a 1 = gi M 9 121 (a + 1) ∧ gi S 0 a 2 = gi M 9 122 (a + 1) ∧ gi S 0 a 3 = gi M 9 123 (a + 1) ∧ gi S 0 a 4 = gi M 9 124 (a + 1) ∧ gi S 0 a 5 = gi M 9 125 (a + 1) ∧ gi S 0 a 6 = gi M 9 126 (a + 1) ∧ gi S 0 a 7 = gi M 9 127 (a + 1) ∧ gj S 0 a 8 = gj M 10 128 (a + 1)
def cqR1 (S M : zS) (p j : Nat) : Prop := gi S 4 p 2 = gi M 9 133 j ∧ gi S 4 p 3 = gi M 9 134 j ∧ gi S 4 p 4 = gi M 9 135 j ∧ gi S 4 p 5 = gi M 9 136 j ∧ gi S 4 p 6 = gi M 9 137 j ∧ gi S 6 (20 + p) 0 = gi M 9 138 j ∧ gi S 6 (20 + p) 1 = gi M 9 139 j ∧ gj S 6 (20 + p) 2 = gj M 10 143 j ∧ gi S 4 p 1 = gi M 11 132 j ∧ (gi S 4 p 1 = 0 → gi S 4 p 8 = gi M 9 140 j ∧ gi M 9 141 j = 0 ∧ gi M 9 142 j = 0) ∧ (¬ gi S 4 p 1 = 0 → gi S 4 p 7 = gi M 9 141 j ∧ gi S 4 p 8 = gi M 9 142 j)
def Ceq (n tc ac cn : Nat) (S M : zS) : Prop := cqG n S M ∧ (∀ k, k < n → cqP1 S M k) ∧ (∀ t, t < tc → cqT1 n S M t) ∧ (∀ c, c < 4 → cqC1 S M c) ∧ (∀ c, c < 4 → cqD1 S M c) ∧ (∀ a, a < ac → cqA1 S M a) ∧ (∀ j, j < cn → cqR1 S M (pmR S.2.2 j) j) ∧ ∀ i, i < 300 → isB (gi M 11 132 i)
def ivG (n tc ac cn : Nat) (S : zS) : Prop := (1 ≤ n ∧ n ≤ 7) ∧ (1 ≤ tc ∧ tc ≤ 16) ∧ ac ≤ 200 ∧ cn ≤ 300 ∧ gi S 7 0 6 = nI tc ∧ gi S 7 0 7 = nI ac ∧ gi S 1 0 2 = nI cn
def ivP1 (tc : Nat) (S : zS) (k : Nat) : Prop := ivN tc (gi S 3 k 1) ∧ ivN tc (gi S 3 k 2)
def ivR (tc ac : Nat) (R : zR) : Prop := (∀ t, t < tc → R 16 0 t = some t) ∧ (∀ t, tc ≤ t → t < 16 → R 16 0 t = none) ∧ (∀ a, a < ac → R 12 0 a = some a) ∧ ∀ a, ac ≤ a → a < 200 → R 12 0 a = none
def ivA1 (tc : Nat) (S : zS) (a : Nat) : Prop := gi S 0 a 7 = -1 ∨ ivN tc (gi S 0 a 7)
def ivD1 (tc ac : Nat) (S : zS) (c a : Nat) : Prop := a < ac ∧ gi S 0 a 2 = nI c ∧ ∃ φ r b, gi S 2 c 3 = nI φ ∧ gi S 2 c 4 = nI r ∧ gi S 2 c 6 = nI b ∧ b < tc ∧ (1 ≤ φ ∧ φ ≤ 5) ∧ (1 ≤ r ∧ r ≤ φ + b ∧ (3 ≤ φ → r ≤ φ)) ∧ ((φ ≤ 2 ∧ (gi S 0 a 1 = 0 ∨ gi S 0 a 1 = 1)) ∨ (3 ≤ φ ∧ gi S 0 a 1 = 2 ∧ ivN tc (gi S 0 a 7))) ∧ (φ = 2 → gi S 0 a 1 = 1 → gi S 6 (10 + c) 0 = gi S 0 a 5 ∧ gi S 6 (10 + c) 1 = gi S 0 a 6 ∧ gj S 6 (10 + c) 2 = gj S 0 a 8)
def ivC1 (tc ac : Nat) (S : zS) (c : Nat) : Prop := gi S 2 c 0 = nI c ∧ ivN tc (gi S 2 c 6) ∧ ivN tc (gi S 2 c 7) ∧ ∀ a, gr S 2 c 2 = some a → ivD1 tc ac S c a
def ivM1 (n tc ac : Nat) (S : zS) (p : Nat) : Prop := ∃ k c a, k < n ∧ c < 4 ∧ a < ac ∧ gi S 4 p 2 = nI k ∧ gi S 4 p 3 = nI c ∧ gi S 4 p 4 = nI (a + 1) ∧ (gi S 4 p 1 = 0 → (gi S 4 p 5 = 3 ∨ gi S 4 p 5 = 5) → ivN tc (gi S 4 p 8)) ∧ (¬ gi S 4 p 1 = 0 → ivN tc (gi S 4 p 7) ∧ ivN tc (gi S 4 p 8)) ∧ (gr S 2 c 2 = some a → ∃ r q, gi S 2 c 4 = nI r ∧ gi S 4 p 6 = nI q ∧ q ≤ r ∧ r < 100 ∧ (q = r → gi S 4 p 5 = gi S 2 c 3))
def Inv (n tc ac cn : Nat) (S : zS) : Prop := ivG n tc ac cn S ∧ (∀ k, k < n → ivP1 tc S k) ∧ ivR tc ac S.2.2 ∧ (∀ a, a < ac → ivA1 tc S a) ∧ (∀ c, c < 4 → ivC1 tc ac S c) ∧ (∀ j, j < cn → ivM1 n tc ac S (pmR S.2.2 j)) ∧ ∀ j, j < 301 → isB (gi S 4 j 1)
/-- both, with the class's shape -/
def Cx (n tc ac cn : Nat) (Z : zZ) (S M : zS) : Prop := zV n Z S.2.2 ∧ Inv n tc ac cn S ∧ Ceq n tc ac cn S M
theorem ivN.mono {tc tc2 : Nat} {x : Int32} (h : ivN tc x) (ht : tc ≤ tc2) : ivN tc2 x := by
  obtain ⟨t, h1, h2⟩ := h
  exact ⟨t, by omega, h2⟩
theorem cqP1.tr {S S' M M' : zS} {k : Nat} (h : cqP1 S M k) (e6 : ∀ f, gi S' 6 k f = gi S 6 k f ∧ gj S' 6 k f = gj S 6 k f) (e3 : ∀ f, gi S' 3 k f = gi S 3 k f) (e9 : gi S' 9 0 k = gi S 9 0 k) (m : ∀ i, 101 ≤ i → i ≤ 109 → gi M' 9 i k = gi M 9 i k) (mb : gi M' 11 107 k = gi M 11 107 k) (mj : gj M' 10 101 k = gj M 10 101 k) : cqP1 S' M' k := by
  unfold cqP1 at h ⊢
  rw [(e6 0).1, (e6 1).1, (e6 2).2, e3, e3, e3, e3, e9, m 102 (by decide) (by decide), m 103 (by decide) (by decide), m 104 (by decide) (by decide), m 105 (by decide) (by decide), m 106 (by decide) (by decide), m 109 (by decide) (by decide), mb, mj]
  exact h
theorem cqT1.tr {n : Nat} {S S' M M' : zS} {t : Nat} (h : cqT1 n S M t) (e9 : ∀ k, gi S' 9 (1 + t) k = gi S 9 (1 + t) k) (e5 : ∀ f, gi S' 5 t f = gi S 5 t f) (m : ∀ x, x < 9 → gi M' 9 108 (9 * t + x) = gi M 9 108 (9 * t + x)) (hn : n ≤ 7) : cqT1 n S' M' t := by
  unfold cqT1 at h ⊢
  refine ⟨fun k hk => ?_, ?_, ?_⟩
  · rw [e9, m k (by omega)]; exact h.1 k hk
  · rw [e5, m 7 (by omega)]; exact h.2.1
  · rw [e5, m 8 (by omega)]; exact h.2.2
theorem cqC1.tr {S S' M M' : zS} {c : Nat} (h : cqC1 S M c) (e2 : ∀ f, gi S' 2 c f = gi S 2 c f) (m : ∀ i, 112 ≤ i → i ≤ 117 → gi M' 9 i c = gi M 9 i c) : cqC1 S' M' c := by
  unfold cqC1 at h ⊢
  simp only [e2]
  rw [m 112 (by decide) (by decide), m 113 (by decide) (by decide), m 114 (by decide) (by decide), m 115 (by decide) (by decide), m 116 (by decide) (by decide), m 117 (by decide) (by decide)]
  exact h
theorem cqV1.tr {S S' M M' : zS} {c : Nat} (h : cqV1 S M c) (e6 : ∀ f, gi S' 6 (10 + c) f = gi S 6 (10 + c) f ∧ gj S' 6 (10 + c) f = gj S 6 (10 + c) f) (m : ∀ i, 118 ≤ i → i ≤ 119 → gi M' 9 i c = gi M 9 i c) (mj : gj M' 10 120 c = gj M 10 120 c) : cqV1 S' M' c := by
  unfold cqV1 at h ⊢
  rw [(e6 0).1, (e6 1).1, (e6 2).2, m 118 (by decide) (by decide), m 119 (by decide) (by decide), mj]
  exact h
theorem cqD1.tr {S S' M M' : zS} {c : Nat} (h : cqD1 S M c) (er : gr S' 2 c 2 = gr S 2 c 2) (e3 : gi S' 2 c 3 = gi S 2 c 3) (e0 : ∀ a, gr S 2 c 2 = some a → gi S' 0 a 1 = gi S 0 a 1) (e6 : ∀ f, gi S' 6 (10 + c) f = gi S 6 (10 + c) f ∧ gj S' 6 (10 + c) f = gj S 6 (10 + c) f) (m1 : gi M' 9 111 c = gi M 9 111 c) (m : ∀ i, 118 ≤ i → i ≤ 119 → gi M' 9 i c = gi M 9 i c) (mj : gj M' 10 120 c = gj M 10 120 c) : cqD1 S' M' c := by
  unfold cqD1 at h ⊢
  rw [er, e3, m1]
  refine ⟨h.1, fun a ha => ⟨(h.2 a ha).1, fun q => ?_⟩⟩
  rw [e0 a ha] at q
  exact ((h.2 a ha).2 q).tr e6 m mj
theorem cqA1.tr {S S' M M' : zS} {a : Nat} (h : cqA1 S M a) (e0 : ∀ f, gi S' 0 a f = gi S 0 a f ∧ gj S' 0 a f = gj S 0 a f) (m : ∀ i, 121 ≤ i → i ≤ 127 → gi M' 9 i (a + 1) = gi M 9 i (a + 1)) (mj : gj M' 10 128 (a + 1) = gj M 10 128 (a + 1)) : cqA1 S' M' a := by
  unfold cqA1 at h ⊢
  rw [(e0 0).1, (e0 1).1, (e0 2).1, (e0 3).1, (e0 4).1, (e0 5).1, (e0 6).1, (e0 7).1, (e0 8).2, m 121 (by decide) (by decide), m 122 (by decide) (by decide), m 123 (by decide) (by decide), m 124 (by decide) (by decide), m 125 (by decide) (by decide), m 126 (by decide) (by decide), m 127 (by decide) (by decide), mj]
  exact h
theorem cqR1.tr {S S' M M' : zS} {p j j' : Nat} (h : cqR1 S M p j) (e4 : ∀ f, gi S' 4 p f = gi S 4 p f) (e6 : ∀ f, gi S' 6 (20 + p) f = gi S 6 (20 + p) f ∧ gj S' 6 (20 + p) f = gj S 6 (20 + p) f) (m : ∀ i, 133 ≤ i → i ≤ 142 → gi M' 9 i j' = gi M 9 i j) (mb : gi M' 11 132 j' = gi M 11 132 j) (mj : gj M' 10 143 j' = gj M 10 143 j) : cqR1 S' M' p j' := by
  unfold cqR1 at h ⊢
  simp only [e4]
  rw [(e6 0).1, (e6 1).1, (e6 2).2, m 133 (by decide) (by decide), m 134 (by decide) (by decide), m 135 (by decide) (by decide), m 136 (by decide) (by decide), m 137 (by decide) (by decide), m 138 (by decide) (by decide), m 139 (by decide) (by decide), m 140 (by decide) (by decide), m 141 (by decide) (by decide), m 142 (by decide) (by decide), mb, mj]
  exact h
theorem ivP1.tr {tc : Nat} {S S' : zS} {k : Nat} (h : ivP1 tc S k) (e3 : ∀ f, gi S' 3 k f = gi S 3 k f) : ivP1 tc S' k := by
  unfold ivP1 at h ⊢
  simp only [e3]; exact h
theorem ivD1.tr {tc ac : Nat} {S S' : zS} {c a : Nat} (h : ivD1 tc ac S c a) (e2 : ∀ f, f ≠ 5 → f ≠ 7 → f ≠ 8 → gi S' 2 c f = gi S 2 c f) (e0 : ∀ f, gi S' 0 a f = gi S 0 a f ∧ gj S' 0 a f = gj S 0 a f) (e6 : ∀ f, gi S' 6 (10 + c) f = gi S 6 (10 + c) f ∧ gj S' 6 (10 + c) f = gj S 6 (10 + c) f) : ivD1 tc ac S' c a := by
  unfold ivD1 at h ⊢
  rw [(e0 1).1, (e0 2).1, (e0 5).1, (e0 6).1, (e0 7).1, (e0 8).2, (e6 0).1, (e6 1).1, (e6 2).2, e2 3 (by decide) (by decide) (by decide), e2 4 (by decide) (by decide) (by decide), e2 6 (by decide) (by decide) (by decide)]
  exact h
theorem ivC1.tr {tc ac : Nat} {S S' : zS} {c : Nat} (h : ivC1 tc ac S c) (er : gr S' 2 c 2 = gr S 2 c 2) (e2 : ∀ f, f ≠ 5 → f ≠ 8 → gi S' 2 c f = gi S 2 c f) (e0 : ∀ a, gr S 2 c 2 = some a → ∀ f, gi S' 0 a f = gi S 0 a f ∧ gj S' 0 a f = gj S 0 a f) (e6 : ∀ f, gi S' 6 (10 + c) f = gi S 6 (10 + c) f ∧ gj S' 6 (10 + c) f = gj S 6 (10 + c) f) : ivC1 tc ac S' c := by
  obtain ⟨h1, h2, h3, h4⟩ := h
  refine ⟨by rw [e2 0 (by decide) (by decide)]; exact h1, by rw [e2 6 (by decide) (by decide)]; exact h2, by rw [e2 7 (by decide) (by decide)]; exact h3, fun a ha => ?_⟩
  rw [er] at ha
  exact (h4 a ha).tr (fun f q1 _ q3 => e2 f q1 q3) (e0 a ha) e6
theorem ivM1.tr {n tc ac : Nat} {S S' : zS} {p : Nat} (h : ivM1 n tc ac S p) (e4 : ∀ f, gi S' 4 p f = gi S 4 p f) (er : ∀ c, c < 4 → gr S' 2 c 2 = gr S 2 c 2) (e2 : ∀ c, c < 4 → gi S' 2 c 3 = gi S 2 c 3 ∧ gi S' 2 c 4 = gi S 2 c 4) : ivM1 n tc ac S' p := by
  obtain ⟨k, c, a, h1, h2, h3, h4⟩ := h
  refine ⟨k, c, a, h1, h2, h3, ?_⟩
  simp only [e4]
  rw [er c h2, (e2 c h2).1, (e2 c h2).2]
  exact h4
