/-! the class's shape: which cells there are and how they hang together (Z the layout, R the references) -/
abbrev zR : Type := Nat → Nat → Nat → Option Nat
def zV1 (Z : zZ) (R : zR) : Prop := (Z.2.1 7 0 ∧ R 7 0 0 = some 0 ∧ R 7 0 1 = some 0 ∧ R 7 0 2 = some 0 ∧ R 7 0 3 = some 0 ∧ R 7 0 4 = some 0 ∧ R 7 0 5 = some 0) ∧ Z.2.1 1 0 ∧ R 1 0 0 = some 0 ∧ Z.2.2 13 0 = 4 ∧ Z.2.2 16 0 = 16 ∧ Z.2.2 12 0 = 200 ∧ Z.2.2 15 0 = 300
def zV2 (n : Nat) (Z : zZ) (R : zR) : Prop := (1 ≤ n ∧ n ≤ 7) ∧ Z.2.2 14 0 = n ∧ Z.2.2 9 0 = n ∧ ∀ c, c < n → Z.2.1 3 c ∧ R 14 0 c = some c ∧ R 3 c 0 = some c
def zV3 (Z : zZ) (R : zR) : Prop := ∀ c, c < 4 → Z.2.1 2 c ∧ R 13 0 c = some c ∧ R 2 c 1 = some (10 + c)
def pmR (R : zR) (j : Nat) : Nat := (R 15 0 j).getD 0
def tkR (R : zR) : Nat := (R 1 0 1).getD 0
def zV4 (Z : zZ) (R : zR) : Prop := (∀ j, j < 301 → Z.2.1 4 j ∧ R 4 j 0 = some (20 + j)) ∧ (∀ j, j < 300 → R 15 0 j = some (pmR R j) ∧ pmR R j < 301) ∧ R 1 0 1 = some (tkR R) ∧ tkR R < 301 ∧ (∀ i j, i < 300 → j < 300 → pmR R i = pmR R j → i = j) ∧ ∀ j, j < 300 → pmR R j ≠ tkR R
def zV5 (n : Nat) (Z : zZ) (R : zR) : Prop := ∀ t, t < 16 → R 16 0 t = none ∨ (R 16 0 t = some t ∧ Z.2.1 5 t ∧ R 5 t 0 = some (1 + t) ∧ Z.2.2 9 (1 + t) = n)
def zV6 (Z : zZ) (R : zR) : Prop := ∀ a, a < 200 → R 12 0 a = none ∨ (R 12 0 a = some a ∧ Z.2.1 0 a)
def zV7 (R : zR) : Prop := ∀ c, c < 4 → R 2 c 2 = none ∨ ∃ a, a < 200 ∧ R 2 c 2 = some a ∧ R 12 0 a = some a
def zV (n : Nat) (Z : zZ) (R : zR) : Prop := zV1 Z R ∧ zV2 n Z R ∧ zV3 Z R ∧ zV4 Z R ∧ zV5 n Z R ∧ zV6 Z R ∧ zV7 R
theorem zV.d7 {n : Nat} {Z : zZ} {R : zR} (h : zV n Z R) : Z.2.1 7 0 := h.1.1.1
theorem zV.r70 {n : Nat} {Z : zZ} {R : zR} (h : zV n Z R) : R 7 0 0 = some 0 := h.1.1.2.1
theorem zV.r71 {n : Nat} {Z : zZ} {R : zR} (h : zV n Z R) : R 7 0 1 = some 0 := h.1.1.2.2.1
theorem zV.r72 {n : Nat} {Z : zZ} {R : zR} (h : zV n Z R) : R 7 0 2 = some 0 := h.1.1.2.2.2.1
theorem zV.r73 {n : Nat} {Z : zZ} {R : zR} (h : zV n Z R) : R 7 0 3 = some 0 := h.1.1.2.2.2.2.1
theorem zV.r74 {n : Nat} {Z : zZ} {R : zR} (h : zV n Z R) : R 7 0 4 = some 0 := h.1.1.2.2.2.2.2.1
theorem zV.r75 {n : Nat} {Z : zZ} {R : zR} (h : zV n Z R) : R 7 0 5 = some 0 := h.1.1.2.2.2.2.2.2
theorem zV.d1 {n : Nat} {Z : zZ} {R : zR} (h : zV n Z R) : Z.2.1 1 0 := h.1.2.1
theorem zV.r10 {n : Nat} {Z : zZ} {R : zR} (h : zV n Z R) : R 1 0 0 = some 0 := h.1.2.2.1
theorem zV.l13 {n : Nat} {Z : zZ} {R : zR} (h : zV n Z R) : Z.2.2 13 0 = 4 := h.1.2.2.2.1
theorem zV.l16 {n : Nat} {Z : zZ} {R : zR} (h : zV n Z R) : Z.2.2 16 0 = 16 := h.1.2.2.2.2.1
theorem zV.l12 {n : Nat} {Z : zZ} {R : zR} (h : zV n Z R) : Z.2.2 12 0 = 200 := h.1.2.2.2.2.2.1
theorem zV.l15 {n : Nat} {Z : zZ} {R : zR} (h : zV n Z R) : Z.2.2 15 0 = 300 := h.1.2.2.2.2.2.2
theorem zV.n1 {n : Nat} {Z : zZ} {R : zR} (h : zV n Z R) : 1 ≤ n := h.2.1.1.1
theorem zV.n7 {n : Nat} {Z : zZ} {R : zR} (h : zV n Z R) : n ≤ 7 := h.2.1.1.2
theorem zV.l14 {n : Nat} {Z : zZ} {R : zR} (h : zV n Z R) : Z.2.2 14 0 = n := h.2.1.2.1
theorem zV.l9 {n : Nat} {Z : zZ} {R : zR} (h : zV n Z R) : Z.2.2 9 0 = n := h.2.1.2.2.1
theorem zV.d3 {n : Nat} {Z : zZ} {R : zR} (h : zV n Z R) {c : Nat} (hc : c < n) : Z.2.1 3 c := (h.2.1.2.2.2 c hc).1
theorem zV.r14 {n : Nat} {Z : zZ} {R : zR} (h : zV n Z R) {c : Nat} (hc : c < n) : R 14 0 c = some c := (h.2.1.2.2.2 c hc).2.1
theorem zV.r3 {n : Nat} {Z : zZ} {R : zR} (h : zV n Z R) {c : Nat} (hc : c < n) : R 3 c 0 = some c := (h.2.1.2.2.2 c hc).2.2
theorem zV.d2 {n : Nat} {Z : zZ} {R : zR} (h : zV n Z R) {c : Nat} (hc : c < 4) : Z.2.1 2 c := (h.2.2.1 c hc).1
theorem zV.r13 {n : Nat} {Z : zZ} {R : zR} (h : zV n Z R) {c : Nat} (hc : c < 4) : R 13 0 c = some c := (h.2.2.1 c hc).2.1
theorem zV.r2 {n : Nat} {Z : zZ} {R : zR} (h : zV n Z R) {c : Nat} (hc : c < 4) : R 2 c 1 = some (10 + c) := (h.2.2.1 c hc).2.2
theorem zV.d4 {n : Nat} {Z : zZ} {R : zR} (h : zV n Z R) {j : Nat} (hj : j < 301) : Z.2.1 4 j := (h.2.2.2.1.1 j hj).1
theorem zV.r4 {n : Nat} {Z : zZ} {R : zR} (h : zV n Z R) {j : Nat} (hj : j < 301) : R 4 j 0 = some (20 + j) := (h.2.2.2.1.1 j hj).2
theorem zV.pm {n : Nat} {Z : zZ} {R : zR} (h : zV n Z R) (j : Nat) (hj : j < 300) : R 15 0 j = some (pmR R j) := (h.2.2.2.1.2.1 j hj).1
theorem zV.pmlt {n : Nat} {Z : zZ} {R : zR} (h : zV n Z R) {j : Nat} (hj : j < 300) : pmR R j < 301 := (h.2.2.2.1.2.1 j hj).2
theorem zV.tk {n : Nat} {Z : zZ} {R : zR} (h : zV n Z R) : R 1 0 1 = some (tkR R) := h.2.2.2.1.2.2.1
theorem zV.tklt {n : Nat} {Z : zZ} {R : zR} (h : zV n Z R) : tkR R < 301 := h.2.2.2.1.2.2.2.1
theorem zV.tab {n : Nat} {Z : zZ} {R : zR} (h : zV n Z R) {t : Nat} (ht : t < 16) {q : Nat} (hq : R 16 0 t = some q) : q = t ∧ Z.2.1 5 q ∧ R 5 q 0 = some (1 + q) ∧ Z.2.2 9 (1 + q) = n := by
  rcases h.2.2.2.2.1 t ht with e | ⟨e, r⟩
  · rw [e] at hq; cases hq
  · rw [e] at hq; cases hq; exact ⟨rfl, r⟩
theorem zV.act {n : Nat} {Z : zZ} {R : zR} (h : zV n Z R) {a : Nat} (ha : a < 200) {q : Nat} (hq : R 12 0 a = some q) : q = a ∧ Z.2.1 0 q := by
  rcases h.2.2.2.2.2.1 a ha with e | ⟨e, r⟩
  · rw [e] at hq; cases hq
  · rw [e] at hq; cases hq; exact ⟨rfl, r⟩
theorem zV.doing {n : Nat} {Z : zZ} {R : zR} (h : zV n Z R) {c : Nat} (hc : c < 4) {q : Nat} (hq : R 2 c 2 = some q) : q < 200 ∧ Z.2.1 0 q ∧ R 12 0 q = some q := by
  rcases h.2.2.2.2.2.2 c hc with e | ⟨a, ha, e, r⟩
  · rw [e] at hq; cases hq
  · rw [e] at hq; cases hq; exact ⟨ha, (h.act ha r).2, r⟩
/-- a number as a place of n -/
noncomputable def atI (n : Nat) (x : Int32) : Option Nat := pif (x < 0) none (pif (nI n ≤ x) none (some (ix x)))
theorem atI_some {n : Nat} {x : Int32} {q : Nat} (hn : n < 2 ^ 31) (h : atI n x = some q) : q = ix x ∧ q < n ∧ ¬ x < 0 ∧ ¬ nI n ≤ x := by
  unfold atI at h
  by_cases h0 : x < 0
  · rw [pif_pos h0] at h; cases h
  · rw [pif_neg h0] at h
    by_cases h1 : nI n ≤ x
    · rw [pif_pos h1] at h; cases h
    · rw [pif_neg h1] at h
      cases h
      exact ⟨rfl, vin_lt (vin_of h0 h1 hn rfl) rfl, h0, h1⟩
theorem atI_in {n : Nat} {x : Int32} (h0 : ¬ x < 0) (h1 : ¬ nI n ≤ x) : atI n x = some (ix x) := by unfold atI; rw [pif_neg h0, pif_neg h1]
noncomputable def tbAt (S : zS) (x : Int32) : Option Nat := pif (x < 0) none (pif (16 ≤ x) none (gr S 16 0 (ix x)))
theorem tbAt_some {S : zS} {n : Nat} {Z : zZ} {x : Int32} {q : Nat} (hV : zV n Z S.2.2) (h : tbAt S x = some q) : q = ix x ∧ q < 16 ∧ Z.2.1 5 q ∧ gr S 5 q 0 = some (1 + q) ∧ Z.2.2 9 (1 + q) = n := by
  unfold tbAt at h
  by_cases h0 : x < 0
  · rw [pif_pos h0] at h; cases h
  · rw [pif_neg h0] at h
    by_cases h1 : 16 ≤ x
    · rw [pif_pos h1] at h; cases h
    · rw [pif_neg h1] at h
      have hl : ix x < 16 := vin_lt (vin_of h0 (N := 16) h1 (by decide) rfl) rfl
      obtain ⟨e, r⟩ := hV.tab hl h
      exact ⟨e, by omega, r⟩
noncomputable def acAt (S : zS) (x : Int32) : Option Nat := pif (x < 1) none (pif (200 < x) none (gr S 12 0 (ix (x - 1))))
