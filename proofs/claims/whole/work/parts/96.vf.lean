/-! the class's constructor: what it has made, step by step -/
def zr (S : zS) : Prop := ∀ k i f, gi S k i f = 0 ∧ gj S k i f = 0 ∧ gr S k i f = none
def vfD1 (k K I : Nat) : Prop := (K = 7 ∧ I = 0) ∨ (K = 14 ∧ I = 0) ∨ (K = 9 ∧ I = 0) ∨ (K = 3 ∧ I < k) ∨ (K = 6 ∧ I < k)
def vf1 (n k : Nat) (Z Zk : zZ) (T : zS) : Prop := (∀ K I, Zk.2.1 K I ↔ vfD1 k K I) ∧ (Zk.1 7 0 = Z.1 7 0 ∧ Zk.2.2 14 0 = n ∧ Zk.2.2 9 0 = n) ∧ (∀ K I f, gi T K I f = if K = 9 ∧ I = 0 ∧ f < k then 1 else 0) ∧ (∀ K I f, gj T K I f = 0) ∧ ∀ K I f, gr T K I f = if K = 7 ∧ I = 0 ∧ (f = 0 ∨ f = 5) then some 0 else if K = 14 ∧ I = 0 ∧ f < k then some f else if K = 3 ∧ I < k ∧ f = 0 then some I else none
theorem vf1_0 {n : Nat} {S : zS} {Z Z1 Z2 : zZ} (hz : zr S) (hd : ∀ K I, Z.2.1 K I ↔ K = 7 ∧ I = 0) (hx1 : zext Z Z1 14 0 n) (hx2 : zext Z1 Z2 9 0 n) : vf1 n 0 Z Z2 (sr (sz (sr (sz S 14 0) 7 0 0 (some 0)) 9 0) 7 0 5 (some 0)) := by
  refine ⟨fun K I => ?_, ⟨?_, ?_, hx2.2.2⟩, fun K I f => ?_, fun K I f => ?_, fun K I f => ?_⟩
  · rw [hx2.2.1, hx1.2.1, hd]
    unfold vfD1
    omega
  · rw [(hx2.1 7 0 (by omega)).1, (hx1.1 7 0 (by omega)).1]
  · rw [(hx2.1 14 0 (by omega)).2]; exact hx1.2.2
  · rw [gi_sr, gi_sz, gi_sr, gi_sz, (hz K I f).1, if_neg (show ¬ (K = 9 ∧ I = 0 ∧ f < 0) by omega)]
    (repeat' split) <;> rfl
  · rw [gj_sr, gj_sz, gj_sr, gj_sz, (hz K I f).2.1]
    (repeat' split) <;> rfl
  · rw [gr_sr, gr_sz, gr_sr, gr_sz, (hz K I f).2.2]
    (repeat' split) <;> first | rfl | (exfalso; omega)
theorem vf1_s {n k : Nat} {T : zS} {Z Zk Z1 Z2 : zZ} (h : vf1 n k Z Zk T) (hk : k < n) (hn : n ≤ 7) (hx1 : zext Zk Z1 3 k 0) (hx2 : zext Z1 Z2 6 k 0) : vf1 n (k + 1) Z Z2 (si (sr (s_X3_init (sz T 3 k) k) 14 0 (ix (nI k)) (some k)) 9 0 (ix (nI k)) 1) := by
  obtain ⟨h1, ⟨h2, h3, h4⟩, h5, h6, h7⟩ := h
  unfold s_X3_init
  refine ⟨fun K I => ?_, ⟨?_, ?_, ?_⟩, fun K I f => ?_, fun K I f => ?_, fun K I f => ?_⟩
  · rw [hx2.2.1, hx1.2.1, h1]
    unfold vfD1
    omega
  · rw [(hx2.1 7 0 (by omega)).1, (hx1.1 7 0 (by omega)).1]; exact h2
  · rw [(hx2.1 14 0 (by omega)).2, (hx1.1 14 0 (by omega)).2]; exact h3
  · rw [(hx2.1 9 0 (by omega)).2, (hx1.1 9 0 (by omega)).2]; exact h4
  · rw [ix_nI (by omega), gi_si, gi_sr, gi_sr, gi_sz, gi_sz, h5]
    (repeat' split) <;> first | rfl | (exfalso; omega)
  · rw [ix_nI (by omega), gj_si, gj_sr, gj_sr, gj_sz, gj_sz, h6]
    (repeat' split) <;> rfl
  · rw [ix_nI (by omega), gr_si, gr_sr, gr_sr, gr_sz, gr_sz, h7]
    (repeat' split) <;> first | rfl | (exfalso; omega) | (congr 1; omega)
def vfD2 (n m K I : Nat) : Prop := vfD1 n K I ∨ (K = 13 ∧ I = 0) ∨ (K = 2 ∧ I < m) ∨ (K = 6 ∧ 10 ≤ I ∧ I < 10 + m)
def vf2 (n m : Nat) (Z Zk : zZ) (T : zS) : Prop := (∀ K I, Zk.2.1 K I ↔ vfD2 n m K I) ∧ (Zk.1 7 0 = Z.1 7 0 ∧ Zk.2.2 14 0 = n ∧ Zk.2.2 9 0 = n ∧ Zk.2.2 13 0 = 4) ∧ (∀ K I f, gi T K I f = if K = 9 ∧ I = 0 ∧ f < n then 1 else if K = 2 ∧ I < m ∧ f = 0 then nI I else 0) ∧ (∀ K I f, gj T K I f = 0) ∧ ∀ K I f, gr T K I f = if K = 7 ∧ I = 0 ∧ (f = 0 ∨ f = 1 ∨ f = 5) then some 0 else if K = 14 ∧ I = 0 ∧ f < n then some f else if K = 3 ∧ I < n ∧ f = 0 then some I else if K = 13 ∧ I = 0 ∧ f < m then some f else if K = 2 ∧ I < m ∧ f = 1 then some (10 + I) else none
theorem vf2_0 {n : Nat} {T : zS} {Z Zk Z1 : zZ} (h : vf1 n n Z Zk T) (hx1 : zext Zk Z1 13 0 4) : vf2 n 0 Z Z1 (sr (sz T 13 0) 7 0 1 (some 0)) := by
  obtain ⟨h1, ⟨h2, h3, h4⟩, h5, h6, h7⟩ := h
  refine ⟨fun K I => ?_, ⟨?_, ?_, ?_, hx1.2.2⟩, fun K I f => ?_, fun K I f => ?_, fun K I f => ?_⟩
  · rw [hx1.2.1, h1]
    unfold vfD2 vfD1
    omega
  · rw [(hx1.1 7 0 (by omega)).1]; exact h2
  · rw [(hx1.1 14 0 (by omega)).2]; exact h3
  · rw [(hx1.1 9 0 (by omega)).2]; exact h4
  · rw [gi_sr, gi_sz, h5]
    (repeat' split) <;> first | rfl | (exfalso; omega)
  · rw [gj_sr, gj_sz, h6]
    (repeat' split) <;> rfl
  · rw [gr_sr, gr_sz, h7]
    (repeat' split) <;> first | rfl | (exfalso; omega)
theorem vf2_s {n m : Nat} {T : zS} {Z Zk Z1 Z2 : zZ} (h : vf2 n m Z Zk T) (hm : m < 4) (hn : n ≤ 7) (hx1 : zext Zk Z1 2 m 0) (hx2 : zext Z1 Z2 6 (10 + m) 0) : vf2 n (m + 1) Z Z2 (sr (s_X2_init (sz T 2 m) m (nI m)) 13 0 (ix (nI m)) (some m)) := by
  obtain ⟨h1, ⟨h2, h3, h4, h8⟩, h5, h6, h7⟩ := h
  unfold s_X2_init
  refine ⟨fun K I => ?_, ⟨?_, ?_, ?_, ?_⟩, fun K I f => ?_, fun K I f => ?_, fun K I f => ?_⟩
  · rw [hx2.2.1, hx1.2.1, h1]
    unfold vfD2 vfD1
    omega
  · rw [(hx2.1 7 0 (by omega)).1, (hx1.1 7 0 (by omega)).1]; exact h2
  · rw [(hx2.1 14 0 (by omega)).2, (hx1.1 14 0 (by omega)).2]; exact h3
  · rw [(hx2.1 9 0 (by omega)).2, (hx1.1 9 0 (by omega)).2]; exact h4
  · rw [(hx2.1 13 0 (by omega)).2, (hx1.1 13 0 (by omega)).2]; exact h8
  · rw [ix_nI (by omega), gi_sr, gi_si, gi_sr, gi_sz, gi_sz, h5]
    (repeat' split) <;> first | rfl | (exfalso; omega) | (congr 1; omega)
  · rw [ix_nI (by omega), gj_sr, gj_si, gj_sr, gj_sz, gj_sz, h6]
    (repeat' split) <;> rfl
  · rw [ix_nI (by omega), gr_sr, gr_si, gr_sr, gr_sz, gr_sz, h7]
    (repeat' split) <;> first | rfl | (exfalso; omega) | (congr 1; omega)
noncomputable def vfU (n : Nat) (T : zS) : zS := sz (sr (sz (si (sr (s_X5_init (scp (sz (sr (sz T 16 0) 7 0 2 (some 0)) 5 0) 1 0) 0 1 (((nI n) / (2)) + (1)) (((nI n) / (2)) + (1))) 16 0 (ix 0) (some 0)) 7 0 6 1) 12 0) 7 0 3 (some 0)) 1 0
theorem vfU_gi {n : Nat} {T : zS} {Z Zk : zZ} (h : vf2 n 4 Z Zk T) (K I f : Nat) : gi (vfU n T) K I f = if K = 7 ∧ I = 0 ∧ f = 6 then 1 else if K = 5 ∧ I = 0 ∧ (f = 1 ∨ f = 2) then ((nI n) / (2)) + (1) else if K = 9 ∧ I ≤ 1 ∧ f < n then 1 else if K = 2 ∧ I < 4 ∧ f = 0 then nI I else 0 := by
  obtain ⟨-, -, h5, -, -⟩ := h
  unfold vfU s_X5_init
  rw [gi_sz, gi_sr, gi_sz, gi_si, gi_sr, gi_si, gi_si, gi_sr, gi_scp, gi_sz, gi_sz, gi_sr, gi_sr, gi_sz, gi_sz, h5, h5]
  (repeat' split) <;> first | rfl | (exfalso; omega) | (congr 1; omega)
theorem vfU_gj {n : Nat} {T : zS} {Z Zk : zZ} (h : vf2 n 4 Z Zk T) (K I f : Nat) : gj (vfU n T) K I f = 0 := by
  obtain ⟨-, -, -, h6, -⟩ := h
  show gj (sz (sr (sz (si (sr (s_X5_init (scp (sz (sr (sz T 16 0) 7 0 2 (some 0)) 5 0) 1 0) 0 1 (((nI n) / (2)) + (1)) (((nI n) / (2)) + (1))) 16 0 (ix 0) (some 0)) 7 0 6 1) 12 0) 7 0 3 (some 0)) 1 0) K I f = 0
  rw [gj_sz, gj_sr, gj_sz]
  have e : gj (si (sr (s_X5_init (scp (sz (sr (sz T 16 0) 7 0 2 (some 0)) 5 0) 1 0) 0 1 (((nI n) / (2)) + (1)) (((nI n) / (2)) + (1))) 16 0 (ix 0) (some 0)) 7 0 6 1) K I f = gj (sz (sr (sz T 16 0) 7 0 2 (some 0)) 5 0) K I f := rfl
  rw [e, gj_sz, gj_sr, gj_sz, h6]
  (repeat' split) <;> rfl
theorem vfU_gr {n : Nat} {T : zS} {Z Zk : zZ} (h : vf2 n 4 Z Zk T) : (∀ f, f = 0 ∨ f = 1 ∨ f = 2 ∨ f = 3 ∨ f = 5 → gr (vfU n T) 7 0 f = some 0) ∧ gr (vfU n T) 16 0 0 = some 0 ∧ (∀ t, 1 ≤ t → gr (vfU n T) 16 0 t = none) ∧ gr (vfU n T) 5 0 0 = some 1 ∧ (∀ c, c < n → gr (vfU n T) 14 0 c = some c ∧ gr (vfU n T) 3 c 0 = some c) ∧ (∀ c, c < 4 → gr (vfU n T) 13 0 c = some c ∧ gr (vfU n T) 2 c 1 = some (10 + c) ∧ gr (vfU n T) 2 c 2 = none) ∧ ∀ a, gr (vfU n T) 12 0 a = none := by
  obtain ⟨-, -, -, -, h7⟩ := h
  have e0 : ix 0 = 0 := rfl
  have hU : ∀ K I f, gr (vfU n T) K I f = if K = 1 ∧ I = 0 then none else if K = 7 ∧ I = 0 ∧ f = 3 then some 0 else if K = 12 ∧ I = 0 then none else if K = 16 ∧ I = 0 ∧ f = 0 then some 0 else if K = 5 ∧ I = 0 ∧ f = 0 then some 1 else if K = 9 ∧ I = 1 then none else if K = 5 ∧ I = 0 then none else if K = 7 ∧ I = 0 ∧ f = 2 then some 0 else if K = 16 ∧ I = 0 then none else gr T K I f := fun K I f => by
    unfold vfU s_X5_init
    rw [e0, gr_sz, gr_sr, gr_sz, gr_si, gr_sr, gr_si, gr_si, gr_sr, gr_scp, gr_sz, gr_sr, gr_sz]
  refine ⟨fun f hf => ?_, ?_, fun t ht => ?_, ?_, fun c hc => ⟨?_, ?_⟩, fun c hc => ⟨?_, ?_, ?_⟩, fun a => ?_⟩
  · rw [hU, if_neg (by omega)]
    by_cases f3 : f = 3
    · rw [if_pos ⟨rfl, rfl, f3⟩]
    · rw [if_neg (by omega), if_neg (by omega), if_neg (by omega), if_neg (by omega), if_neg (by omega), if_neg (by omega)]
      by_cases f2 : f = 2
      · rw [if_pos ⟨rfl, rfl, f2⟩]
      · rw [if_neg (by omega), if_neg (by omega), h7, if_pos (by omega)]
  · rw [hU, if_neg (by omega), if_neg (by omega), if_neg (by omega), if_pos ⟨rfl, rfl, rfl⟩]
  · rw [hU, if_neg (by omega), if_neg (by omega), if_neg (by omega), if_neg (by omega), if_neg (by omega), if_neg (by omega), if_neg (by omega), if_neg (by omega), if_pos ⟨rfl, rfl⟩]
  · rw [hU, if_neg (by omega), if_neg (by omega), if_neg (by omega), if_neg (by omega), if_pos ⟨rfl, rfl, rfl⟩]
  · rw [hU, if_neg (by omega), if_neg (by omega), if_neg (by omega), if_neg (by omega), if_neg (by omega), if_neg (by omega), if_neg (by omega), if_neg (by omega), if_neg (by omega), h7, if_neg (by omega), if_pos ⟨rfl, rfl, hc⟩]
  · rw [hU, if_neg (by omega), if_neg (by omega), if_neg (by omega), if_neg (by omega), if_neg (by omega), if_neg (by omega), if_neg (by omega), if_neg (by omega), if_neg (by omega), h7, if_neg (by omega), if_neg (by omega), if_pos ⟨rfl, hc, rfl⟩]
  · rw [hU, if_neg (by omega), if_neg (by omega), if_neg (by omega), if_neg (by omega), if_neg (by omega), if_neg (by omega), if_neg (by omega), if_neg (by omega), if_neg (by omega), h7, if_neg (by omega), if_neg (by omega), if_neg (by omega), if_pos ⟨rfl, rfl, hc⟩]
  · rw [hU, if_neg (by omega), if_neg (by omega), if_neg (by omega), if_neg (by omega), if_neg (by omega), if_neg (by omega), if_neg (by omega), if_neg (by omega), if_neg (by omega), h7, if_neg (by omega), if_neg (by omega), if_neg (by omega), if_neg (by omega), if_pos ⟨rfl, hc, rfl⟩]
  · rw [hU, if_neg (by omega), if_neg (by omega), if_neg (by omega), if_neg (by omega), if_neg (by omega), if_neg (by omega), if_neg (by omega), if_neg (by omega), if_neg (by omega), h7, if_neg (by omega), if_neg (by omega), if_neg (by omega), if_neg (by omega), if_neg (by omega)]
  · rw [hU, if_neg (by omega), if_neg (by omega), if_pos ⟨rfl, rfl⟩]
/-- what the constructor leaves -/
def vfP (n : Nat) (Z : zZ) (S : zS) : Prop :=
  zV n Z S.2.2 ∧ frs 1 0 Z ∧ (gi S 7 0 6 = 1 ∧ gi S 7 0 7 = 0 ∧ gi S 7 0 8 = 0 ∧ gi S 1 0 2 = 0 ∧ gi S 1 0 3 = 0) ∧ (∀ k, k < n → (∀ f, gi S 3 k f = 0) ∧ (∀ f, gi S 6 k f = 0) ∧ gj S 6 k 2 = 0 ∧ gi S 9 0 k = 1 ∧ gi S 9 1 k = 1) ∧ (gi S 5 0 1 = ((nI n) / (2)) + (1) ∧ gi S 5 0 2 = ((nI n) / (2)) + (1)) ∧
  (∀ c, c < 4 → gi S 2 c 0 = nI c ∧ (∀ f, 1 ≤ f → gi S 2 c f = 0) ∧ gr S 2 c 2 = none) ∧ (gr S 16 0 0 = some 0 ∧ ∀ t, 1 ≤ t → gr S 16 0 t = none) ∧ (∀ a, gr S 12 0 a = none) ∧ ∀ j, j < 301 → gi S 4 j 1 = 0
