/-- the reference's array of field g -/
def isN (f k i : Nat) : Prop := ∃ g, g < f ∧ zk 8 g ≠ 0 ∧ k = zk 8 g - 2 ∧ i = 100 + g
/-- all array fields below f are made: against the state S before -/
def mdI (f : Nat) (Z : zZ) (S : zS) (Z' : zZ) (S' : zS) : Prop :=
  (∀ k i, ¬ isN f k i → ((Z'.2.1 k i ↔ Z.2.1 k i) ∧ Z'.1 k i = Z.1 k i ∧ Z'.2.2 k i = Z.2.2 k i)) ∧
  (∀ k i x, ¬ isN f k i → gi S' k i x = gi S k i x ∧ gj S' k i x = gj S k i x ∧ (¬ (k = 8 ∧ i = 0 ∧ x < f) → gr S' k i x = gr S k i x)) ∧
  ∀ g, g < f → zk 8 g ≠ 0 → Z'.2.1 (zk 8 g - 2) (100 + g) ∧ Z'.2.2 (zk 8 g - 2) (100 + g) = mlen g ∧ gr S' 8 0 g = some (100 + g) ∧ ∀ x, gi S' (zk 8 g - 2) (100 + g) x = 0 ∧ gj S' (zk 8 g - 2) (100 + g) x = 0
theorem mdI.zero {Z : zZ} {S : zS} : mdI 0 Z S Z S := ⟨fun _ _ _ => ⟨Iff.rfl, rfl, rfl⟩, fun _ _ _ _ => ⟨rfl, rfl, fun _ => rfl⟩, fun g h => absurd h (by omega)⟩
theorem mdI.skip {f : Nat} {Z Z1 : zZ} {S T : zS} (h : mdI f Z S Z1 T) (h0 : zk 8 f = 0) : mdI (f + 1) Z S Z1 T := by
  have e : ∀ k i, isN f k i → isN (f + 1) k i := fun k i ⟨g, q1, q2⟩ => ⟨g, by omega, q2⟩
  refine ⟨fun k i n => h.1 k i (fun q => n (e k i q)), fun k i x n => ⟨(h.2.1 k i x (fun q => n (e k i q))).1, (h.2.1 k i x (fun q => n (e k i q))).2.1, fun n2 => (h.2.1 k i x (fun q => n (e k i q))).2.2 (by omega)⟩, fun g hg hz => ?_⟩
  have : g ≠ f := fun q => hz (by rw [q]; exact h0)
  exact h.2.2 g (by omega) hz
theorem mdI.step {f K : Nat} {Z Z1 Z2 : zZ} {S T : zS} (h : mdI f Z S Z1 T) (hK : zk 8 f = K + 2) (hK8 : K ≠ 8) (hx : zext Z1 Z2 K (100 + f) (mlen f)) : mdI (f + 1) Z S Z2 (sr (sz T K (100 + f)) 8 0 f (some (100 + f))) := by
  have e : ∀ k i, isN f k i → isN (f + 1) k i := fun k i ⟨g, q1, q2⟩ => ⟨g, by omega, q2⟩
  have ef : isN (f + 1) K (100 + f) := ⟨f, by omega, by omega, by omega, rfl⟩
  have ne : ∀ k i, ¬ isN (f + 1) k i → ¬ (k = K ∧ i = 100 + f) := fun k i n q => n (by rw [q.1, q.2]; exact ef)
  refine ⟨fun k i n => ?_, fun k i x n => ⟨?_, ?_, fun n2 => ?_⟩, fun g hg hz => ?_⟩
  · have a := hx.1 k i (ne k i n)
    have b := h.1 k i (fun q => n (e k i q))
    exact ⟨⟨fun q => ((hx.2.1 k i).mp q).elim b.1.mp (fun r => absurd r (ne k i n)), fun q => (hx.2.1 k i).mpr (Or.inl (b.1.mpr q))⟩, a.1.trans b.2.1, a.2.trans b.2.2⟩
  · rw [gi_sr, gi_sz, if_neg (ne k i n)]; exact (h.2.1 k i x (fun q => n (e k i q))).1
  · rw [gj_sr, gj_sz, if_neg (ne k i n)]; exact (h.2.1 k i x (fun q => n (e k i q))).2.1
  · rw [gr_sr, if_neg (by omega), gr_sz, if_neg (ne k i n)]; exact (h.2.1 k i x (fun q => n (e k i q))).2.2 (by omega)
  · by_cases eg : g = f
    · subst eg
      rw [hK, show K + 2 - 2 = K by omega]
      refine ⟨(hx.2.1 _ _).mpr (Or.inr ⟨rfl, rfl⟩), hx.2.2, ?_, fun x => ⟨?_, ?_⟩⟩
      · rw [gr_sr, if_pos ⟨rfl, rfl, rfl⟩]
      · rw [gi_sr, gi_sz, if_pos ⟨rfl, rfl⟩]
      · rw [gj_sr, gj_sz, if_pos ⟨rfl, rfl⟩]
    · obtain ⟨b1, b2, b3, b4⟩ := h.2.2 g (by omega) hz
      refine ⟨(hx.2.1 _ _).mpr (Or.inl b1), ((hx.1 _ _ (by omega)).2).trans b2, ?_, fun x => ⟨?_, ?_⟩⟩
      · rw [gr_sr, if_neg (by omega), gr_sz, if_neg (by omega)]; exact b3
      · rw [gi_sr, gi_sz, if_neg (by omega)]; exact (b4 x).1
      · rw [gj_sr, gj_sz, if_neg (by omega)]; exact (b4 x).2
