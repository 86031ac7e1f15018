set_option maxHeartbeats 400000 in
theorem vf_end {n : Nat} {T V : zS} {Z Zk Za Zb Zc Zd Ze Zf : zZ} (h : vf2 n 4 Z Zk T) (hn : 1 ≤ n ∧ n ≤ 7) (xa : zext Zk Za 16 0 16) (xb : zext Za Zb 5 0 0) (xc : zext Zb Zc 9 1 n) (xd : zext Zc Zd 12 0 200) (xe : zext Zd Ze 1 0 0) (har : arI 300 Ze (vfU n T) Zf V) : vfP n Zf (sr V 7 0 4 (some 0)) ∧ Zf.1 7 0 = Z.1 7 0 := by
  obtain ⟨u1, u2, u3, u4, u5, u6, u7⟩ := vfU_gr h
  have ug := vfU_gi h
  have uj := vfU_gj h
  obtain ⟨d1, ⟨l0, l1, l2, l3⟩, -, -, -⟩ := h
  generalize vfU n T = U at *
  obtain ⟨a1, a2, ⟨a3, a4, a5, a6⟩, a7, a8⟩ := har
  have dE : ∀ K I, Ze.2.1 K I ↔ vfD2 n 4 K I ∨ (K = 16 ∧ I = 0) ∨ (K = 5 ∧ I = 0) ∨ (K = 9 ∧ I = 1) ∨ (K = 12 ∧ I = 0) ∨ (K = 1 ∧ I = 0) := fun K I => by
    rw [xe.2.1, xd.2.1, xc.2.1, xb.2.1, xa.2.1, d1]
    simp only [or_assoc]
  have dF : ∀ K I, ¬ (K = 15 ∧ I = 0) → ¬ K = 4 → ¬ (K = 6 ∧ 20 ≤ I) → (Zf.2.1 K I ↔ Ze.2.1 K I) := fun K I q1 q2 q3 => (a1 K I q1 (by omega) (by omega)).1
  have lE : ∀ K I, ¬ (K = 16 ∧ I = 0) → ¬ (K = 5 ∧ I = 0) → ¬ (K = 9 ∧ I = 1) → ¬ (K = 12 ∧ I = 0) → ¬ (K = 1 ∧ I = 0) → Ze.2.2 K I = Zk.2.2 K I := fun K I q1 q2 q3 q4 q5 => by
    rw [(xe.1 K I q5).2, (xd.1 K I q4).2, (xc.1 K I q3).2, (xb.1 K I q2).2, (xa.1 K I q1).2]
  have lF : ∀ K I, ¬ (K = 15 ∧ I = 0) → ¬ K = 4 → ¬ (K = 6 ∧ 20 ≤ I) → Zf.2.2 K I = Ze.2.2 K I := fun K I q1 q2 q3 => (a1 K I q1 (by omega) (by omega)).2.2
  have gF : ∀ K I f, ¬ (K = 15 ∧ I = 0) → ¬ K = 4 → ¬ (K = 6 ∧ 20 ≤ I) → gi (sr V 7 0 4 (some 0)) K I f = gi U K I f := fun K I f q1 q2 q3 => by rw [gi_sr]; exact (a2 K I f q1 (by omega) (by omega)).1
  have jF : ∀ K I f, ¬ (K = 15 ∧ I = 0) → ¬ K = 4 → ¬ (K = 6 ∧ 20 ≤ I) → gj (sr V 7 0 4 (some 0)) K I f = gj U K I f := fun K I f q1 q2 q3 => by rw [gj_sr]; exact (a2 K I f q1 (by omega) (by omega)).2.1
  have rF : ∀ K I f, ¬ (K = 15 ∧ I = 0) → ¬ K = 4 → ¬ (K = 6 ∧ 20 ≤ I) → K ≠ 1 → ¬ (K = 7 ∧ I = 0 ∧ f = 4) → gr (sr V 7 0 4 (some 0)) K I f = gr U K I f := fun K I f q1 q2 q3 q4 q5 => by rw [gr_sr, if_neg q5]; exact (a2 K I f q1 (by omega) (by omega)).2.2 (by omega)
  have rO : ∀ K I f, ¬ K = 7 → gr (sr V 7 0 4 (some 0)) K I f = gr V K I f := fun K I f q => by rw [gr_sr, if_neg (by omega)]
  have r74 : gr (sr V 7 0 4 (some 0)) 7 0 4 = some 0 := by rw [gr_sr, if_pos ⟨rfl, rfl, rfl⟩]
  have g4 : ∀ K I f, gi (sr V 7 0 4 (some 0)) K I f = gi V K I f := fun K I f => gi_sr _ _ _ _ _ _ _ _
  generalize sr V 7 0 4 (some 0) = S' at *
  have r7 : ∀ f, f = 0 ∨ f = 1 ∨ f = 2 ∨ f = 3 ∨ f = 5 → gr S' 7 0 f = some 0 := fun f hf => by rw [rF _ _ _ (by omega) (by omega) (by omega) (by omega) (by omega)]; exact u1 f hf
  have hpm : ∀ j, j < 300 → pmR S'.2.2 j = j := fun j hj => pmR_of ((rO _ _ _ (by omega)).trans (a8 j hj))
  have htk : tkR S'.2.2 = 300 := tkR_of ((rO _ _ _ (by omega)).trans a6)
  have aF : Zf.1 7 0 = Z.1 7 0 := by rw [(a1 7 0 (by omega) (by omega) (by omega)).2.1, (xe.1 7 0 (by omega)).1, (xd.1 7 0 (by omega)).1, (xc.1 7 0 (by omega)).1, (xb.1 7 0 (by omega)).1, (xa.1 7 0 (by omega)).1]; exact l0
  refine ⟨?_, aF⟩
  refine ⟨⟨⟨⟨?_, r7 0 (by omega), r7 1 (by omega), r7 2 (by omega), r7 3 (by omega), ?_, r7 5 (by omega)⟩, ?_, (rO _ _ _ (by omega)).trans a5, ?_, ?_, ?_, a4⟩, ⟨hn, ?_, ?_, fun c hc => ⟨?_, ?_, ?_⟩⟩, fun c hc => ⟨?_, ?_, ?_⟩, ⟨fun j hj => ⟨(a7 j (by omega)).1, ?_⟩, fun j hj => ?_, ?_, ?_, fun i j hi hj e => ?_, fun j hj => ?_⟩, fun t ht => ?_, fun a ha => ?_, fun c hc => ?_⟩, ⟨fun a _ q => ?_, fun t ht => ⟨fun q => ?_, fun q => ?_⟩⟩, ⟨?_, ?_, ?_, ?_, ?_⟩, fun k hk => ⟨fun f => ?_, fun f => ?_, ?_, ?_, ?_⟩, ⟨?_, ?_⟩, fun c hc => ⟨?_, fun f hf => ?_, ?_⟩, ⟨?_, fun t ht => ?_⟩, fun a => ?_, fun j hj => ?_⟩
  · rw [dF _ _ (by omega) (by omega) (by omega), dE]; unfold vfD2 vfD1; omega
  · exact r74
  · rw [dF _ _ (by omega) (by omega) (by omega), dE]; omega
  · rw [lF _ _ (by omega) (by omega) (by omega), lE _ _ (by omega) (by omega) (by omega) (by omega) (by omega)]; exact l3
  · rw [lF _ _ (by omega) (by omega) (by omega), (xe.1 16 0 (by omega)).2, (xd.1 16 0 (by omega)).2, (xc.1 16 0 (by omega)).2, (xb.1 16 0 (by omega)).2]; exact xa.2.2
  · rw [lF _ _ (by omega) (by omega) (by omega), (xe.1 12 0 (by omega)).2]; exact xd.2.2
  · rw [lF _ _ (by omega) (by omega) (by omega), lE _ _ (by omega) (by omega) (by omega) (by omega) (by omega)]; exact l1
  · rw [lF _ _ (by omega) (by omega) (by omega), lE _ _ (by omega) (by omega) (by omega) (by omega) (by omega)]; exact l2
  · rw [dF _ _ (by omega) (by omega) (by omega), dE]; unfold vfD2 vfD1; omega
  · exact (rF _ _ _ (by omega) (by omega) (by omega) (by omega) (by omega)).trans (u5 c hc).1
  · exact (rF _ _ _ (by omega) (by omega) (by omega) (by omega) (by omega)).trans (u5 c hc).2
  · rw [dF _ _ (by omega) (by omega) (by omega), dE]; unfold vfD2 vfD1; omega
  · exact (rF _ _ _ (by omega) (by omega) (by omega) (by omega) (by omega)).trans (u6 c hc).1
  · exact (rF _ _ _ (by omega) (by omega) (by omega) (by omega) (by omega)).trans (u6 c hc).2.1
  · exact (rO _ _ _ (by omega)).trans (a7 j (by omega)).2.2.1
  · rw [hpm j hj]
    exact ⟨(rO _ _ _ (by omega)).trans (a8 j hj), by omega⟩
  · rw [htk]; exact (rO _ _ _ (by omega)).trans a6
  · rw [htk]; omega
  · rw [hpm i hi, hpm j hj] at e; exact e
  · rw [hpm j hj, htk]; omega
  · by_cases t0 : t = 0
    · subst t0
      refine Or.inr ⟨(rF _ _ _ (by omega) (by omega) (by omega) (by omega) (by omega)).trans u2, ?_, (rF _ _ _ (by omega) (by omega) (by omega) (by omega) (by omega)).trans u4, ?_⟩
      · rw [dF _ _ (by omega) (by omega) (by omega), dE]; omega
      · rw [lF _ _ (by omega) (by omega) (by omega), (xe.1 9 1 (by omega)).2, (xd.1 9 1 (by omega)).2]; exact xc.2.2
    · exact Or.inl ((rF _ _ _ (by omega) (by omega) (by omega) (by omega) (by omega)).trans (u3 t (by omega)))
  · exact Or.inl ((rF _ _ _ (by omega) (by omega) (by omega) (by omega) (by omega)).trans (u7 a))
  · exact Or.inl ((rF _ _ _ (by omega) (by omega) (by omega) (by omega) (by omega)).trans (u6 c hc).2.2)
  · rw [dF _ _ (by omega) (by omega) (by omega), dE] at q; unfold vfD2 vfD1 at q; omega
  · rw [dF _ _ (by omega) (by omega) (by omega), dE] at q; unfold vfD2 vfD1 at q; omega
  · rw [dF _ _ (by omega) (by omega) (by omega), dE] at q; unfold vfD2 vfD1 at q; omega
  · rw [gF _ _ _ (by omega) (by omega) (by omega), ug, if_pos ⟨rfl, rfl, rfl⟩]
  · rw [gF _ _ _ (by omega) (by omega) (by omega), ug, if_neg (by omega), if_neg (by omega), if_neg (by omega), if_neg (by omega)]
  · rw [gF _ _ _ (by omega) (by omega) (by omega), ug, if_neg (by omega), if_neg (by omega), if_neg (by omega), if_neg (by omega)]
  · rw [gF _ _ _ (by omega) (by omega) (by omega), ug, if_neg (by omega), if_neg (by omega), if_neg (by omega), if_neg (by omega)]
  · rw [gF _ _ _ (by omega) (by omega) (by omega), ug, if_neg (by omega), if_neg (by omega), if_neg (by omega), if_neg (by omega)]
  · rw [gF _ _ _ (by omega) (by omega) (by omega), ug, if_neg (by omega), if_neg (by omega), if_neg (by omega), if_neg (by omega)]
  · rw [gF _ _ _ (by omega) (by omega) (by omega), ug, if_neg (by omega), if_neg (by omega), if_neg (by omega), if_neg (by omega)]
  · rw [jF _ _ _ (by omega) (by omega) (by omega)]; exact uj _ _ _
  · rw [gF _ _ _ (by omega) (by omega) (by omega), ug, if_neg (by omega), if_neg (by omega), if_pos (by omega)]
  · rw [gF _ _ _ (by omega) (by omega) (by omega), ug, if_neg (by omega), if_neg (by omega), if_pos (by omega)]
  · rw [gF _ _ _ (by omega) (by omega) (by omega), ug, if_neg (by omega), if_pos (by omega)]
  · rw [gF _ _ _ (by omega) (by omega) (by omega), ug, if_neg (by omega), if_pos (by omega)]
  · rw [gF _ _ _ (by omega) (by omega) (by omega), ug, if_neg (by omega), if_neg (by omega), if_neg (by omega), if_pos ⟨rfl, hc, rfl⟩]
  · rw [gF _ _ _ (by omega) (by omega) (by omega), ug, if_neg (by omega), if_neg (by omega), if_neg (by omega), if_neg (by omega)]
  · exact (rF _ _ _ (by omega) (by omega) (by omega) (by omega) (by omega)).trans (u6 c hc).2.2
  · exact (rF _ _ _ (by omega) (by omega) (by omega) (by omega) (by omega)).trans u2
  · exact (rF _ _ _ (by omega) (by omega) (by omega) (by omega) (by omega)).trans (u3 t ht)
  · exact (rF _ _ _ (by omega) (by omega) (by omega) (by omega) (by omega)).trans (u7 a)
  · rw [g4]; exact (a7 j (by omega)).2.2.2.1 1
