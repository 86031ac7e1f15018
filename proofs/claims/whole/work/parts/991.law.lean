theorem zU_tbl {w : Cond} (h : w ∈ zU) : w ∈ lw_tbl := (List.mem_filter.mp h).1
theorem tbl_in {w : Cond} (i : Nat) (h : tables_1[i]? = some w) : w ∈ lw_tbl := List.mem_append_right _ (List.mem_of_getElem? h)
theorem lo_X0 : Cond.arrayOver (.object RX0) ∈ lw_tbl := tbl_in 146 (by decide +kernel)
theorem lo_X2 : Cond.arrayOver (.object RX2) ∈ lw_tbl := tbl_in 74 (by decide +kernel)
theorem lo_X3 : Cond.arrayOver (.object RX3) ∈ lw_tbl := tbl_in 26 (by decide +kernel)
theorem lo_X4 : Cond.arrayOver (.object RX4) ∈ lw_tbl := tbl_in 154 (by decide +kernel)
theorem lo_X5 : Cond.arrayOver (.object RX5) ∈ lw_tbl := tbl_in 119 (by decide +kernel)
theorem ln_7 : Cond.methodLinkNest RX7 28 yX3_init RX7 ∈ lw_tbl := tbl_in 28 (by decide +kernel)
theorem ln_3 : Cond.methodLinkNest RX3 11 yX6_init RX7 ∈ lw_tbl := tbl_in 34 (by decide +kernel)
theorem ln_2 : Cond.methodLinkNest RX2 11 yX6_init RX7 ∈ lw_tbl := tbl_in 81 (by decide +kernel)
theorem ln_1 : Cond.methodLinkNest RX1 17 yX4_init RX7 ∈ lw_tbl := tbl_in 156 (by decide +kernel)
theorem ln_4 : Cond.methodLinkNest RX4 9 yX6_init RX7 ∈ lw_tbl := tbl_in 161 (by decide +kernel)
theorem ln_c : Cond.castable "[I" "java/lang/Cloneable" ∈ lw_tbl := tbl_in 126 (by decide +kernel)
theorem arr_p {s : State} {args : Array Value} {ty : FieldType} (h : (Cond.arrayClass ty).before args s = true) : ∃ c, ArrOfT s c ty ∧ s.vm.findClass ("[" ++ ty.toString) = some c := by
  obtain ⟨c, k, comp, h1, h2, h3⟩ := Cond.arrayClass_spec h
  exact ⟨c, fun n z => ⟨(fun k h => by cases h), k, h2, comp, h3⟩, h1⟩
theorem arr_o {s : State} {args : Array Value} {C : String} (h : (Cond.arrayOver (.object C)).before args s = true) : ∃ c, ArrOfT s c (.object C) ∧ va_RA s c (.object C) := by
  obtain ⟨comp, c, k, h1, -, h3, h4, h5⟩ := Cond.arrayOver_spec h
  exact ⟨c, fun n z => ⟨(fun k h => by cases h), k, h3, comp, h4⟩, k, comp, h3, h4, h1, h5⟩
theorem law_K {s : State} {args : Array Value} (hts : ∀ w ∈ lw_tbl, w.before args s = true) : ∃ (D : va_G) (ar : Nat → ClassId), zK D ar s := by
  have hz : ∀ w ∈ zU, w.before args s = true := fun w hw => hts w (zU_tbl hw)
  obtain ⟨d0, e0, f0⟩ := u_known hz zc0.2.2.2.1 (hz _ lt_X0)
  obtain ⟨d1, e1, f1⟩ := u_known hz zc1.2.2.2.1 (hz _ lt_X1)
  obtain ⟨d2, e2, f2⟩ := u_known hz zc2.2.2.2.1 (hz _ lt_X2)
  obtain ⟨d3, e3, f3⟩ := u_known hz zc3.2.2.2.1 (hz _ lt_X3)
  obtain ⟨d4, e4, f4⟩ := u_known hz zc4.2.2.2.1 (hz _ lt_X4)
  obtain ⟨d5, e5, f5⟩ := u_known hz zc5.2.2.2.1 (hz _ lt_X5)
  obtain ⟨d6, e6, f6⟩ := u_known hz zc6.2.2.2.1 (hz _ lt_X6)
  obtain ⟨d7, e7, f7⟩ := u_known hz zc7.2.2.2.1 (hz _ lt_X7)
  obtain ⟨d8, e8, f8⟩ := u_known hz zc8.2.2.2.1 (hz _ lt_X8)
  obtain ⟨a9, b9, c9⟩ := arr_p (hz _ la_int)
  obtain ⟨a10, b10, c10⟩ := arr_p (hz _ la_long)
  obtain ⟨a11, b11, c11⟩ := arr_p (hz _ la_boolean)
  obtain ⟨a12, b12, c12⟩ := arr_o (hts _ lo_X0)
  obtain ⟨a13, b13, c13⟩ := arr_o (hts _ lo_X2)
  obtain ⟨a14, b14, c14⟩ := arr_o (hts _ lo_X3)
  obtain ⟨a15, b15, c15⟩ := arr_o (hts _ lo_X4)
  obtain ⟨a16, b16, c16⟩ := arr_o (hts _ lo_X5)
  refine ⟨(fun k => match k with | 0 => d0 | 1 => d1 | 2 => d2 | 3 => d3 | 4 => d4 | 5 => d5 | 6 => d6 | 7 => d7 | _ => d8, fun k => match k with | 0 => e0 | 1 => e1 | 2 => e2 | 3 => e3 | 4 => e4 | 5 => e5 | 6 => e6 | 7 => e7 | _ => e8), fun k => match k with | 9 => a9 | 10 => a10 | 11 => a11 | 12 => a12 | 13 => a13 | 14 => a14 | 15 => a15 | _ => a16, ⟨fun k q hq => ?_, fun k q hq => ?_⟩, va_Nw.of rfl (hts _ ln_c), va_Nw.of rfl (hts _ ln_7), va_Nw.of rfl (hts _ ln_3), va_Nw.of rfl (hts _ ln_2), va_Nw.of rfl (hts _ ln_1), va_Nw.of rfl (hts _ ln_4), va_AO.of (hts _ lo_X0), va_AO.of (hts _ lo_X2), va_AO.of (hts _ lo_X3), va_AO.of (hts _ lo_X4), va_AO.of (hts _ lo_X5)⟩
  · match k, hq with
    | 0, hq => cases hq; exact f0
    | 1, hq => cases hq; exact f1
    | 2, hq => cases hq; exact f2
    | 3, hq => cases hq; exact f3
    | 4, hq => cases hq; exact f4
    | 5, hq => cases hq; exact f5
    | 6, hq => cases hq; exact f6
    | 7, hq => cases hq; exact f7
    | 8, hq => cases hq; exact f8
    | k + 9, hq => cases hq
  · match k, hq with
    | 0, hq => cases hq; exact ⟨b9, c9⟩
    | 1, hq => cases hq; exact ⟨b10, c10⟩
    | 2, hq => cases hq; exact ⟨b11, c11⟩
    | 3, hq => cases hq; exact ⟨b12, c12⟩
    | 4, hq => cases hq; exact ⟨b13, c13⟩
    | 5, hq => cases hq; exact ⟨b14, c14⟩
    | 6, hq => cases hq; exact ⟨b15, c15⟩
    | 7, hq => cases hq; exact ⟨b16, c16⟩
    | k + 8, hq => cases hq
/-- the two worlds in one heap: what lies from lo on, none of it the other's -/
def lwA (lo : Nat) (Zo : zZ) : Nat → Prop := fun q => lo ≤ q ∧ ∀ k i, Zo.2.1 k i → Zo.1 k i ≠ q
def lwW (lo : Nat) (D : va_G) (ar : Nat → ClassId) (Z1 Z2 : zZ) (S1 S2 : zS) (H : Heap) : Prop := zW D ar (fun q => lo ≤ q) Z1 S1 H ∧ zW D ar (fun q => lo ≤ q) Z2 S2 H ∧ ∀ k i k' i', Z1.2.1 k i → Z2.2.1 k' i' → Z1.1 k i ≠ Z2.1 k' i'
theorem lwW.swap {lo : Nat} {D : va_G} {ar : Nat → ClassId} {Z1 Z2 : zZ} {S1 S2 : zS} {H : Heap} (w : lwW lo D ar Z1 Z2 S1 S2 H) : lwW lo D ar Z2 Z1 S2 S1 H := ⟨w.2.1, w.1, fun k i k' i' h1 h2 e => w.2.2 k' i' k i h2 h1 e.symm⟩
theorem zW.re {D : va_G} {ar : Nat → ClassId} {A A' : Nat → Prop} {Z : zZ} {S : zS} {H : Heap} (h : zW D ar A Z S H) (hA : ∀ k i, Z.2.1 k i → A' (Z.1 k i)) : zW D ar A' Z S H := ⟨fun k i hd => ⟨(h.1 k i hd).1, hA k i hd⟩, h.2.1, h.2.2⟩
theorem zW.keep {D : va_G} {ar : Nat → ClassId} {A : Nat → Prop} {Z : zZ} {S : zS} {H H' : Heap} (h : zW D ar A Z S H) (hq : ∀ k i, Z.2.1 k i → H'[Z.1 k i]? = H[Z.1 k i]?) : zW D ar A Z S H' := ⟨fun k i hd => ⟨(h.1 k i hd).1.kept (hq k i hd) (fun f => rfl), (h.1 k i hd).2⟩, h.2.1, h.2.2⟩
theorem lwW.own {lo : Nat} {D : va_G} {ar : Nat → ClassId} {Z1 Z2 : zZ} {S1 S2 : zS} {H : Heap} (w : lwW lo D ar Z1 Z2 S1 S2 H) : zW D ar (lwA lo Z2) Z1 S1 H := w.1.re (fun k i hd => ⟨(w.1.1 k i hd).2, fun k' i' hd' e => w.2.2 k i k' i' hd hd' e.symm⟩)
theorem lwW.free {lo : Nat} {D : va_G} {ar : Nat → ClassId} {Z1 Z2 : zZ} {S1 S2 : zS} {H : Heap} (w : lwW lo D ar Z1 Z2 S1 S2 H) (hlo : lo ≤ H.size) (q : Nat) (hq : H.size ≤ q) : lwA lo Z2 q := ⟨Nat.le_trans hlo hq, fun k i hd e => by
  have := (w.2.1.1 k i hd).1.lt
  omega⟩
theorem lwW.step {lo : Nat} {D : va_G} {ar : Nat → ClassId} {Z1 Z2 Z1' : zZ} {S1 S2 S1' : zS} {H H1 : Heap} {locs1 : List Loc} (w : lwW lo D ar Z1 Z2 S1 S2 H) (hW : zW D ar (lwA lo Z2) Z1' S1' H1) (hS : va_S (lwA lo Z2) H H1 locs1) : lwW lo D ar Z1' Z2 S1' S2 H1 :=
  ⟨hW.re (fun k i hd => (hW.1 k i hd).2.1), w.2.1.keep (fun k i hd => hS.2.1 _ (w.2.1.1 k i hd).1.lt (fun q => q.2 k i hd rfl)), fun k i k' i' h1 h2 e => (hW.1 k i h1).2.2 k' i' h2 e.symm⟩
theorem law_S {lo : Nat} {Z2 : zZ} {H0 H H1 : Heap} {locs locs1 : List Loc} (h0 : va_S (fun q => lo ≤ q) H0 H locs) (hS : va_S (lwA lo Z2) H H1 locs1) : va_S (fun q => lo ≤ q) H0 H1 locs1 :=
  ⟨Nat.le_trans h0.1 hS.1, fun q h1 h2 => (hS.2.1 q (Nat.lt_of_lt_of_le h1 h0.1) (fun r => h2 r.1)).trans (h0.2.1 q h1 h2), fun l hl => (hS.2.2 l hl).1⟩
section LW
variable {p : Program} {l : Launch} {e : Env} {R : Room} {s : State} {m : MethodId} {args : Array Value} {below : List Frame} {meth : Method} {c : Code} {H : Heap} {locs : List Loc} {cells slots : Nat} {Q : State → Prop}
variable {cc : ByteArray} {pc : Nat} {ls : Array Slot} {rest st0 : List Value} {D : va_G} {ar : Nat → ClassId} {Z1 Z2 : zZ} {S1 S2 : zS} {own C : String} {T : u_T} {N k i index a n maxL : Nat} {α : Type} {rv : zZ → α → Option Value} {post : α → zZ → zS → Prop} {y : MethodName} {bytes : ByteArray} {ret : Option FieldType} {rm : Room} {As : List Value}
theorem lawV (hM : zM p c m args s cc own D ar) (hml : c.maxLocals = ls.size) (w : lwW s.heap.size D ar Z1 Z2 S1 S2 H) (hS0 : va_S (fun q => s.heap.size ≤ q) s.heap H locs) (hC : zCl k C T N) (hd : Z1.2.1 k i) (ha : Z1.1 k i = a) (hy : zY C y bytes maxL ret n) (hl : Cond.methodLink own index y ∈ zU) (hi : Cond.instanceMethod y ∈ zU) (hse : Cond.selects C y y ∈ zU)
    (hMet : zMet l y bytes maxL ret rm D ar (lwA s.heap.size Z2) Z1 S1 (.ref (Z1.1 k i) :: As) rv post) (hn : As.length = n) (hst : st0 = As.reverse ++ .ref a :: rest) (h8 : (rest.map fun v => v.category).sum ≤ 8) (hR : rm.frames + 1 ≤ R.frames ∧ 8 + (maxL + 11) + rm.locals ≤ R.locals) (hf : cells + rm.cells ≤ R.cells ∧ slots + rm.slots ≤ R.slots) (hdg : decode cc pc = .ok (.invokevirtual index, 3))
    (kk : ∀ (r : α) (Z' : zZ) (S' : zS) (H1 : Heap) (locs1 : List Loc), post r Z' S' → lwW s.heap.size D ar Z' Z2 S' S2 H1 → va_S (fun q => s.heap.size ≤ q) s.heap H1 locs1 → W p l e R s m args below meth c H1 locs1 (cells + rm.cells) (slots + rm.slots) Q (F0 m (pc + 3) ls ((rv Z' r).toList ++ rest))) : W p l e R s m args below meth c H locs cells slots Q (F0 m pc ls st0) := by
  subst ha
  exact va_forget hS0.2.2 (z_callV hM hml w.own va_S.rf (fun q hq => w.free hS0.1 q hq) hC hd hy hl hi hse hMet hn hst h8 hR hf hdg (fun r Z' S' H1 locs1 hp hW1 hS1 => kk r Z' S' H1 locs1 hp (w.step hW1 hS1) (law_S hS0 hS1)))
theorem lawI (hM : zM p c m args s cc own D ar) (hml : c.maxLocals = ls.size) (w : lwW s.heap.size D ar Z1 Z2 S1 S2 H) (hS0 : va_S (fun q => s.heap.size ≤ q) s.heap H locs) (hy : zY C y bytes maxL none n) (hy1 : y.name = "<init>") (hl : Cond.methodLink own index y ∈ zU) (hi : Cond.instanceMethod y ∈ zU)
    (hMet : zMet l y bytes maxL none rm D ar (lwA s.heap.size Z2) Z1 S1 (.ref a :: As) rv post) (hn : As.length = n) (hst : st0 = As.reverse ++ .ref a :: rest) (h8 : (rest.map fun v => v.category).sum ≤ 8) (hR : rm.frames + 1 ≤ R.frames ∧ 8 + (maxL + 11) + rm.locals ≤ R.locals) (hf : cells + rm.cells ≤ R.cells ∧ slots + rm.slots ≤ R.slots) (hdg : decode cc pc = .ok (.invokespecial index, 3))
    (kk : ∀ (r : α) (Z' : zZ) (S' : zS) (H1 : Heap) (locs1 : List Loc), post r Z' S' → lwW s.heap.size D ar Z' Z2 S' S2 H1 → va_S (fun q => s.heap.size ≤ q) s.heap H1 locs1 → W p l e R s m args below meth c H1 locs1 (cells + rm.cells) (slots + rm.slots) Q (F0 m (pc + 3) ls ((rv Z' r).toList ++ rest))) : W p l e R s m args below meth c H locs cells slots Q (F0 m pc ls st0) :=
  va_forget hS0.2.2 (z_callI hM hml w.own va_S.rf (fun q hq => w.free hS0.1 q hq) hy hy1 hl hi hMet hn hst h8 hR hf hdg (fun r Z' S' H1 locs1 hp hW1 hS1 => kk r Z' S' H1 locs1 hp (w.step hW1 hS1) (law_S hS0 hS1)))
end LW
