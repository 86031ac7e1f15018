/-! VotedFileLaw.cell at 0 -/
def zPx (D : va_G) (ar : Nat → ClassId) (A : Nat → Prop) (Z : zZ) (S : zS) (b L : Nat) (xs : Nat → Int32) (av : List Value) : Array Value → State → Prop := va_Pc av (fun U => zW D ar A Z S U.heap ∧ zK D ar U ∧ (∀ q, U.heap.size ≤ q → A q) ∧ va_X b L xs U U.heap)
theorem zPx.blind (D : va_G) (ar : Nat → ClassId) (A : Nat → Prop) (Z : zZ) (S : zS) (b L : Nat) (xs : Nat → Int32) (av : List Value) : FrameBlind (zPx D ar A Z S b L xs av) := by
  intro a U g mk q
  obtain ⟨q0, qW, qK, ql, qX⟩ := q
  exact ⟨q0, qW, ⟨va_K.moved (u := U) (U := U.calling g mk a) (Vm.Alike.refl U.vm) qK.1, zX.same (u := U) (U := U.calling g mk a) rfl qK.2⟩, ql, qX⟩
noncomputable def rCell (L : Nat) (xs : Nat → Int32) : Int32 := pif (nI L ≤ 0) 0 (xs (ix 0))
theorem va_X.lt {b L : Nat} {xs : Nat → Int32} {U : State} {H : Heap} (h : va_X b L xs U H) : b < H.size := by
  obtain ⟨scr, h1, -⟩ := h
  exact (Array.getElem?_eq_some_iff.mp h1).1
set_option maxHeartbeats 400000 in
set_option maxRecDepth 100000 in
theorem c_cell {l : Launch} {D : va_G} {ar : Nat → ClassId} {A : Nat → Prop} {Z : zZ} {S : zS} {b L : Nat} {xs : Nat → Int32} (hbA : ¬ A b) (hL : L < 2 ^ 31) : Met l yL_cell (.code yL_cell method_2_code 2 (some .int) :: zU) ({ frames := 0, cells := 0, slots := 0, locals := 0 } : Room) (zPx D ar A Z S b L xs [.ref b, .int 0]) (zQ D ar A rvI (zF (rCell L xs) Z S)) 0 0 A := by
  refine Met.ofW (cc := method_2_code) (maxL := 2) (ret := some .int) (by decide +kernel) rfl ?_
  intro p e s m args below meth c s₁ B hml hv
  obtain ⟨rfl, hW, hK, hlo, hX⟩ := hv
  have hts := atoms_spec (ws := .code yL_cell method_2_code 2 (some .int) :: zU) B.pre
  have hown : s.vm.findClass yL_cell.cls = some m.cls := findClass_of_methodNamed B.named
  have hl := lv_entry [.ref b, .int 0] (n := 2) (Nat.le_of_ble_eq_true rfl)
  have hM : zM p c m _ s method_2_code RL D ar := ⟨B.exec, B.bytes, hown, zU_low hts, hK⟩
  have hr := B.returns
  have hlk := B.notSynchronized
  rw [lg_entry_eq]
  generalize (lg_sl ([.ref b, .int 0]) ++ List.replicate (2 - (lg_sl ([.ref b, .int 0])).length) Slot.unset).toArray = ls at hl ⊢
  have hl : lv_has ls 2 [(0, .ref b), (1, .int 0)] := hl
  have hS : va_S A s.heap s.heap [] := va_S.rf
  refine lv_iload_n hM.1 hM.2.1 dL_cell_0 rfl (lv_at hl 1 rfl) ?_
  refine lv_aload_n hM.1 hM.2.1 dL_cell_1 rfl (lv_at hl 0 rfl) ?_
  refine va_slen hM.1 hM.2.1 hX hX.lt hbA hS dL_cell_2 ?_
  refine lv_icmp_ge hM.1 hM.2.1 dL_cell_3 (tgt := 12) (by decide) (fun h => ?_) (fun h => ?_)
  · refine lv_iconst (v := 0) hM.1 hM.2.1 dL_cell_12 (by decide) ?_
    refine z_iret hM hlk hr rfl hW hS (zF.of ?_ rfl) dL_cell_13
    unfold rCell; exact (pif_pos h).symm
  · refine lv_aload_n hM.1 hM.2.1 dL_cell_6 rfl (lv_at hl 0 rfl) ?_
    refine lv_iload_n hM.1 hM.2.1 dL_cell_7 rfl (lv_at hl 1 rfl) ?_
    refine va_sld hM.1 hM.2.1 hX hX.lt hbA hS (vin_of (by decide) h hL rfl) dL_cell_8 ?_
    refine lv_goto hM.1 hM.2.1 dL_cell_9 (tgt := 13) (by decide) ?_
    refine z_iret hM hlk hr rfl hW hS (zF.of ?_ rfl) dL_cell_13
    unfold rCell; exact (pif_neg h).symm
section LC
variable {p : Program} {l : Launch} {e : Env} {R : Room} {s : State} {m : MethodId} {args : Array Value} {below : List Frame} {meth : Method} {c : Code} {H : Heap} {locs : List Loc} {cells slots : Nat} {Q : State → Prop}
variable {cc : ByteArray} {pc : Nat} {ls : Array Slot} {rest : List Value} {D : va_G} {ar : Nat → ClassId} {Z1 Z2 : zZ} {S1 S2 : zS} {b L : Nat} {xs : Nat → Int32}
theorem law_X (hX : va_X b L xs s s.heap) (hS0 : va_S (fun q => s.heap.size ≤ q) s.heap H locs) : va_X b L xs s H := by
  obtain ⟨scr, h1, h2⟩ := hX
  have hb : b < s.heap.size := (Array.getElem?_eq_some_iff.mp h1).1
  exact ⟨scr, by rw [hS0.2.1 b hb (Nat.not_le.mpr hb)]; exact h1, h2⟩
theorem lawCell (hM : zM p c m args s cc RL D ar) (hml : c.maxLocals = ls.size) (w : lwW s.heap.size D ar Z1 Z2 S1 S2 H) (hS0 : va_S (fun q => s.heap.size ≤ q) s.heap H locs) (hX : va_X b L xs s s.heap) (hL : L < 2 ^ 31) (h8 : (rest.map fun v => v.category).sum ≤ 8) (hR : 0 + 1 ≤ R.frames ∧ 8 + (2 + 11) + 0 ≤ R.locals) (hf : cells + 0 ≤ R.cells ∧ slots + 0 ≤ R.slots) (hdg : decode cc pc = .ok (.invokestatic 9, 3))
    (kk : ∀ (H1 : Heap) (locs1 : List Loc), lwW s.heap.size D ar Z1 Z2 S1 S2 H1 → va_S (fun q => s.heap.size ≤ q) s.heap H1 locs1 → W p l e R s m args below meth c H1 locs1 cells slots Q (F0 m (pc + 3) ls (.int (rCell L xs) :: rest))) : W p l e R s m args below meth c H locs cells slots Q (F0 m pc ls (.int 0 :: .ref b :: rest)) := by
  have hG : GoodIn zU (va_wsS RL 9 yL_cell (.code yL_cell method_2_code 2 (some .int) :: zU)) := zU_goodU (by
    intro w hw
    simp only [va_wsS, List.mem_append, List.mem_cons, List.not_mem_nil, or_false] at hw
    rcases hw with (rfl | rfl | rfl) | rfl | h
    · exact lm_L_9
    · exact ls_yL_cell
    · exact lz_L
    · exact lc_yL_cell
    · exact h)
  have hbl := hX.lt
  have hbA : ¬ lwA s.heap.size Z2 b := fun q => absurd q.1 (by omega)
  have hXH := law_X hX hS0
  have hlo := fun q hq => w.free hS0.1 q hq
  have hWo := w.own
  refine va_forget hS0.2.2 (z_call (H0 := H) (va_runS (As := [.ref b, .int 0]) (rest := rest) ⟨hM.1, hM.2.1, hml, hM.2.2.1, hM.2.2.2.1⟩ (c_cell (S := S1) (Z := Z1) (D := D) (ar := ar) (xs := xs) hbA hL) (va_cwS 2 hM.2.2.2.1 hG rfl rfl rfl zyL_cell.2.2.1.2 hR) ⟨zPx.blind _ _ _ _ _ _ _ _ _, fun U hU hW1 => ⟨rfl, by rw [hU]; exact hWo, hM.2.2.2.2.warm hW1, fun q h => hlo q (by rw [hU] at h; exact h), ?_⟩⟩ rfl rfl rfl rfl (by simpa using h8) hdg hf) va_S.rf (fun r Z' S' H1 locs1 hp hW1 hS1 => ?_))
  · obtain ⟨scr, h1, h2, h3⟩ := hXH
    exact ⟨scr, by rw [hU]; exact h1, State.isArrayOf_alike hW1.alike h2, h3⟩
  · obtain ⟨rfl, rfl, rfl⟩ := hp
    exact kk H1 locs1 (w.step hW1 hS1) (law_S hS0 hS1)
end LC
