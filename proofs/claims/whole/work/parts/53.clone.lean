/-! clone of an int array, and the cast behind it, over the abstract memory -/
def scp (S : zS) (j i : Nat) : zS := (fun k' i' f => if k' = 9 ∧ i' = j then S.1 9 i f else S.1 k' i' f, S.2.1, fun k' i' f => if k' = 9 ∧ i' = j then none else S.2.2 k' i' f)
theorem gi_scp (S : zS) (j i k' i' f : Nat) : gi (scp S j i) k' i' f = if k' = 9 ∧ i' = j then gi S 9 i f else gi S k' i' f := rfl
theorem gr_scp (S : zS) (j i k' i' f : Nat) : gr (scp S j i) k' i' f = if k' = 9 ∧ i' = j then none else gr S k' i' f := rfl
section ZCL
variable {p : Program} {l : Launch} {e : Env} {R : Room} {s : State} {m : MethodId} {args : Array Value} {below : List Frame} {meth : Method} {c : Code} {H : Heap} {locs : List Loc} {cells slots : Nat} {Q : State → Prop}
variable {cc : ByteArray} {pc : Nat} {ls : Array Slot} {rest : List Value} {D : va_G} {ar : Nat → ClassId} {A : Nat → Prop} {Z : zZ} {S : zS} {H0 : Heap} {own : String} {i index a : Nat}
theorem zk9 (f : Nat) : zk 9 f = 0 := rfl
theorem z_cast (hM : zM p c m args s cc own D ar) (hW : zW D ar A Z S H) (hd : Z.2.1 9 i) (ha : Z.1 9 i = a) (hl : Cond.classLink own index "[I" ∈ zU) (hdg : decode cc pc = .ok (.checkcast index, 3))
    (k : W p l e R s m args below meth c H locs cells slots Q (F0 m (pc + 3) ls (.ref a :: rest))) : W p l e R s m args below meth c H locs cells slots Q (F0 m pc ls (.ref a :: rest)) := by
  subst ha
  have hnm : s.vm.findClass "[I" = some (ar 9) := (hM.2.2.2.2.1.2 0 (ar 9, .int) rfl).2
  intro T hT X
  obtain ⟨vm', X', st⟩ := X.checkcastYes hM.1 hM.2.2.1 (hM.2.2.2.1 _ hl) (by rw [hT]; exact hW.arr hd (by decide)) rfl hnm (va_asg _ _) (g := F0 m pc ls (.ref (Z.1 9 i) :: rest)) rfl rfl (by rw [hM.2.1]; exact hdg)
  obtain ⟨t, a1, b1⟩ := k (T.setVm vm') hT X'
  exact ⟨t, st t a1, b1⟩
theorem z_clone (hM : zM p c m args s cc own D ar) (hml : c.maxLocals = ls.size) (hW : zW D ar A Z S H) (hS0 : va_S A H0 H locs) (hlo : ∀ q, H0.size ≤ q → A q) (hd : Z.2.1 9 i) (ha : Z.1 9 i = a) (j : Nat) (hn : ¬ Z.2.1 9 j) (hl : Cond.methodLink own index ⟨"[I", "clone", "()Ljava/lang/Object;"⟩ ∈ zU)
    (hframes : 1 ≤ R.frames) (hlocals : (rest.map fun v => v.category).sum + 14 ≤ R.locals) (hcells : cells + 1 ≤ R.cells) (hslots : slots + Z.2.2 9 i ≤ R.slots) (hdg : decode cc pc = .ok (.invokevirtual index, 3))
    (kk : ∀ (Z' : zZ) (H1 : Heap), zext Z Z' 9 j (Z.2.2 9 i) → zW D ar A Z' (scp S j i) H1 → va_S A H0 H1 locs → W p l e R s m args below meth c H1 locs (cells + 1) (slots + Z.2.2 9 i) Q (F0 m (pc + 3) ls (.ref (Z'.1 9 j) :: rest))) : W p l e R s m args below meth c H locs cells slots Q (F0 m pc ls (.ref a :: rest)) := by
  subst ha
  have hnm : s.vm.findClass "[I" = some (ar 9) := (hM.2.2.2.2.1.2 0 (ar 9, .int) rfl).2
  have hA := (hM.2.2.2.2.1.2 0 (ar 9, .int) rfl).1
  have hcell := hW.arr hd (by decide)
  have hsz : (arrV (ar 9) (Z.2.2 9 i) (zv Z.1 S 9 i)).slots.size = Z.2.2 9 i := arrV_size _ _ _
  obtain ⟨c0, t0', f1, f2, f3⟩ := Cond.castable_spec (va_Nw.use (A := args) rfl hM.2.2.2.2.2.1)
  cases hnm.symm.trans f1
  intro T hT X
  have hcellT : T.heap[Z.1 9 i]? = some (arrV (ar 9) (Z.2.2 9 i) (zv Z.1 S 9 i)) := by rw [hT]; exact hcell
  obtain ⟨-, kA, hkA, comp, hkind⟩ := State.isArrayOf_alike X.warmed.alike (hA 0 (fun _ => .null))
  obtain ⟨-, kS, hkS, compS, hkindS⟩ := hA 0 (fun _ => .null)
  obtain ⟨vm', X', st⟩ := X.cloneArray hM.1 hM.2.2.1 (hM.2.2.2.1 _ hl) (hM.2.2.2.1 _ lb_clone) (hM.2.2.2.1 _ ln_J_clone) (hM.2.2.2.1 _ li_J_clone) (hM.2.2.2.1 _ le_clone) (a := Z.1 9 i) (cell := arrV (ar 9) (Z.2.2 9 i) (zv Z.1 S 9 i)) hcellT (fun k h => by cases h) (fun h => by cases h) hnm f2 f3
    (fun q v hv => by
      have hk' : T.vm.classes[ar 9]? = some kA := hkA
      have hlt : q < Z.2.2 9 i := by
        rcases Nat.lt_or_ge q (Z.2.2 9 i) with h | h
        · exact h
        · rw [Array.getElem?_eq_none (by rw [hsz]; exact h)] at hv; cases hv
      rw [arrV_read _ _ hlt] at hv
      cases hv
      show T.fitsSlot (ar 9) _ _ _ = true
      simp [State.fitsSlot, State.slotType?, hk', hkind, zv, zvt, zk9, fits])
    (g := F0 m pc ls (.ref (Z.1 9 i) :: rest)) rfl (by rw [hml]) rfl (by rw [hM.2.1]; exact hdg) hframes (by show 2 * 0 + _ + 14 ≤ _; omega) hcells (by rw [hsz]; exact hslots) (hloader := Vm.clonesLoader_of_array hkS hkindS)
  rw [hsz] at X'
  generalize hH1 : H.push (arrV (ar 9) (Z.2.2 9 i) (zv Z.1 S 9 i)) = H1
  have z1 : H1.size = H.size + 1 := by rw [← hH1, Array.size_push]
  have e1 : H1[H.size]? = some (arrV (ar 9) (Z.2.2 9 i) (zv Z.1 S 9 i)) := by rw [← hH1, Array.getElem?_push_size]
  have o1 : ∀ q : Nat, q < H.size → H1[q]? = H[q]? := fun q hq => by rw [← hH1, Array.getElem?_push, if_neg (Nat.ne_of_lt hq)]
  have hx := zadd_ext (Z := Z) (k := 9) (i := j) (q := H.size) (n := Z.2.2 9 i)
  have e0 : (zadd Z 9 j H.size (Z.2.2 9 i)).1 9 j = H.size := by simp [zadd]
  have hW1 : zW D ar A (zadd Z 9 j H.size (Z.2.2 9 i)) (scp S j i) H1 := by
    refine hW.add hn (hlo _ hS0.1) o1 ?_ (fun k' i' f e => by refine ⟨?_, rfl, ?_⟩ <;> simp [gi_scp, gr_scp, e]) (fun f => by simp [gr_scp])
    unfold zC
    rw [if_neg (by decide), e0, e1, hx.2.2]
    congr 1
    exact arrV_ext (fun f _ => by simp [zv, zvt, zk9, gi_scp])
  have K := kk _ H1 hx hW1 ⟨Nat.le_trans hS0.1 (by omega), fun x h1 h2 => (o1 x (Nat.lt_of_lt_of_le h1 hS0.1)).trans (hS0.2.1 x h1 h2), hS0.2.2⟩
  rw [e0] at K
  obtain ⟨t, b1, b2⟩ := K ((T.setVm vm').pushCell (arrV (ar 9) (Z.2.2 9 i) (zv Z.1 S 9 i))) (by rw [← hH1, ← hT]; rfl) X'
  refine ⟨t, st t ?_, b2⟩
  rw [hT]
  exact b1
end ZCL
