/-! The abstract memory: cells by (kind, number); kinds 0 .. 8 the classes as vwCl has them, 9 int[], 10 long[], 11 boolean[], 12 Act[], 13 Client[], 14 Copy[], 15 Message[], 16 Table[] -/
abbrev zS : Type := (Nat → Nat → Nat → Int32) × (Nat → Nat → Nat → Int64) × (Nat → Nat → Nat → Option Nat)
/-- the layout: the address of each cell, which cells there are, the length of each array -/
abbrev zZ : Type := (Nat → Nat → Nat) × (Nat → Nat → Prop) × (Nat → Nat → Nat)
def gi (S : zS) (k i f : Nat) : Int32 := S.1 k i f
def gj (S : zS) (k i f : Nat) : Int64 := S.2.1 k i f
def gr (S : zS) (k i f : Nat) : Option Nat := S.2.2 k i f
def up3 {α : Type} (g : Nat → Nat → Nat → α) (k i f : Nat) (v : α) : Nat → Nat → Nat → α := fun k' i' f' =>
  bif k'.beq k then (bif k.ble 8 then (bif f'.beq f then (bif i'.beq i then v else g k' i' f') else g k' i' f') else (bif i'.beq i then (bif f'.beq f then v else g k' i' f') else g k' i' f')) else g k' i' f'
theorem nbeq_ne {a b : Nat} (h : ¬ a = b) : a.beq b = false := by
  cases e : a.beq b with
  | true => exact absurd (Nat.eq_of_beq_eq_true e) h
  | false => rfl
theorem nbeq_rf (a : Nat) : a.beq a = true := Nat.beq_refl a
theorem up3_eq {α : Type} (g : Nat → Nat → Nat → α) (k i f : Nat) (v : α) (k' i' f' : Nat) : up3 g k i f v k' i' f' = if k' = k ∧ i' = i ∧ f' = f then v else g k' i' f' := by
  unfold up3
  by_cases h1 : k' = k
  · subst h1
    by_cases h2 : i' = i
    · subst h2
      by_cases h3 : f' = f
      · subst h3; cases k'.ble 8 <;> simp [nbeq_rf]
      · cases k'.ble 8 <;> simp [nbeq_rf, nbeq_ne h3, h3]
    · by_cases h3 : f' = f
      · subst h3; cases k'.ble 8 <;> simp [nbeq_rf, nbeq_ne h2, h2]
      · cases k'.ble 8 <;> simp [nbeq_rf, nbeq_ne h2, nbeq_ne h3, h2, h3]
  · simp [nbeq_ne h1, h1]
def si (S : zS) (k i f : Nat) (v : Int32) : zS := (up3 S.1 k i f v, S.2)
def sj (S : zS) (k i f : Nat) (v : Int64) : zS := (S.1, up3 S.2.1 k i f v, S.2.2)
def sr (S : zS) (k i f : Nat) (v : Option Nat) : zS := (S.1, S.2.1, up3 S.2.2 k i f v)
theorem gi_si (S : zS) (k i f : Nat) (v : Int32) (k' i' f' : Nat) : gi (si S k i f v) k' i' f' = if k' = k ∧ i' = i ∧ f' = f then v else gi S k' i' f' := up3_eq _ _ _ _ _ _ _ _
theorem gj_sj (S : zS) (k i f : Nat) (v : Int64) (k' i' f' : Nat) : gj (sj S k i f v) k' i' f' = if k' = k ∧ i' = i ∧ f' = f then v else gj S k' i' f' := up3_eq _ _ _ _ _ _ _ _
theorem gr_sr (S : zS) (k i f : Nat) (v : Option Nat) (k' i' f' : Nat) : gr (sr S k i f v) k' i' f' = if k' = k ∧ i' = i ∧ f' = f then v else gr S k' i' f' := up3_eq _ _ _ _ _ _ _ _
theorem gi_sj (S : zS) (k i f : Nat) (v : Int64) (k' i' f' : Nat) : gi (sj S k i f v) k' i' f' = gi S k' i' f' := rfl
theorem gi_sr (S : zS) (k i f : Nat) (v : Option Nat) (k' i' f' : Nat) : gi (sr S k i f v) k' i' f' = gi S k' i' f' := rfl
theorem gj_si (S : zS) (k i f : Nat) (v : Int32) (k' i' f' : Nat) : gj (si S k i f v) k' i' f' = gj S k' i' f' := rfl
theorem gj_sr (S : zS) (k i f : Nat) (v : Option Nat) (k' i' f' : Nat) : gj (sr S k i f v) k' i' f' = gj S k' i' f' := rfl
theorem gr_si (S : zS) (k i f : Nat) (v : Int32) (k' i' f' : Nat) : gr (si S k i f v) k' i' f' = gr S k' i' f' := rfl
theorem gr_sj (S : zS) (k i f : Nat) (v : Int64) (k' i' f' : Nat) : gr (sj S k i f v) k' i' f' = gr S k' i' f' := rfl
/-- what a slot is: 0 int or boolean, 1 long, t + 2 a reference to a cell of kind t -/
def zk (k f : Nat) : Nat := match k with
  | 0 => (match f with | 8 => 1 | _ => 0)
  | 1 => (match f with | 0 => 17 | 1 => 6 | _ => 0)
  | 2 => (match f with | 1 => 8 | 2 => 2 | _ => 0)
  | 3 => (match f with | 0 => 8 | _ => 0)
  | 4 => (match f with | 0 => 8 | _ => 0)
  | 5 => (match f with | 0 => 11 | _ => 0)
  | 6 => (match f with | 2 => 1 | _ => 0)
  | 7 => (match f with | 0 => 16 | 1 => 15 | 2 => 18 | 3 => 14 | 4 => 3 | 5 => 11 | _ => 0)
  | 8 => (match f with | 0 => 0 | 1 => 12 | 7 => 13 | 10 => 0 | 20 => 12 | 28 => 12 | 29 => 0 | 30 => 0 | 31 => 0 | 32 => 13 | 43 => 12 | 44 => 0 | _ => 11)
  | 10 => 1
  | 12 => 2
  | 13 => 4
  | 14 => 5
  | 15 => 6
  | 16 => 7
  | _ => 0
def zn (k : Nat) : Nat := match k with
  | 0 => 9 | 1 => 4 | 2 => 9 | 3 => 5 | 4 => 9 | 5 => 3 | 6 => 3 | 7 => 9 | _ => 45
def zrv (ad : Nat → Nat → Nat) (t : Nat) (o : Option Nat) : Value := match o with
  | none => .null
  | some j => .ref (ad t j)
def zvt (ad : Nat → Nat → Nat) (S : zS) (k i f t : Nat) : Value := match t with
  | 0 => .int (gi S k i f)
  | 1 => .long (gj S k i f)
  | t + 2 => zrv ad t (gr S k i f)
def zv (ad : Nat → Nat → Nat) (S : zS) (k i f : Nat) : Value := zvt ad S k i f (zk k f)
def zN (Z : zZ) (k i : Nat) : Nat := if k < 9 then zn k else Z.2.2 k i
def zC (D : va_G) (ar : Nat → ClassId) (Z : zZ) (S : zS) (k i : Nat) (H : Heap) : Prop :=
  if k < 9 then t_OB (Z.1 k i) (D.1 k) (zn k) (D.2 k) H (zv Z.1 S k i) else H[Z.1 k i]? = some (arrV (ar k) (Z.2.2 k i) (zv Z.1 S k i))
def zW (D : va_G) (ar : Nat → ClassId) (A : Nat → Prop) (Z : zZ) (S : zS) (H : Heap) : Prop :=
  (∀ k i, Z.2.1 k i → zC D ar Z S k i H ∧ A (Z.1 k i)) ∧ (∀ k i k' i', Z.2.1 k i → Z.2.1 k' i' → Z.1 k i = Z.1 k' i' → k = k' ∧ i = i') ∧
  ∀ k i f t j, Z.2.1 k i → f < zN Z k i → zk k f = t + 2 → gr S k i f = some j → Z.2.1 t j
/-- the array classes -/
def zT (ar : Nat → ClassId) : List (ClassId × FieldType) := [(ar 9, .int), (ar 10, .long), (ar 11, .boolean), (ar 12, .object RX0), (ar 13, .object RX2), (ar 14, .object RX3), (ar 15, .object RX4), (ar 16, .object RX5)]
/-- the words that a method can't take from its caller as it stands -/
def zX (U : State) : Prop := va_Nw (.castable "[I" "java/lang/Cloneable") U ∧ va_Nw (.methodLinkNest RX7 28 yX3_init RX7) U ∧ va_Nw (.methodLinkNest RX3 11 yX6_init RX7) U ∧ va_Nw (.methodLinkNest RX2 11 yX6_init RX7) U ∧ va_Nw (.methodLinkNest RX1 17 yX4_init RX7) U ∧ va_Nw (.methodLinkNest RX4 9 yX6_init RX7) U ∧ va_AO RX0 U ∧ va_AO RX2 U ∧ va_AO RX3 U ∧ va_AO RX4 U ∧ va_AO RX5 U
def zK (D : va_G) (ar : Nat → ClassId) (U : State) : Prop := va_K D vwCl (zT ar) U ∧ zX U
theorem zC.kept {D : va_G} {ar : Nat → ClassId} {Z : zZ} {S S1 : zS} {k i : Nat} {H H1 : Heap} (h : zC D ar Z S k i H) (hq : H1[Z.1 k i]? = H[Z.1 k i]?) (hv : ∀ f, zv Z.1 S1 k i f = zv Z.1 S k i f) : zC D ar Z S1 k i H1 := by
  have e : zv Z.1 S1 k i = zv Z.1 S k i := funext hv
  unfold zC at h ⊢
  split
  · rename_i h9
    rw [if_pos h9] at h
    rw [e]
    exact h.kept hq
  · rename_i h9
    rw [if_neg h9] at h
    rw [e, hq]
    exact h
theorem zC.lt {D : va_G} {ar : Nat → ClassId} {Z : zZ} {S : zS} {k i : Nat} {H : Heap} (h : zC D ar Z S k i H) : Z.1 k i < H.size := by
  unfold zC at h
  split at h
  · obtain ⟨cell, h2, -⟩ := h
    exact (Array.getElem?_eq_some_iff.mp h2).1
  · exact (Array.getElem?_eq_some_iff.mp h).1
theorem zW.set {D : va_G} {ar : Nat → ClassId} {A : Nat → Prop} {Z : zZ} {S S1 : zS} {H H1 : Heap} (h : zW D ar A Z S H) {k i : Nat} (hd : Z.2.1 k i) (hc : zC D ar Z S1 k i H1) (ho : ∀ k' i', ¬ (k' = k ∧ i' = i) → ∀ f, zv Z.1 S1 k' i' f = zv Z.1 S k' i' f)
    (oq : ∀ q : Nat, q ≠ Z.1 k i → H1[q]? = H[q]?) (hr : ∀ k' i' f t j, Z.2.1 k' i' → f < zN Z k' i' → zk k' f = t + 2 → gr S1 k' i' f = some j → Z.2.1 t j) : zW D ar A Z S1 H1 := by
  refine ⟨fun k' i' hd' => ?_, h.2.1, hr⟩
  by_cases e : k' = k ∧ i' = i
  · obtain ⟨rfl, rfl⟩ := e
    exact ⟨hc, (h.1 _ _ hd).2⟩
  · exact ⟨(h.1 _ _ hd').1.kept (oq _ (fun q => e (h.2.1 _ _ _ _ hd' hd q))) (ho _ _ e), (h.1 _ _ hd').2⟩
theorem zv_si_other {ad : Nat → Nat → Nat} {S : zS} {k i f : Nat} {v : Int32} {k' i' : Nat} (e : ¬ (k' = k ∧ i' = i)) (f' : Nat) : zv ad (si S k i f v) k' i' f' = zv ad S k' i' f' := by
  unfold zv zvt
  split
  · rw [gi_si, if_neg (fun q => e ⟨q.1, q.2.1⟩)]
  · rfl
  · rfl
theorem zv_sj_other {ad : Nat → Nat → Nat} {S : zS} {k i f : Nat} {v : Int64} {k' i' : Nat} (e : ¬ (k' = k ∧ i' = i)) (f' : Nat) : zv ad (sj S k i f v) k' i' f' = zv ad S k' i' f' := by
  unfold zv zvt
  split
  · rfl
  · rw [gj_sj, if_neg (fun q => e ⟨q.1, q.2.1⟩)]
  · rfl
theorem zv_sr_other {ad : Nat → Nat → Nat} {S : zS} {k i f : Nat} {v : Option Nat} {k' i' : Nat} (e : ¬ (k' = k ∧ i' = i)) (f' : Nat) : zv ad (sr S k i f v) k' i' f' = zv ad S k' i' f' := by
  unfold zv zvt
  split
  · rfl
  · rfl
  · rw [gr_sr, if_neg (fun q => e ⟨q.1, q.2.1⟩)]
theorem zv_si_upd {ad : Nat → Nat → Nat} {S : zS} {k i f : Nat} {v : Int32} (h0 : zk k f = 0) (f' : Nat) : zv ad (si S k i f v) k i f' = updV (zv ad S k i) f (.int v) f' := by
  unfold updV
  by_cases e : f' = f
  · subst e
    simp [zv, zvt, h0, gi_si]
  · rw [if_neg e]
    unfold zv zvt
    split
    · rw [gi_si, if_neg (fun q => e q.2.2)]
    · rfl
    · rfl
theorem zv_sj_upd {ad : Nat → Nat → Nat} {S : zS} {k i f : Nat} {v : Int64} (h0 : zk k f = 1) (f' : Nat) : zv ad (sj S k i f v) k i f' = updV (zv ad S k i) f (.long v) f' := by
  unfold updV
  by_cases e : f' = f
  · subst e
    simp [zv, zvt, h0, gj_sj]
  · rw [if_neg e]
    unfold zv zvt
    split
    · rfl
    · rw [gj_sj, if_neg (fun q => e q.2.2)]
    · rfl
theorem zv_sr_upd {ad : Nat → Nat → Nat} {S : zS} {k i f t : Nat} {v : Option Nat} (h0 : zk k f = t + 2) (f' : Nat) : zv ad (sr S k i f v) k i f' = updV (zv ad S k i) f (zrv ad t v) f' := by
  unfold updV
  by_cases e : f' = f
  · subst e
    simp [zv, zvt, h0, gr_sr]
  · rw [if_neg e]
    unfold zv zvt
    split
    · rfl
    · rfl
    · rw [gr_sr, if_neg (fun q => e q.2.2)]
theorem zW.sr_ok {D : va_G} {ar : Nat → ClassId} {A : Nat → Prop} {Z : zZ} {S : zS} {H : Heap} (h : zW D ar A Z S H) {k i f t : Nat} {v : Option Nat} (h0 : zk k f = t + 2) (hv : ∀ j, v = some j → Z.2.1 t j) : ∀ k' i' f' t' j, Z.2.1 k' i' → f' < zN Z k' i' → zk k' f' = t' + 2 → gr (sr S k i f v) k' i' f' = some j → Z.2.1 t' j := by
  intro k' i' f' t' j hd hf hz hg
  rw [gr_sr] at hg
  split at hg
  · rename_i e
    obtain ⟨rfl, rfl, rfl⟩ := e
    have : t' = t := by omega
    subst this
    exact hv j hg
  · exact h.2.2 _ _ _ _ _ hd hf hz hg
def zd (t : Nat) : Value := match t with
  | 0 => .int 0
  | 1 => .long 0
  | _ => .null
/-- a class by its kind: what the rows need of it -/
def zCl (k : Nat) (C : String) (T : u_T) (N : Nat) : Prop := k < 9 ∧ vwCl[k]? = some (C, T, N) ∧ zn k = N ∧ (∀ w ∈ u_ws C T N, w ∈ zU) ∧ (∃ ty : Nat → FieldType, (∀ j, j < N → parseFieldDescriptor (T j).2.2.1 = some (ty j)) ∧ ∀ j, j < N → defaultValue (ty j) = zd (zk k j)) ∧ (∀ a, a < N → ∀ b, b < N → a ≠ b → (T a).2.1 ≠ (T b).2.1) ∧ ∀ j, j < N → (T j).1 = C
/-- what holds all through a method -/
def zM (p : Program) (c : Code) (m : MethodId) (args : Array Value) (s : State) (cc : ByteArray) (own : String) (D : va_G) (ar : Nat → ClassId) : Prop := p.tables.exec = Jvm.exec ∧ c.code = cc ∧ s.vm.findClass own = some m.cls ∧ (∀ w ∈ zU, w.before args s = true) ∧ zK D ar s
section ZR
variable {p : Program} {l : Launch} {e : Env} {R : Room} {s : State} {m : MethodId} {args : Array Value} {below : List Frame} {meth : Method} {c : Code} {H : Heap} {locs : List Loc} {cells slots : Nat} {Q : State → Prop}
variable {cc : ByteArray} {pc : Nat} {ls : Array Slot} {rest : List Value} {D : va_G} {ar : Nat → ClassId} {A : Nat → Prop} {Z : zZ} {S : zS} {H0 : Heap} {own C : String} {T : u_T} {N k i index : Nat}
theorem z_get (hM : zM p c m args s cc own D ar) (hW : zW D ar A Z S H) (hC : zCl k C T N) (hd : Z.2.1 k i) {a : Nat} (ha : Z.1 k i = a) (f : Nat) (hf : f < N) (hl : Cond.fieldLink own index C (T f).2.1 (T f).2.2.1 ∈ zU) {v : Value} (hv : zv Z.1 S k i f = v) (hdg : decode cc pc = .ok (.getfield index, 3))
    (kk : W p l e R s m args below meth c H locs cells slots Q (F0 m (pc + 3) ls (v :: rest))) : W p l e R s m args below meth c H locs cells slots Q (F0 m pc ls (.ref a :: rest)) := by
  subst ha
  obtain ⟨h9, hc, rfl, hin, -, hnm, hTC⟩ := hC
  have hcell := (hW.1 _ _ hd).1
  unfold zC at hcell
  rw [if_pos h9] at hcell
  obtain ⟨cell, q1, q2, q3, q4⟩ := hcell
  obtain ⟨hS, hfc, kC, hkC, hkind⟩ := hM.2.2.2.2.1.1 k _ hc
  obtain ⟨cf, kf, fi, fd, hi, hsl⟩ := hS f hf
  rw [hTC f hf] at hi
  refine W.getf hM.1 hM.2.1 hM.2.2.1 (hM.2.2.2.1 _ hl) hi (u_facts hfc hkC (u_lays hM.2.2.2.1 hin hf) (by rw [hTC f hf]; exact hi)).1 q1 (by rw [q3]; exact fun h => by cases h) (v := v) ?_ rfl rfl hdg kk
  rw [hsl, q4 f hf, hv]
theorem z_getr (hM : zM p c m args s cc own D ar) (hW : zW D ar A Z S H) (hC : zCl k C T N) (hd : Z.2.1 k i) {a : Nat} (ha : Z.1 k i = a) (f : Nat) (hf : f < N) (hl : Cond.fieldLink own index C (T f).2.1 (T f).2.2.1 ∈ zU) {t j : Nat} (ht : zk k f = t + 2) (hv : gr S k i f = some j) (hdg : decode cc pc = .ok (.getfield index, 3))
    (kk : Z.2.1 t j → W p l e R s m args below meth c H locs cells slots Q (F0 m (pc + 3) ls (.ref (Z.1 t j) :: rest))) : W p l e R s m args below meth c H locs cells slots Q (F0 m pc ls (.ref a :: rest)) :=
  z_get hM hW hC hd ha f hf hl (v := .ref (Z.1 t j)) (by simp [zv, zvt, ht, hv, zrv]) hdg (kk (hW.2.2 k i f t j hd (by rw [zN, if_pos hC.1, hC.2.2.1]; exact hf) ht hv))
/-- a store into a field, in general: the value v, the state behind it S1 -/
theorem z_put {S1 : zS} (hM : zM p c m args s cc own D ar) (hW : zW D ar A Z S H) (hS0 : va_S A H0 H locs) (hC : zCl k C T N) (hd : Z.2.1 k i) {a : Nat} (ha : Z.1 k i = a) (f : Nat) (hf : f < N) (hl : Cond.fieldLink own index C (T f).2.1 (T f).2.2.1 ∈ zU) (hfin : (T f).2.2.2 = false ∨ (meth.name = "<init>" ∧ C = own)) {ty : FieldType} {v : Value} (hp : parseFieldDescriptor (T f).2.2.1 = some ty) (hn : narrow ty v = v) (hfit : fits ty v = true)
    (h1 : ∀ f', zv Z.1 S1 k i f' = updV (zv Z.1 S k i) f v f') (h2 : ∀ k' i', ¬ (k' = k ∧ i' = i) → ∀ f', zv Z.1 S1 k' i' f' = zv Z.1 S k' i' f') (h3 : ∀ k' i' f' t j, Z.2.1 k' i' → f' < zN Z k' i' → zk k' f' = t + 2 → gr S1 k' i' f' = some j → Z.2.1 t j)
    (hdg : decode cc pc = .ok (.putfield index, 3)) (kk : ∀ (H1 : Heap) (locs1 : List Loc), zW D ar A Z S1 H1 → va_S A H0 H1 locs1 → W p l e R s m args below meth c H1 locs1 cells slots Q (F0 m (pc + 3) ls rest)) : W p l e R s m args below meth c H locs cells slots Q (F0 m pc ls (v :: .ref a :: rest)) := by
  subst ha
  obtain ⟨h9, hc, rfl, hin, ⟨ty0, hty, -⟩, hnm, hTC⟩ := hC
  have hlo := (hW.1 _ _ hd).2
  have hcell := (hW.1 _ _ hd).1
  unfold zC at hcell
  rw [if_pos h9] at hcell
  obtain ⟨cell, q1, q2, q3, q4⟩ := hcell
  have hap := va_apart (own := own) hM.2.2.2.1 hin ty0 hty hnm hM.2.2.2.2.1 hc
  obtain ⟨hS, hfc, kC, hkC, hkind⟩ := hM.2.2.2.2.1.1 k _ hc
  obtain ⟨cf, kf, fi, fd, hi, hsl⟩ := hS f hf
  have hst := (u_facts hfc hkC (u_lays hM.2.2.2.1 hin hf) hi).1
  have hi0 := hi
  rw [hTC f hf] at hi
  have fin : ∀ H' : Heap, H'[Z.1 k i]? = some (cell.setSlot fd.slot v) → H'.size = H.size → (∀ q, q ≠ Z.1 k i → H'[q]? = H[q]?) → W p l e R s m args below meth c H' (locs ++ [⟨Z.1 k i, fd.slot⟩]) cells slots Q (F0 m (pc + 3) ls rest) := by
    intro H' e1 e2 e3
    rw [hsl] at e1 ⊢
    refine kk H' _ (hW.set hd ?_ h2 e3 h3) (hS0.put e2 e3 hlo)
    unfold zC
    rw [if_pos h9]
    exact ⟨_, e1, q2, q3, fun j hj => by rw [h1]; exact t_set q4 hap hf v j hj⟩
  by_cases hfi : (T f).2.2.2 = true
  · have hlay := hM.2.2.2.1 _ (hin _ (u_in_lay hf))
    unfold u_lay at hlay
    rw [if_pos hfi] at hlay
    obtain ⟨hin2, hCo⟩ : meth.name = "<init>" ∧ C = own := by
      rcases hfin with h | h
      · rw [h] at hfi; cases hfi
      · exact h
    have hcf : m.cls = cf := by
      obtain ⟨_, _, c', _, _, _, -, -, hf', -, -, -, hown2, -⟩ := Cond.laysFinal_spec hlay
      have e1 : c' = cf := by have := hi0.symm.trans hf'; simp at this; exact this.1.symm
      rw [hTC f hf, hCo] at hown2
      rw [← e1]; exact Option.some.inj (hM.2.2.1.symm.trans hown2)
    have h6 := u_fits hfc hkC hkind (Or.inr hlay) hi0 hp hn hfit
    exact W.putFinK hM.1 hM.2.1 hM.2.2.1 (hM.2.2.2.1 _ hl) hi hst hcf hin2 (by rw [q2]; exact h6) q1 q3 (by rw [hsl]; exact k2_hasslot (q4 f hf)) rfl rfl hdg fin
  · have hfi : (T f).2.2.2 = false := by simpa using hfi
    have hlay := hM.2.2.2.1 _ (hin _ (u_in_lay hf))
    unfold u_lay at hlay
    rw [if_neg (by rw [hfi]; decide)] at hlay
    have h6 := u_store hfc hkC hkind hlay hi0 hp hn hfit
    exact W.putK hM.1 hM.2.1 (f := fd) ⟨hM.2.2.1, hM.2.2.2.1 _ hl, ⟨_, _, _, hi⟩, hst⟩ (by rw [q2]; exact h6) q1 q3 (by rw [hsl]; exact k2_hasslot (q4 f hf)) rfl rfl hdg fin
theorem z_puti (hM : zM p c m args s cc own D ar) (hW : zW D ar A Z S H) (hS0 : va_S A H0 H locs) (hC : zCl k C T N) (hd : Z.2.1 k i) {a : Nat} (ha : Z.1 k i = a) (f : Nat) (hf : f < N) (h0 : zk k f = 0) (hl : Cond.fieldLink own index C (T f).2.1 (T f).2.2.1 ∈ zU) (hfin : (T f).2.2.2 = false ∨ (meth.name = "<init>" ∧ C = own)) {x : Int32} (ty : FieldType) (hp : parseFieldDescriptor (T f).2.2.1 = some ty) (hn : narrow ty (.int x) = .int x) (hfit : fits ty (.int x) = true)
    (hdg : decode cc pc = .ok (.putfield index, 3)) (kk : ∀ (H1 : Heap) (locs1 : List Loc), zW D ar A Z (si S k i f x) H1 → va_S A H0 H1 locs1 → W p l e R s m args below meth c H1 locs1 cells slots Q (F0 m (pc + 3) ls rest)) : W p l e R s m args below meth c H locs cells slots Q (F0 m pc ls (.int x :: .ref a :: rest)) :=
  z_put hM hW hS0 hC hd ha f hf hl hfin hp hn hfit (fun f' => zv_si_upd h0 f') (fun _ _ e f' => zv_si_other e f') (fun _ _ _ _ _ a b d g => hW.2.2 _ _ _ _ _ a b d g) hdg kk
theorem z_putl (hM : zM p c m args s cc own D ar) (hW : zW D ar A Z S H) (hS0 : va_S A H0 H locs) (hC : zCl k C T N) (hd : Z.2.1 k i) {a : Nat} (ha : Z.1 k i = a) (f : Nat) (hf : f < N) (h0 : zk k f = 1) (hl : Cond.fieldLink own index C (T f).2.1 (T f).2.2.1 ∈ zU) (hfin : (T f).2.2.2 = false ∨ (meth.name = "<init>" ∧ C = own)) {x : Int64} (hp : parseFieldDescriptor (T f).2.2.1 = some .long)
    (hdg : decode cc pc = .ok (.putfield index, 3)) (kk : ∀ (H1 : Heap) (locs1 : List Loc), zW D ar A Z (sj S k i f x) H1 → va_S A H0 H1 locs1 → W p l e R s m args below meth c H1 locs1 cells slots Q (F0 m (pc + 3) ls rest)) : W p l e R s m args below meth c H locs cells slots Q (F0 m pc ls (.long x :: .ref a :: rest)) :=
  z_put hM hW hS0 hC hd ha f hf hl hfin hp rfl rfl (fun f' => zv_sj_upd h0 f') (fun _ _ e f' => zv_sj_other e f') (fun _ _ _ _ _ a b d g => hW.2.2 _ _ _ _ _ a b d g) hdg kk
theorem z_putr (hM : zM p c m args s cc own D ar) (hW : zW D ar A Z S H) (hS0 : va_S A H0 H locs) (hC : zCl k C T N) (hd : Z.2.1 k i) {a : Nat} (ha : Z.1 k i = a) (f : Nat) (hf : f < N) {t j : Nat} (h0 : zk k f = t + 2) (hj : Z.2.1 t j) (hl : Cond.fieldLink own index C (T f).2.1 (T f).2.2.1 ∈ zU) (hfin : (T f).2.2.2 = false ∨ (meth.name = "<init>" ∧ C = own)) (ty : FieldType) (hp : parseFieldDescriptor (T f).2.2.1 = some ty) (hn : ∀ a : Nat, narrow ty (.ref a) = .ref a) (hfit : ∀ a : Nat, fits ty (.ref a) = true)
    (hdg : decode cc pc = .ok (.putfield index, 3)) (kk : ∀ (H1 : Heap) (locs1 : List Loc), zW D ar A Z (sr S k i f (some j)) H1 → va_S A H0 H1 locs1 → W p l e R s m args below meth c H1 locs1 cells slots Q (F0 m (pc + 3) ls rest)) : W p l e R s m args below meth c H locs cells slots Q (F0 m pc ls (.ref (Z.1 t j) :: .ref a :: rest)) :=
  z_put hM hW hS0 hC hd ha f hf hl hfin hp (hn _) (hfit _) (fun f' => zv_sr_upd (v := some j) h0 f') (fun _ _ e f' => zv_sr_other e f') (hW.sr_ok h0 (fun x hx => by cases hx; exact hj)) hdg kk
theorem z_putn (hM : zM p c m args s cc own D ar) (hW : zW D ar A Z S H) (hS0 : va_S A H0 H locs) (hC : zCl k C T N) (hd : Z.2.1 k i) {a : Nat} (ha : Z.1 k i = a) (f : Nat) (hf : f < N) {t : Nat} (h0 : zk k f = t + 2) (hl : Cond.fieldLink own index C (T f).2.1 (T f).2.2.1 ∈ zU) (hfin : (T f).2.2.2 = false ∨ (meth.name = "<init>" ∧ C = own)) (ty : FieldType) (hp : parseFieldDescriptor (T f).2.2.1 = some ty) (hn : narrow ty .null = .null) (hfit : fits ty .null = true)
    (hdg : decode cc pc = .ok (.putfield index, 3)) (kk : ∀ (H1 : Heap) (locs1 : List Loc), zW D ar A Z (sr S k i f none) H1 → va_S A H0 H1 locs1 → W p l e R s m args below meth c H1 locs1 cells slots Q (F0 m (pc + 3) ls rest)) : W p l e R s m args below meth c H locs cells slots Q (F0 m pc ls (.null :: .ref a :: rest)) :=
  z_put hM hW hS0 hC hd ha f hf hl hfin hp hn hfit (fun f' => zv_sr_upd (v := none) h0 f') (fun _ _ e f' => zv_sr_other e f') (hW.sr_ok h0 (fun x hx => by cases hx)) hdg kk
end ZR
