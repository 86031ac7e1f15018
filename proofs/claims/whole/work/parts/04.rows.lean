/-! rows over the abstract memory: arrays, new cells, calls, returns -/
theorem zc0 : zCl 0 RX0 TX0 9 := ⟨by decide, rfl, rfl, by decide +kernel, ⟨tyX0, tyX0_ok, by decide +kernel⟩, nmX0, by decide +kernel⟩
theorem zc1 : zCl 1 RX1 TX1 4 := ⟨by decide, rfl, rfl, by decide +kernel, ⟨tyX1, tyX1_ok, by decide +kernel⟩, nmX1, by decide +kernel⟩
theorem zc2 : zCl 2 RX2 TX2 9 := ⟨by decide, rfl, rfl, by decide +kernel, ⟨tyX2, tyX2_ok, by decide +kernel⟩, nmX2, by decide +kernel⟩
theorem zc3 : zCl 3 RX3 TX3 5 := ⟨by decide, rfl, rfl, by decide +kernel, ⟨tyX3, tyX3_ok, by decide +kernel⟩, nmX3, by decide +kernel⟩
theorem zc4 : zCl 4 RX4 TX4 9 := ⟨by decide, rfl, rfl, by decide +kernel, ⟨tyX4, tyX4_ok, by decide +kernel⟩, nmX4, by decide +kernel⟩
theorem zc5 : zCl 5 RX5 TX5 3 := ⟨by decide, rfl, rfl, by decide +kernel, ⟨tyX5, tyX5_ok, by decide +kernel⟩, nmX5, by decide +kernel⟩
theorem zc6 : zCl 6 RX6 TX6 3 := ⟨by decide, rfl, rfl, by decide +kernel, ⟨tyX6, tyX6_ok, by decide +kernel⟩, nmX6, by decide +kernel⟩
theorem zc7 : zCl 7 RX7 TX7 9 := ⟨by decide, rfl, rfl, by decide +kernel, ⟨tyX7, tyX7_ok, by decide +kernel⟩, nmX7, by decide +kernel⟩
theorem zc8 : zCl 8 RX8 TX8 45 := ⟨by decide, rfl, rfl, by decide +kernel, ⟨tyX8, tyX8_ok, by decide +kernel⟩, nmX8, by decide +kernel⟩
theorem arrV_ext {cI : ClassId} {N : Nat} {f g : Nat → Value} (h : ∀ j, j < N → f j = g j) : arrV cI N f = arrV cI N g := by
  have e : (Array.ofFn (n := N) fun j => f j.val) = Array.ofFn (n := N) fun j => g j.val := by
    congr 1
    funext j
    exact h j.val j.isLt
  unfold arrV
  rw [e]
/-- a new cell -/
def zext (Z Z' : zZ) (k i n : Nat) : Prop := (∀ k' i', ¬ (k' = k ∧ i' = i) → Z'.1 k' i' = Z.1 k' i' ∧ Z'.2.2 k' i' = Z.2.2 k' i') ∧ (∀ k' i', Z'.2.1 k' i' ↔ Z.2.1 k' i' ∨ (k' = k ∧ i' = i)) ∧ Z'.2.2 k i = n
def sz (S : zS) (k i : Nat) : zS := (fun k' i' f => if k' = k ∧ i' = i then 0 else S.1 k' i' f, fun k' i' f => if k' = k ∧ i' = i then 0 else S.2.1 k' i' f, fun k' i' f => if k' = k ∧ i' = i then none else S.2.2 k' i' f)
theorem zv_sz {ad : Nat → Nat → Nat} {S : zS} {k i : Nat} (f : Nat) : zv ad (sz S k i) k i f = zd (zk k f) := by
  unfold zv
  generalize zk k f = t
  match t with
  | 0 => simp [zvt, zd, gi, sz]
  | 1 => simp [zvt, zd, gj, sz]
  | t + 2 => simp [zvt, zd, gr, sz, zrv]
def zadd (Z : zZ) (k i q n : Nat) : zZ := (fun k' i' => if k' = k ∧ i' = i then q else Z.1 k' i', fun k' i' => Z.2.1 k' i' ∨ (k' = k ∧ i' = i), fun k' i' => if k' = k ∧ i' = i then n else Z.2.2 k' i')
theorem zadd_ext {Z : zZ} {k i q n : Nat} : zext Z (zadd Z k i q n) k i n := by
  refine ⟨fun k' i' e => ?_, fun k' i' => Iff.rfl, by simp [zadd]⟩
  simp [zadd, e]
theorem zv_move {D : va_G} {ar : Nat → ClassId} {A : Nat → Prop} {Z Z' : zZ} {S S1 : zS} {H : Heap} (h : zW D ar A Z S H) (ha : ∀ k' i', Z.2.1 k' i' → Z'.1 k' i' = Z.1 k' i') {k i f : Nat} (hd : Z.2.1 k i) (hf : f < zN Z k i) (h1 : gi S1 k i f = gi S k i f) (h2 : gj S1 k i f = gj S k i f) (h3 : gr S1 k i f = gr S k i f) : zv Z'.1 S1 k i f = zv Z.1 S k i f := by
  unfold zv
  generalize ht : zk k f = t
  match t, ht with
  | 0, _ => simp [zvt, h1]
  | 1, _ => simp [zvt, h2]
  | t + 2, ht =>
    simp only [zvt, h3]
    cases hg : gr S k i f with
    | none => rfl
    | some j => simp only [zrv]; rw [ha _ _ (h.2.2 _ _ _ _ _ hd hf ht hg)]
theorem zW.add {D : va_G} {ar : Nat → ClassId} {A : Nat → Prop} {Z : zZ} {S S1 : zS} {H H1 : Heap} (h : zW D ar A Z S H) {k i n : Nat} (hn : ¬ Z.2.1 k i) (hlo : A H.size) (o1 : ∀ q : Nat, q < H.size → H1[q]? = H[q]?)
    (hc : zC D ar (zadd Z k i H.size n) S1 k i H1) (hs : ∀ k' i' f, ¬ (k' = k ∧ i' = i) → gi S1 k' i' f = gi S k' i' f ∧ gj S1 k' i' f = gj S k' i' f ∧ gr S1 k' i' f = gr S k' i' f) (hr : ∀ f, gr S1 k i f = none) : zW D ar A (zadd Z k i H.size n) S1 H1 := by
  have hx := zadd_ext (Z := Z) (k := k) (i := i) (q := H.size) (n := n)
  have hne : ∀ k' i', Z.2.1 k' i' → ¬ (k' = k ∧ i' = i) := fun k' i' hd e => hn (by rw [← e.1, ← e.2]; exact hd)
  refine ⟨fun k' i' hd => ?_, fun k' i' k'' i'' hd1 hd2 he => ?_, fun k' i' f t j hd hf ht hg => ?_⟩
  · rcases hd with hd | ⟨rfl, rfl⟩
    · have e1 := (hx.1 _ _ (hne _ _ hd)).1
      have e2 := (hx.1 _ _ (hne _ _ hd)).2
      refine ⟨?_, by rw [e1]; exact (h.1 _ _ hd).2⟩
      have hcell := (h.1 _ _ hd).1
      have hlt := hcell.lt
      have hz : ∀ f, f < zN Z k' i' → zv (zadd Z k i H.size n).1 S1 k' i' f = zv Z.1 S k' i' f := fun f hf =>
        zv_move h (fun a b hab => (hx.1 a b (hne a b hab)).1) hd hf (hs _ _ f (hne _ _ hd)).1 (hs _ _ f (hne _ _ hd)).2.1 (hs _ _ f (hne _ _ hd)).2.2
      unfold zC at hcell ⊢
      by_cases h9 : k' < 9
      · rw [if_pos h9] at hcell ⊢
        rw [e1]
        exact (hcell.kept (o1 _ hlt)).to (fun f hf => (hz f (by rw [zN, if_pos h9]; exact hf)).symm)
      · rw [if_neg h9] at hcell ⊢
        rw [e1, e2, o1 _ hlt, hcell]
        congr 1
        exact arrV_ext (fun f hf => (hz f (by rw [zN, if_neg h9]; exact hf)).symm)
    · exact ⟨hc, by simpa [zadd] using hlo⟩
  · rcases hd1 with hd1 | ⟨rfl, rfl⟩ <;> rcases hd2 with hd2 | ⟨rfl, rfl⟩
    · rw [(hx.1 _ _ (hne _ _ hd1)).1, (hx.1 _ _ (hne _ _ hd2)).1] at he
      exact h.2.1 _ _ _ _ hd1 hd2 he
    · rw [(hx.1 _ _ (hne _ _ hd1)).1] at he
      have := (h.1 _ _ hd1).1.lt
      simp [zadd] at he
      omega
    · rw [(hx.1 _ _ (hne _ _ hd2)).1] at he
      have := (h.1 _ _ hd2).1.lt
      simp [zadd] at he
      omega
    · exact ⟨rfl, rfl⟩
  · rcases hd with hd | ⟨rfl, rfl⟩
    · rw [(hs _ _ f (hne _ _ hd)).2.2] at hg
      have hf' : f < zN Z k' i' := by
        unfold zN at hf ⊢
        split at hf
        · rename_i h9; rw [if_pos h9]; exact hf
        · rename_i h9; rw [if_neg h9]; rw [(hx.1 _ _ (hne _ _ hd)).2] at hf; exact hf
      exact Or.inl (h.2.2 _ _ _ _ _ hd hf' ht hg)
    · rw [hr] at hg; cases hg
section ZR2
variable {p : Program} {l : Launch} {e : Env} {R : Room} {s : State} {m : MethodId} {args : Array Value} {below : List Frame} {meth : Method} {c : Code} {H : Heap} {locs : List Loc} {cells slots : Nat} {Q : State → Prop}
variable {cc : ByteArray} {pc : Nat} {ls : Array Slot} {rest : List Value} {D : va_G} {ar : Nat → ClassId} {A : Nat → Prop} {Z : zZ} {S : zS} {H0 : Heap} {own C : String} {T : u_T} {N k i index a : Nat}
theorem zW.arr (hW : zW D ar A Z S H) (hd : Z.2.1 k i) (h9 : ¬ k < 9) : H[Z.1 k i]? = some (arrV (ar k) (Z.2.2 k i) (zv Z.1 S k i)) := by
  have h := (hW.1 _ _ hd).1
  unfold zC at h
  rw [if_neg h9] at h
  exact h
theorem z_iald (hM : zM p c m args s cc own D ar) (hW : zW D ar A Z S H) (hd : Z.2.1 9 i) (ha : Z.1 9 i = a) {j : Int32} (hin : vp_in j (Z.2.2 9 i)) {v : Int32} (hv : gi S 9 i j.toNatClampNeg = v) (hdg : decode cc pc = .ok (.iaload, 1))
    (kk : W p l e R s m args below meth c H locs cells slots Q (F0 m (pc + 1) ls (.int v :: rest))) : W p l e R s m args below meth c H locs cells slots Q (F0 m pc ls (.int j :: .ref a :: rest)) := by
  subst ha hv
  have hlt : j.toNatClampNeg < Z.2.2 9 i := Nat.not_le.mp fun q => hin (Or.inr q)
  exact W.iald (v := .int (gi S 9 i j.toNatClampNeg)) hM.1 hM.2.1 (hW.arr hd (by decide)) ((hM.2.2.2.2.1.2 0 (ar 9, .int) rfl).1 _ _) (fun q => by cases q) (by rw [arrV_size]; exact hin) (by rw [arrV_read _ _ hlt]; rfl) rfl rfl hdg kk
theorem z_lald (hM : zM p c m args s cc own D ar) (hW : zW D ar A Z S H) (hd : Z.2.1 10 i) (ha : Z.1 10 i = a) {j : Int32} (hin : vp_in j (Z.2.2 10 i)) {v : Int64} (hv : gj S 10 i j.toNatClampNeg = v) (hdg : decode cc pc = .ok (.laload, 1))
    (kk : W p l e R s m args below meth c H locs cells slots Q (F0 m (pc + 1) ls (.long v :: rest))) : W p l e R s m args below meth c H locs cells slots Q (F0 m pc ls (.int j :: .ref a :: rest)) := by
  subst ha hv
  have hlt : j.toNatClampNeg < Z.2.2 10 i := Nat.not_le.mp fun q => hin (Or.inr q)
  exact W.lald (v := .long (gj S 10 i j.toNatClampNeg)) hM.1 hM.2.1 (hW.arr hd (by decide)) ((hM.2.2.2.2.1.2 1 (ar 10, .long) rfl).1 _ _) (fun q => by cases q) (by rw [arrV_size]; exact hin) (by rw [arrV_read _ _ hlt]; rfl) rfl rfl hdg kk
theorem z_zald (hM : zM p c m args s cc own D ar) (hW : zW D ar A Z S H) (hd : Z.2.1 11 i) (ha : Z.1 11 i = a) {j : Int32} (hin : vp_in j (Z.2.2 11 i)) {v : Int32} (hv : gi S 11 i j.toNatClampNeg = v) (hdg : decode cc pc = .ok (.baload, 1))
    (kk : W p l e R s m args below meth c H locs cells slots Q (F0 m (pc + 1) ls (.int v :: rest))) : W p l e R s m args below meth c H locs cells slots Q (F0 m pc ls (.int j :: .ref a :: rest)) := by
  subst ha hv
  have hlt : j.toNatClampNeg < Z.2.2 11 i := Nat.not_le.mp fun q => hin (Or.inr q)
  exact W.zald (v := .int (gi S 11 i j.toNatClampNeg)) hM.1 hM.2.1 (hW.arr hd (by decide)) ((hM.2.2.2.2.1.2 2 (ar 11, .boolean) rfl).1 _ _) (fun q => by cases q) (by rw [arrV_size]; exact hin) (by rw [arrV_read _ _ hlt]; rfl) rfl rfl hdg kk
theorem z_aald (hM : zM p c m args s cc own D ar) (hW : zW D ar A Z S H) (hd : Z.2.1 k i) (h9 : ¬ k < 9) (ha : Z.1 k i = a) (t0 : Nat) (ht : (zT ar)[t0]? = some (ar k, .object C)) {j : Int32} (hin : vp_in j (Z.2.2 k i)) {v : Value} (hv : zv Z.1 S k i j.toNatClampNeg = v) (hdg : decode cc pc = .ok (.aaload, 1))
    (kk : W p l e R s m args below meth c H locs cells slots Q (F0 m (pc + 1) ls (v :: rest))) : W p l e R s m args below meth c H locs cells slots Q (F0 m pc ls (.int j :: .ref a :: rest)) := by
  subst ha hv
  have hlt : j.toNatClampNeg < Z.2.2 k i := Nat.not_le.mp fun q => hin (Or.inr q)
  exact W.aald (v := zv Z.1 S k i j.toNatClampNeg) (ty := .object C) hM.1 hM.2.1 (hW.arr hd h9) ((hM.2.2.2.2.1.2 t0 _ ht).1 _ _) rfl (fun q => by cases q) (by rw [arrV_size]; exact hin) (by rw [arrV_read _ _ hlt]) rfl rfl hdg kk
theorem z_aaldr (hM : zM p c m args s cc own D ar) (hW : zW D ar A Z S H) (hd : Z.2.1 k i) (h9 : ¬ k < 9) (ha : Z.1 k i = a) (t0 : Nat) (ht : (zT ar)[t0]? = some (ar k, .object C)) {j : Int32} (hin : vp_in j (Z.2.2 k i)) {t q : Nat} (hz : zk k j.toNatClampNeg = t + 2) (hv : gr S k i j.toNatClampNeg = some q) (hdg : decode cc pc = .ok (.aaload, 1))
    (kk : Z.2.1 t q → W p l e R s m args below meth c H locs cells slots Q (F0 m (pc + 1) ls (.ref (Z.1 t q) :: rest))) : W p l e R s m args below meth c H locs cells slots Q (F0 m pc ls (.int j :: .ref a :: rest)) :=
  z_aald hM hW hd h9 ha t0 ht hin (v := .ref (Z.1 t q)) (by simp [zv, zvt, hz, hv, zrv]) hdg (kk (hW.2.2 k i _ t q hd (by rw [zN, if_neg h9]; exact Nat.not_le.mp fun x => hin (Or.inr x)) hz hv))
theorem z_alen (hM : zM p c m args s cc own D ar) (hW : zW D ar A Z S H) (hd : Z.2.1 k i) (h9 : ¬ k < 9) (ha : Z.1 k i = a) (t0 : Nat) {ty : FieldType} (ht : (zT ar)[t0]? = some (ar k, ty)) {v : Int32} (hv : Int32.ofNat (Z.2.2 k i) = v) (hdg : decode cc pc = .ok (.arraylength, 1))
    (kk : W p l e R s m args below meth c H locs cells slots Q (F0 m (pc + 1) ls (.int v :: rest))) : W p l e R s m args below meth c H locs cells slots Q (F0 m pc ls (.ref a :: rest)) := by
  subst ha hv
  exact W.alen (n := Int32.ofNat (Z.2.2 k i)) hM.1 hM.2.1 (hW.arr hd h9) ((hM.2.2.2.2.1.2 t0 _ ht).1 _ _) (by rw [arrV_size] <;> rfl) rfl rfl hdg kk
theorem zC_arr {S1 : zS} {H1 : Heap} {j : Nat} {v : Value} (h9 : ¬ k < 9) (e : H1[Z.1 k i]? = some ((arrV (ar k) (Z.2.2 k i) (zv Z.1 S k i)).setSlot j v)) (h1 : ∀ f', zv Z.1 S1 k i f' = updV (zv Z.1 S k i) j v f') : zC D ar Z S1 k i H1 := by
  unfold zC
  rw [if_neg h9, e, arrV_store]
  congr 1
  exact arrV_ext (fun f _ => (h1 f).symm)
theorem z_iast (hM : zM p c m args s cc own D ar) (hW : zW D ar A Z S H) (hS0 : va_S A H0 H locs) (hd : Z.2.1 9 i) (ha : Z.1 9 i = a) {j x : Int32} (hin : vp_in j (Z.2.2 9 i)) (hdg : decode cc pc = .ok (.iastore, 1))
    (kk : ∀ (H1 : Heap) (locs1 : List Loc), zW D ar A Z (si S 9 i j.toNatClampNeg x) H1 → va_S A H0 H1 locs1 → W p l e R s m args below meth c H1 locs1 cells slots Q (F0 m (pc + 1) ls rest)) : W p l e R s m args below meth c H locs cells slots Q (F0 m pc ls (.int x :: .int j :: .ref a :: rest)) := by
  subst ha
  refine W.iast hM.1 hM.2.1 (hW.arr hd (by decide)) ((hM.2.2.2.2.1.2 0 (ar 9, .int) rfl).1 _ _) (fun q => by cases q) (by rw [arrV_size]; exact hin) rfl rfl hdg fun H1 e1 z oq => ?_
  exact kk H1 _ (hW.set hd (zC_arr (by decide) e1 (fun f' => zv_si_upd rfl f')) (fun _ _ e f' => zv_si_other e f') oq (fun _ _ _ _ _ a b d g => hW.2.2 _ _ _ _ _ a b d g)) (hS0.put z oq (hW.1 _ _ hd).2)
theorem z_last (hM : zM p c m args s cc own D ar) (hW : zW D ar A Z S H) (hS0 : va_S A H0 H locs) (hd : Z.2.1 10 i) (ha : Z.1 10 i = a) {j : Int32} {x : Int64} (hin : vp_in j (Z.2.2 10 i)) (hdg : decode cc pc = .ok (.lastore, 1))
    (kk : ∀ (H1 : Heap) (locs1 : List Loc), zW D ar A Z (sj S 10 i j.toNatClampNeg x) H1 → va_S A H0 H1 locs1 → W p l e R s m args below meth c H1 locs1 cells slots Q (F0 m (pc + 1) ls rest)) : W p l e R s m args below meth c H locs cells slots Q (F0 m pc ls (.long x :: .int j :: .ref a :: rest)) := by
  subst ha
  refine W.last hM.1 hM.2.1 (hW.arr hd (by decide)) ((hM.2.2.2.2.1.2 1 (ar 10, .long) rfl).1 _ _) (fun q => by cases q) (by rw [arrV_size]; exact hin) rfl rfl hdg fun H1 e1 z oq => ?_
  exact kk H1 _ (hW.set hd (zC_arr (by decide) e1 (fun f' => zv_sj_upd rfl f')) (fun _ _ e f' => zv_sj_other e f') oq (fun _ _ _ _ _ a b d g => hW.2.2 _ _ _ _ _ a b d g)) (hS0.put z oq (hW.1 _ _ hd).2)
theorem z_zast (hM : zM p c m args s cc own D ar) (hW : zW D ar A Z S H) (hS0 : va_S A H0 H locs) (hd : Z.2.1 11 i) (ha : Z.1 11 i = a) {j x : Int32} (hin : vp_in j (Z.2.2 11 i)) (hn : narrow .boolean (.int x) = .int x) (hdg : decode cc pc = .ok (.bastore, 1))
    (kk : ∀ (H1 : Heap) (locs1 : List Loc), zW D ar A Z (si S 11 i j.toNatClampNeg x) H1 → va_S A H0 H1 locs1 → W p l e R s m args below meth c H1 locs1 cells slots Q (F0 m (pc + 1) ls rest)) : W p l e R s m args below meth c H locs cells slots Q (F0 m pc ls (.int x :: .int j :: .ref a :: rest)) := by
  subst ha
  refine W.zast hM.1 hM.2.1 (hW.arr hd (by decide)) ((hM.2.2.2.2.1.2 2 (ar 11, .boolean) rfl).1 _ _) (fun q => by cases q) (by rw [arrV_size]; exact hin) rfl rfl hdg fun H1 e1 z oq => ?_
  rw [hn] at e1
  exact kk H1 _ (hW.set hd (zC_arr (by decide) e1 (fun f' => zv_si_upd rfl f')) (fun _ _ e f' => zv_si_other e f') oq (fun _ _ _ _ _ a b d g => hW.2.2 _ _ _ _ _ a b d g)) (hS0.put z oq (hW.1 _ _ hd).2)
theorem z_aast (hM : zM p c m args s cc own D ar) (hW : zW D ar A Z S H) (hS0 : va_S A H0 H locs) (hd : Z.2.1 k i) (h9 : ¬ k < 9) (ha : Z.1 k i = a) (t0 : Nat) (ht : (zT ar)[t0]? = some (ar k, .object C)) {t q b : Nat} (hz : ∀ f, zk k f = t + 2) (hC : zCl t C T N) (hq : Z.2.1 t q) (hb : Z.1 t q = b) {j : Int32} (hin : vp_in j (Z.2.2 k i)) (hdg : decode cc pc = .ok (.aastore, 1))
    (kk : ∀ (H1 : Heap) (locs1 : List Loc), zW D ar A Z (sr S k i j.toNatClampNeg (some q)) H1 → va_S A H0 H1 locs1 → W p l e R s m args below meth c H1 locs1 cells slots Q (F0 m (pc + 1) ls rest)) : W p l e R s m args below meth c H locs cells slots Q (F0 m pc ls (.ref b :: .int j :: .ref a :: rest)) := by
  subst ha hb
  have hlt : j.toNatClampNeg < Z.2.2 k i := Nat.not_le.mp fun q => hin (Or.inr q)
  have h0 : ¬ j < 0 := fun q => hin (Or.inl q)
  have hcell := (hW.1 _ _ hq).1
  unfold zC at hcell
  rw [if_pos hC.1] at hcell
  obtain ⟨cellV, g1, g2, g3, -⟩ := hcell
  have hcls := (hM.2.2.2.2.1.1 t _ hC.2.1).2
  obtain ⟨kA, comp, k1, k2, k3, -⟩ := (hM.2.2.2.2.1.2 t0 _ ht).2
  have hcomp : comp = D.1 t := Option.some.inj (k3.symm.trans hcls.1)
  subst hcomp
  obtain ⟨kC, hkC, -⟩ := hcls.2
  refine W.aast hM.1 hM.2.1 (hW.arr hd h9) (fun q h => by cases h) (fun h => by cases h) k1 k2 rfl hkC ⟨h0, by rw [arrV_size]; exact hlt⟩ g1 (fun q h => by rw [g3] at h; cases h) (by rw [g2]; exact hkC) (by rw [g2]; exact va_assign hcls) rfl rfl hdg fun H1 e1 z oq => ?_
  exact kk H1 _ (hW.set hd (zC_arr h9 e1 (fun f' => zv_sr_upd (v := some q) (hz _) f')) (fun _ _ e f' => zv_sr_other e f') oq (hW.sr_ok (hz _) (fun x hx => by cases hx; exact hq))) (hS0.put z oq (hW.1 _ _ hd).2)
theorem z_new (hM : zM p c m args s cc own D ar) (hW : zW D ar A Z S H) (hS0 : va_S A H0 H locs) (hlo : ∀ q, H0.size ≤ q → A q) (hC : zCl k C T N) (i : Nat) (hn : ¬ Z.2.1 k i) (hl : Cond.classLink own index C ∈ zU) (hi : Cond.instantiable C N ∈ zU) (hz : Cond.initialized C ∈ zU) (hcells : cells + 1 ≤ R.cells) (hslots : slots + N ≤ R.slots) (hdg : decode cc pc = .ok (.new index, 3))
    (kk : ∀ (Z' : zZ) (H1 : Heap), zext Z Z' k i 0 → zW D ar A Z' (sz S k i) H1 → va_S A H0 H1 locs → W p l e R s m args below meth c H1 locs (cells + 1) (slots + N) Q (F0 m (pc + 3) ls (.ref (Z'.1 k i) :: rest))) : W p l e R s m args below meth c H locs cells slots Q (F0 m pc ls rest) := by
  obtain ⟨h9, hc, rfl, hin, ⟨ty0, hty, hdf⟩, hnm, hTC⟩ := hC
  have hKn := hM.2.2.2.2.1.1 k _ hc
  refine W.newcK hM.1 hM.2.1 hM.2.2.1 (hM.2.2.2.1 _ hl) (hM.2.2.2.1 _ hi) (hM.2.2.2.1 _ hz) rfl hdg hcells hslots hKn.2.1 rfl fun H1 kC hkC e1 z1 o1 => ?_
  have hx := zadd_ext (Z := Z) (k := k) (i := i) (q := H.size) (n := 0)
  have e0 : (zadd Z k i H.size 0).1 k i = H.size := by simp [zadd]
  have hW1 : zW D ar A (zadd Z k i H.size 0) (sz S k i) H1 := by
    refine hW.add hn (hlo _ hS0.1) o1 ?_ (fun k' i' f e => by simp [gi, gj, gr, sz, e]) (fun f => by simp [gr, sz])
    unfold zC
    rw [if_pos h9, e0]
    exact (u_born ty0 hM.2.2.2.1 hin hKn hkC e1 hty).to (fun f hf => by rw [zv_sz]; exact hdf f hf)
  have := kk _ H1 hx hW1 ⟨Nat.le_trans hS0.1 (by omega), fun x h1 h2 => (o1 x (Nat.lt_of_lt_of_le h1 hS0.1)).trans (hS0.2.1 x h1 h2), hS0.2.2⟩
  rw [e0] at this
  exact this
theorem z_newa (hM : zM p c m args s cc own D ar) (hW : zW D ar A Z S H) (hS0 : va_S A H0 H locs) (hlo : ∀ q, H0.size ≤ q → A q) (i : Nat) (h9 : ¬ k < 9) (hn : ¬ Z.2.1 k i) {atype : ArrayType} {ty : FieldType} (hty : newarray.typeOf atype = ty) (t0 : Nat) (ht : (zT ar)[t0]? = some (ar k, ty)) (hl : Cond.arrayClass ty ∈ zU) (hRA : ∀ U cA, va_RA U cA ty → U.vm.findClass ("[" ++ ty.toString) = some cA) (hdf : ∀ f, defaultValue ty = zd (zk k f)) {x : Int32} {n : Nat} (hx0 : ¬ x < 0) (hN : x.toNatClampNeg = n) (hbytes : n * componentBytes ty ≤ 536870912) (hcells : cells + 1 ≤ R.cells) (hslots : slots + n ≤ R.slots) (hdg : decode cc pc = .ok (.newarray atype, 2))
    (kk : ∀ (Z' : zZ) (H1 : Heap), zext Z Z' k i n → zW D ar A Z' (sz S k i) H1 → va_S A H0 H1 locs → W p l e R s m args below meth c H1 locs (cells + 1) (slots + n) Q (F0 m (pc + 2) ls (.ref (Z'.1 k i) :: rest))) : W p l e R s m args below meth c H locs cells slots Q (F0 m pc ls (.int x :: rest)) := by
  subst hty
  refine va_newaK hM.1 hM.2.1 (hM.2.2.2.1 _ hl) rfl hdg rfl hx0 hN hbytes hcells hslots rfl fun H1 cA e1 z1 o1 hAr hNm => ?_
  have hcA : cA = ar k := Option.some.inj (hNm.symm.trans (hRA _ _ (hM.2.2.2.2.1.2 t0 _ ht).2))
  subst hcA
  have hx := zadd_ext (Z := Z) (k := k) (i := i) (q := H.size) (n := n)
  have e0 : (zadd Z k i H.size n).1 k i = H.size := by simp [zadd]
  have hW1 : zW D ar A (zadd Z k i H.size n) (sz S k i) H1 := by
    refine hW.add hn (hlo _ hS0.1) o1 ?_ (fun k' i' f e => by simp [gi, gj, gr, sz, e]) (fun f => by simp [gr, sz])
    unfold zC
    rw [if_neg h9, e0, e1, hx.2.2]
    congr 1
    exact arrV_ext (fun f _ => by rw [zv_sz]; exact hdf f)
  have := kk _ H1 hx hW1 ⟨Nat.le_trans hS0.1 (by omega), fun x h1 h2 => (o1 x (Nat.lt_of_lt_of_le h1 hS0.1)).trans (hS0.2.1 x h1 h2), hS0.2.2⟩
  rw [e0] at this
  exact this
theorem z_newq (hM : zM p c m args s cc own D ar) (hW : zW D ar A Z S H) (hS0 : va_S A H0 H locs) (hlo : ∀ q, H0.size ≤ q → A q) (i : Nat) (h9 : ¬ k < 9) (hn : ¬ Z.2.1 k i) (t0 : Nat) (ht : (zT ar)[t0]? = some (ar k, .object C)) (hl : Cond.classLink own index C ∈ zU) (hover : va_AO C s) (hdf : ∀ f, zd (zk k f) = .null) {x : Int32} {n : Nat} (hx0 : ¬ x < 0) (hN : x.toNatClampNeg = n) (hbytes : n * 4 ≤ 536870912) (hcells : cells + 1 ≤ R.cells) (hslots : slots + n ≤ R.slots) (hdg : decode cc pc = .ok (.anewarray index, 3))
    (kk : ∀ (Z' : zZ) (H1 : Heap), zext Z Z' k i n → zW D ar A Z' (sz S k i) H1 → va_S A H0 H1 locs → W p l e R s m args below meth c H1 locs (cells + 1) (slots + n) Q (F0 m (pc + 3) ls (.ref (Z'.1 k i) :: rest))) : W p l e R s m args below meth c H locs cells slots Q (F0 m pc ls (.int x :: rest)) := by
  subst hN
  refine W.anew hM.1 hM.2.1 hM.2.2.1 (hM.2.2.2.1 _ hl) (va_AO.use hover) rfl hdg rfl hx0 hbytes hcells hslots fun cA kA comp f1 f2 f3 f4 => ?_
  generalize hH1 : H.push ({ cls := cA, slots := Array.replicate x.toNatClampNeg .null, vm := .none } : Cell) = H1
  have z1 : H1.size = H.size + 1 := by rw [← hH1, Array.size_push]
  have e1 : H1[H.size]? = some (arrV cA x.toNatClampNeg (fun _ => .null)) := by rw [← hH1, Array.getElem?_push_size, ← arrV_new]
  have o1 : ∀ q : Nat, q < H.size → H1[q]? = H[q]? := fun q hq => by rw [← hH1, Array.getElem?_push, if_neg (Nat.ne_of_lt hq)]
  obtain ⟨kA', comp', k1, k2, k3, k4⟩ := (hM.2.2.2.2.1.2 t0 _ ht).2
  have hcA : cA = ar k := Option.some.inj (f1.symm.trans k4)
  subst hcA
  have hx := zadd_ext (Z := Z) (k := k) (i := i) (q := H.size) (n := x.toNatClampNeg)
  have e0 : (zadd Z k i H.size x.toNatClampNeg).1 k i = H.size := by simp [zadd]
  have hW1 : zW D ar A (zadd Z k i H.size x.toNatClampNeg) (sz S k i) H1 := by
    refine hW.add hn (hlo _ hS0.1) o1 ?_ (fun k' i' f e => by simp [gi, gj, gr, sz, e]) (fun f => by simp [gr, sz])
    unfold zC
    rw [if_neg h9, e0, e1, hx.2.2]
    congr 1
    exact arrV_ext (fun f _ => by rw [zv_sz]; exact (hdf f).symm)
  have := kk _ H1 hx hW1 ⟨Nat.le_trans hS0.1 (by omega), fun x h1 h2 => (o1 x (Nat.lt_of_lt_of_le h1 hS0.1)).trans (hS0.2.1 x h1 h2), hS0.2.2⟩
  rw [e0] at this
  exact this
end ZR2
