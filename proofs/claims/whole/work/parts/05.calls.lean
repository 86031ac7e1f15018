/-! contracts, calls and returns over the abstract memory -/
def zP (D : va_G) (ar : Nat → ClassId) (A : Nat → Prop) (Z : zZ) (S : zS) (av : List Value) : Array Value → State → Prop := va_Pc av (fun U => zW D ar A Z S U.heap ∧ zK D ar U ∧ ∀ q, U.heap.size ≤ q → A q)
def zQ {α : Type} (D : va_G) (ar : Nat → ClassId) (A : Nat → Prop) (rv : zZ → α → Option Value) (post : α → zZ → zS → Prop) : Array Value → State → Outcome → State → Prop := fun _ st oc t => (∃ (r : α) (Z' : zZ) (S' : zS), oc = .returned (rv Z' r) ∧ post r Z' S' ∧ zW D ar A Z' S' t.heap) ∧ va_F A st t
def rvI : zZ → Int32 → Option Value := fun _ r => some (.int r)
def rvL : zZ → Int64 → Option Value := fun _ r => some (.long r)
def rvV : zZ → Unit → Option Value := fun _ _ => none
def rvR (t : Nat) : zZ → Option Nat → Option Value := fun Z r => some (zrv Z.1 t r)
def zMet {α : Type} (l : Launch) (y : MethodName) (bytes : ByteArray) (maxL : Nat) (ret : Option FieldType) (rm : Room) (D : va_G) (ar : Nat → ClassId) (A : Nat → Prop) (Z : zZ) (S : zS) (av : List Value) (rv : zZ → α → Option Value) (post : α → zZ → zS → Prop) : Prop :=
  Met l y (.code y bytes maxL ret :: zU) rm (zP D ar A Z S av) (zQ D ar A rv post) rm.cells rm.slots A
theorem zX.warm {s U : State} (hW : s.WarmedH U.vm) (h : zX s) : zX U := by
  obtain ⟨h1, h2, h3, h4, h5, h6, h7, h8, h9, h10, h11⟩ := h
  exact ⟨h1.warmC hW, h2.warmM hW, h3.warmM hW, h4.warmM hW, h5.warmM hW, h6.warmM hW, h7.moved hW.alike, h8.moved hW.alike, h9.moved hW.alike, h10.moved hW.alike, h11.moved hW.alike⟩
theorem zK.warm {D : va_G} {ar : Nat → ClassId} {s U : State} (hW : s.WarmedH U.vm) (h : zK D ar s) : zK D ar U := ⟨va_K.moved hW.alike h.1, h.2.warm hW⟩
theorem zX.same {u U : State} (hv : u.vm = U.vm) (h : zX u) : zX U := by
  obtain ⟨h1, h2, h3, h4, h5, h6, h7, h8, h9, h10, h11⟩ := h
  have al : u.vm.Alike U.vm := by rw [hv]; exact Vm.Alike.refl _
  exact ⟨va_tabs rfl hv h1, va_tabs rfl hv h2, va_tabs rfl hv h3, va_tabs rfl hv h4, va_tabs rfl hv h5, va_tabs rfl hv h6, h7.moved al, h8.moved al, h9.moved al, h10.moved al, h11.moved al⟩
theorem zP.blind (D : va_G) (ar : Nat → ClassId) (A : Nat → Prop) (Z : zZ) (S : zS) (av : List Value) : FrameBlind (zP D ar A Z S av) := by
  intro a U g mk q
  obtain ⟨q0, qW, qK, ql⟩ := q
  exact ⟨q0, qW, ⟨va_K.moved (u := U) (U := U.calling g mk a) (Vm.Alike.refl U.vm) qK.1, zX.same (u := U) (U := U.calling g mk a) rfl qK.2⟩, ql⟩
/-- what a call needs of the method called -/
def zY (C : String) (y : MethodName) (bytes : ByteArray) (maxL : Nat) (ret : Option FieldType) (n : Nat) : Prop := Cond.code y bytes maxL ret ∈ zU ∧ Cond.initialized C ∈ zU ∧ (y.cls = C ∧ y.cls ≠ "java/lang/invoke/MethodHandle" ∧ y.cls ≠ "java/lang/invoke/VarHandle" ∧ (parseMethodDescriptor y.desc).map (fun d => d.parameters.length) = some n) ∧ plainName y.cls = true
theorem zU_goodU {ws : List Cond} (h : ∀ w ∈ ws, w ∈ zU) : GoodIn zU ws := fun w hw => ⟨h w hw, good_of_word (List.mem_filter.mp (h w hw)).2⟩
section ZC
variable {p : Program} {l : Launch} {e : Env} {R : Room} {s : State} {m : MethodId} {args : Array Value} {below : List Frame} {meth : Method} {c : Code} {H : Heap} {locs : List Loc} {cells slots : Nat} {Q : State → Prop}
variable {cc : ByteArray} {pc : Nat} {ls : Array Slot} {rest st0 : List Value} {D : va_G} {ar : Nat → ClassId} {A : Nat → Prop} {Z : zZ} {S : zS} {H0 : Heap} {own C : String} {T : u_T} {N k i index a n maxL : Nat} {α : Type} {rv : zZ → α → Option Value} {post : α → zZ → zS → Prop} {y : MethodName} {bytes : ByteArray} {ret : Option FieldType} {rm : Room} {As : List Value}
theorem z_call {mc ms : Nat} {av : Array Value} (hr : va_Run p l e R s m args below meth c H locs cells slots mc ms (F0 m pc ls st0) rest (zQ D ar A rv post av) A) (hS : va_S A H0 H locs)
    (kk : ∀ (r : α) (Z' : zZ) (S' : zS) (H1 : Heap) (locs1 : List Loc), post r Z' S' → zW D ar A Z' S' H1 → va_S A H0 H1 locs1 → W p l e R s m args below meth c H1 locs1 (cells + mc) (slots + ms) Q (F0 m (pc + 3) ls ((rv Z' r).toList ++ rest))) : W p l e R s m args below meth c H locs cells slots Q (F0 m pc ls st0) := by
  intro T hT X
  obtain ⟨v, st₀, t, T', L, h0, X', hL, e1, e2, ⟨⟨r, Z', S', hv, hp, hb⟩, hz, hk⟩, st⟩ := hr T hT X
  cases hv
  rw [h0] at hz hk
  obtain ⟨t2, a1, b1⟩ := kk r Z' S' T'.heap (locs ++ L) hp (by rw [e1]; exact hb)
    ⟨Nat.le_trans hS.1 (by rw [e1]; exact hz), fun q h1 h2 => by rw [e1, hk q (Nat.lt_of_lt_of_le h1 hS.1) h2]; exact hS.2.1 q h1 h2, fun q hq => by
      rcases List.mem_append.mp hq with h | h
      · exact hS.2.2 q h
      · exact hL q h⟩ T' rfl X'
  exact ⟨t2, st t2 a1, b1⟩
theorem z_callV (hM : zM p c m args s cc own D ar) (hml : c.maxLocals = ls.size) (hW : zW D ar A Z S H) (hS : va_S A H0 H locs) (hlo : ∀ q, H0.size ≤ q → A q) (hC : zCl k C T N) (hd : Z.2.1 k i) (hy : zY C y bytes maxL ret n) (hl : Cond.methodLink own index y ∈ zU) (hi : Cond.instanceMethod y ∈ zU) (hse : Cond.selects C y y ∈ zU)
    (hMet : zMet l y bytes maxL ret rm D ar A Z S (.ref (Z.1 k i) :: As) rv post) (hn : As.length = n) (hst : st0 = As.reverse ++ .ref (Z.1 k i) :: rest) (h8 : (rest.map fun v => v.category).sum ≤ 8) (hR : rm.frames + 1 ≤ R.frames ∧ 8 + (maxL + 11) + rm.locals ≤ R.locals) (hf : cells + rm.cells ≤ R.cells ∧ slots + rm.slots ≤ R.slots) (hdg : decode cc pc = .ok (.invokevirtual index, 3))
    (kk : ∀ (r : α) (Z' : zZ) (S' : zS) (H1 : Heap) (locs1 : List Loc), post r Z' S' → zW D ar A Z' S' H1 → va_S A H0 H1 locs1 → W p l e R s m args below meth c H1 locs1 (cells + rm.cells) (slots + rm.slots) Q (F0 m (pc + 3) ls ((rv Z' r).toList ++ rest))) : W p l e R s m args below meth c H locs cells slots Q (F0 m pc ls st0) := by
  have hG : GoodIn zU (wsV own index C y (.code y bytes maxL ret :: zU)) := zU_goodU (by
    intro w hw
    simp only [wsV, List.mem_append, List.mem_cons, List.not_mem_nil, or_false] at hw
    rcases hw with (rfl | rfl | rfl | rfl) | rfl | h
    · exact hl
    · exact hi
    · exact hse
    · exact hy.2.1
    · exact hy.1
    · exact h)
  have hcell := (hW.1 _ _ hd).1
  unfold zC at hcell
  rw [if_pos hC.1] at hcell
  obtain ⟨cell, q1, q2, q3, -⟩ := hcell
  have hfc := (hM.2.2.2.2.1.1 k _ hC.2.1).2.1
  refine z_call (va_runV (As := As) (rest := rest) (b := Z.1 k i) ⟨hM.1, hM.2.1, hml, hM.2.2.1, hM.2.2.2.1⟩ hMet (cwV n hM.2.2.2.1 hG rfl rfl rfl hy.2.2.1 hR) ⟨zP.blind _ _ _ _ _ _, ⟨cell, q1, by rw [q3]; rfl, by rw [q2]; exact hfc⟩, fun U hU hW1 => ⟨rfl, by rw [hU]; exact hW, hM.2.2.2.2.warm hW1, fun q h => hlo q (Nat.le_trans hS.1 (by rw [hU] at h; exact h))⟩⟩ rfl hn rfl hst (by simpa using h8) hdg hf) hS kk
theorem z_callS (hM : zM p c m args s cc own D ar) (hml : c.maxLocals = ls.size) (hW : zW D ar A Z S H) (hS : va_S A H0 H locs) (hlo : ∀ q, H0.size ≤ q → A q) (hy : zY C y bytes maxL ret n) (hl : Cond.methodLink own index y ∈ zU) (hi : Cond.static y ∈ zU)
    (hMet : zMet l y bytes maxL ret rm D ar A Z S As rv post) (hn : As.length = n) (hst : st0 = As.reverse ++ rest) (h8 : (rest.map fun v => v.category).sum ≤ 8) (hR : rm.frames + 1 ≤ R.frames ∧ 8 + (maxL + 11) + rm.locals ≤ R.locals) (hf : cells + rm.cells ≤ R.cells ∧ slots + rm.slots ≤ R.slots) (hdg : decode cc pc = .ok (.invokestatic index, 3))
    (kk : ∀ (r : α) (Z' : zZ) (S' : zS) (H1 : Heap) (locs1 : List Loc), post r Z' S' → zW D ar A Z' S' H1 → va_S A H0 H1 locs1 → W p l e R s m args below meth c H1 locs1 (cells + rm.cells) (slots + rm.slots) Q (F0 m (pc + 3) ls ((rv Z' r).toList ++ rest))) : W p l e R s m args below meth c H locs cells slots Q (F0 m pc ls st0) := by
  have hG : GoodIn zU (va_wsS own index y (.code y bytes maxL ret :: zU)) := zU_goodU (by
    intro w hw
    simp only [va_wsS, List.mem_append, List.mem_cons, List.not_mem_nil, or_false] at hw
    rcases hw with (rfl | rfl | rfl) | rfl | h
    · exact hl
    · exact hi
    · rw [hy.2.2.1.1]; exact hy.2.1
    · exact hy.1
    · exact h)
  refine z_call (va_runS (As := As) (rest := rest) ⟨hM.1, hM.2.1, hml, hM.2.2.1, hM.2.2.2.1⟩ hMet (va_cwS n hM.2.2.2.1 hG rfl rfl rfl hy.2.2.1.2 hR) ⟨zP.blind _ _ _ _ _ _, fun U hU hW1 => ⟨rfl, by rw [hU]; exact hW, hM.2.2.2.2.warm hW1, fun q h => hlo q (Nat.le_trans hS.1 (by rw [hU] at h; exact h))⟩⟩ rfl hn rfl hst (by simpa using h8) hdg hf) hS kk
theorem z_callI (hM : zM p c m args s cc own D ar) (hml : c.maxLocals = ls.size) (hW : zW D ar A Z S H) (hS : va_S A H0 H locs) (hlo : ∀ q, H0.size ≤ q → A q) (hy : zY C y bytes maxL none n) (hy1 : y.name = "<init>") (hl : Cond.methodLink own index y ∈ zU) (hi : Cond.instanceMethod y ∈ zU)
    (hMet : zMet l y bytes maxL none rm D ar A Z S (.ref a :: As) rv post) (hn : As.length = n) (hst : st0 = As.reverse ++ .ref a :: rest) (h8 : (rest.map fun v => v.category).sum ≤ 8) (hR : rm.frames + 1 ≤ R.frames ∧ 8 + (maxL + 11) + rm.locals ≤ R.locals) (hf : cells + rm.cells ≤ R.cells ∧ slots + rm.slots ≤ R.slots) (hdg : decode cc pc = .ok (.invokespecial index, 3))
    (kk : ∀ (r : α) (Z' : zZ) (S' : zS) (H1 : Heap) (locs1 : List Loc), post r Z' S' → zW D ar A Z' S' H1 → va_S A H0 H1 locs1 → W p l e R s m args below meth c H1 locs1 (cells + rm.cells) (slots + rm.slots) Q (F0 m (pc + 3) ls ((rv Z' r).toList ++ rest))) : W p l e R s m args below meth c H locs cells slots Q (F0 m pc ls st0) := by
  have hG : GoodIn zU (.code y bytes maxL none :: zU) := zU_goodU (by
    intro w hw
    rcases List.mem_cons.mp hw with rfl | h
    · exact hy.1
    · exact h)
  refine z_call (va_runI (As := As) (rest := rest) (b := a) ⟨hM.1, hM.2.1, hml, hM.2.2.1, hM.2.2.2.1⟩ hMet (cwI n hM.2.2.2.1 hG rfl rfl rfl (by rw [hy.2.2.1.1]; exact hM.2.2.2.1 _ hy.2.1) (hM.2.2.2.1 _ hl) (hM.2.2.2.1 _ hi) hy1 hy.2.2.1.2 hR) ⟨zP.blind _ _ _ _ _ _, fun U hU hW1 => ⟨rfl, by rw [hU]; exact hW, hM.2.2.2.2.warm hW1, fun q h => hlo q (Nat.le_trans hS.1 (by rw [hU] at h; exact h))⟩⟩ rfl hn rfl hst (by simpa using h8) hdg hf) hS kk
theorem z_callN (hM : zM p c m args s cc own D ar) (hml : c.maxLocals = ls.size) (hW : zW D ar A Z S H) (hS : va_S A H0 H locs) (hlo : ∀ q, H0.size ≤ q → A q) (hy : zY C y bytes maxL none n) (hy1 : y.name = "<init>") {host : String} (hl : va_Nw (.methodLinkNest own index y host) s) (hi : Cond.instanceMethod y ∈ zU)
    (hMet : zMet l y bytes maxL none rm D ar A Z S (.ref a :: As) rv post) (hn : As.length = n) (hst : st0 = As.reverse ++ .ref a :: rest) (h8 : (rest.map fun v => v.category).sum ≤ 8) (hR : rm.frames + 1 ≤ R.frames ∧ 8 + (maxL + 11) + rm.locals ≤ R.locals) (hf : cells + rm.cells ≤ R.cells ∧ slots + rm.slots ≤ R.slots) (hdg : decode cc pc = .ok (.invokespecial index, 3))
    (kk : ∀ (r : α) (Z' : zZ) (S' : zS) (H1 : Heap) (locs1 : List Loc), post r Z' S' → zW D ar A Z' S' H1 → va_S A H0 H1 locs1 → W p l e R s m args below meth c H1 locs1 (cells + rm.cells) (slots + rm.slots) Q (F0 m (pc + 3) ls ((rv Z' r).toList ++ rest))) : W p l e R s m args below meth c H locs cells slots Q (F0 m pc ls st0) := by
  have hG : GoodIn zU (.code y bytes maxL none :: zU) := zU_goodU (by
    intro w hw
    rcases List.mem_cons.mp hw with rfl | h
    · exact hy.1
    · exact h)
  refine z_call (va_runIN (As := As) (rest := rest) (b := a) ⟨hM.1, hM.2.1, hml, hM.2.2.1, hM.2.2.2.1⟩ hMet ⟨va_cnB n hM.2.2.2.1 hG rfl rfl rfl hl (by rw [hy.2.2.1.1]; exact hM.2.2.2.1 _ hy.2.1) hy.2.2.1.2 hR, hy1, hM.2.2.2.1 _ hi⟩ ⟨zP.blind _ _ _ _ _ _, fun U hU hW1 => ⟨rfl, by rw [hU]; exact hW, hM.2.2.2.2.warm hW1, fun q h => hlo q (Nat.le_trans hS.1 (by rw [hU] at h; exact h))⟩⟩ rfl hn rfl hst (by simpa using h8) hdg hf) hS kk
/-- returns -/
theorem z_iret {post : Int32 → zZ → zS → Prop} (hM : zM p c m args s cc own D ar) (hlk : meth.locks = false) {v : Int32} {ty : FieldType} (hr : meth.sig.returnType = some ty) (hn : narrow ty (.int v) = .int v) (hW : zW D ar A Z S H) (hS : va_S A s.heap H locs) (hp : post v Z S) (hdg : decode cc pc = .ok (.ireturn, 1)) : W p l e R s m args below meth c H locs cells slots (MQ below (zQ D ar A rvI post) args s cells slots A) (F0 m pc ls [.int v]) :=
  W.zret (hlocks := hlk) hM.1 hM.2.1 hr hn (fun t ht _ => ⟨⟨v, Z, S, rfl, hp, by rw [ht]; exact hW⟩, hS.F ht⟩) hS.2.2 hdg
theorem z_lret {post : Int64 → zZ → zS → Prop} (hM : zM p c m args s cc own D ar) (hlk : meth.locks = false) {v : Int64} (hr : meth.sig.returnType = some .long) (hW : zW D ar A Z S H) (hS : va_S A s.heap H locs) (hp : post v Z S) (hdg : decode cc pc = .ok (.lreturn, 1)) : W p l e R s m args below meth c H locs cells slots (MQ below (zQ D ar A rvL post) args s cells slots A) (F0 m pc ls [.long v]) :=
  W.lret (hlocks := hlk) hM.1 hM.2.1 hr (fun t ht _ => ⟨⟨v, Z, S, rfl, hp, by rw [ht]; exact hW⟩, hS.F ht⟩) hS.2.2 hdg
theorem z_vret {post : Unit → zZ → zS → Prop} (hM : zM p c m args s cc own D ar) (hlk : meth.locks = false) (hr : meth.sig.returnType = none) (hW : zW D ar A Z S H) (hS : va_S A s.heap H locs) (hp : post () Z S) (hdg : decode cc pc = .ok (.return_, 1)) : W p l e R s m args below meth c H locs cells slots (MQ below (zQ D ar A rvV post) args s cells slots A) (F0 m pc ls []) :=
  W.vret (hlocks := hlk) hM.1 hM.2.1 hr (fun t ht _ => ⟨⟨(), Z, S, rfl, hp, by rw [ht]; exact hW⟩, hS.F ht⟩) hS.2.2 hdg
theorem z_aret {t : Nat} {post : Option Nat → zZ → zS → Prop} (hM : zM p c m args s cc own D ar) (hlk : meth.locks = false) {C0 : String} (hr : meth.sig.returnType = some (.object C0)) (o : Option Nat) {v : Value} (hv : v = zrv Z.1 t o) (hW : zW D ar A Z S H) (hS : va_S A s.heap H locs) (hp : post o Z S) (hdg : decode cc pc = .ok (.areturn, 1)) : W p l e R s m args below meth c H locs cells slots (MQ below (zQ D ar A (rvR t) post) args s cells slots A) (F0 m pc ls [v]) :=
  W.aret (hlocks := hlk) hM.1 hM.2.1 hr (Or.inl ⟨_, rfl⟩) (by cases o with | none => exact Or.inl hv | some j => exact Or.inr ⟨_, hv⟩) (fun t ht _ => ⟨⟨o, Z, S, by rw [hv]; rfl, hp, by rw [ht]; exact hW⟩, hS.F ht⟩) hS.2.2 hdg
end ZC
theorem z_body {α : Type} {l : Launch} {y : MethodName} {bytes : ByteArray} {maxL : Nat} {ret : Option FieldType} {rm : Room} {D : va_G} {ar : Nat → ClassId} {A : Nat → Prop} {Z : zZ} {S : zS} {av : List Value} {rv : zZ → α → Option Value} {post : α → zZ → zS → Prop} (hpl : plainName y.cls = true) (hlen : (lg_sl av).length ≤ maxL)
    (body : ∀ (p : Program) (e : Env) (s : State) (m : MethodId) (below : List Frame) (meth : Method) (c : Code) (ls : Array Slot), zM p c m av.toArray s bytes y.cls D ar → meth.sig.returnType = ret → meth.locks = false → c.maxLocals = maxL → meth.name = y.name → lv_has ls maxL (lv_args 0 av) → zW D ar A Z S s.heap → (∀ q, s.heap.size ≤ q → A q) →
      W p l e rm s m av.toArray below meth c s.heap [] 0 0 (MQ below (zQ D ar A rv post) av.toArray s rm.cells rm.slots A) (F0 m 0 ls [])) : zMet l y bytes maxL ret rm D ar A Z S av rv post := by
  refine Met.ofW (cc := bytes) (maxL := maxL) (ret := ret) hpl rfl ?_
  intro p e s m args below meth c s₁ B hml hv
  obtain ⟨rfl, hW, hK, hlo⟩ := hv
  have hts := atoms_spec (ws := .code y bytes maxL ret :: zU) B.pre
  have hown : s.vm.findClass y.cls = some m.cls := findClass_of_methodNamed B.named
  have hin : meth.name = y.name := (name_of_methodNamed B.named B.method).1
  have hl := lv_entry av (n := maxL) hlen
  rw [lg_entry_eq]
  exact body p e s m below meth c _ ⟨B.exec, B.bytes, hown, zU_low hts, hK⟩ B.returns B.notSynchronized hml hin hl hW hlo
abbrev ix (x : Int32) : Nat := x.toNatClampNeg
/-- a method that answers r0 and leaves the state S2, with the cells that there were -/
def zF {α : Type} (r0 : α) (Z : zZ) (S2 : zS) : α → zZ → zS → Prop := fun r Z' S' => r = r0 ∧ Z' = Z ∧ S' = S2
theorem zF.rf {α : Type} {r : α} {Z : zZ} {S : zS} : zF r Z S r Z S := ⟨rfl, rfl, rfl⟩
theorem zF.of {α : Type} {r r0 : α} {Z : zZ} {S S0 : zS} (h1 : r = r0) (h2 : S = S0) : zF r0 Z S0 r Z S := ⟨h1, rfl, h2⟩
