section ZI
variable {p : Program} {l : Launch} {e : Env} {R : Room} {s : State} {m : MethodId} {args : Array Value} {below : List Frame} {meth : Method} {c : Code} {H : Heap} {locs : List Loc} {cells slots : Nat} {Q : State → Prop}
variable {cc : ByteArray} {pc : Nat} {ls : Array Slot} {rest st0 : List Value} {D : va_G} {ar : Nat → ClassId} {A : Nat → Prop} {Z : zZ} {S S2 : zS} {H0 : Heap} {own C : String} {T : u_T} {N k i index a n maxL : Nat} {y : MethodName} {bytes : ByteArray} {ret : Option FieldType} {rm : Room} {As : List Value}
theorem z_IFv (hM : zM p c m args s cc own D ar) (hml : c.maxLocals = ls.size) (hW : zW D ar A Z S H) (hS : va_S A H0 H locs) (hlo : ∀ q, H0.size ≤ q → A q) (hy : zY C y bytes maxL none n) (hy1 : y.name = "<init>") (hl : Cond.methodLink own index y ∈ zU) (hi : Cond.instanceMethod y ∈ zU)
    (hMet : zMet l y bytes maxL none rm D ar A Z S (.ref a :: As) rvV (zF () Z S2)) (hn : As.length = n) (hst : st0 = As.reverse ++ .ref a :: rest) (h8 : (rest.map fun v => v.category).sum ≤ 8) (hR : rm.frames + 1 ≤ R.frames ∧ 8 + (maxL + 11) + rm.locals ≤ R.locals) (hf : cells + rm.cells ≤ R.cells ∧ slots + rm.slots ≤ R.slots) (hdg : decode cc pc = .ok (.invokespecial index, 3))
    (kk : ∀ (H1 : Heap) (locs1 : List Loc), zW D ar A Z S2 H1 → va_S A H0 H1 locs1 → W p l e R s m args below meth c H1 locs1 (cells + rm.cells) (slots + rm.slots) Q (F0 m (pc + 3) ls rest)) : W p l e R s m args below meth c H locs cells slots Q (F0 m pc ls st0) := by
  refine z_callI hM hml hW hS hlo hy hy1 hl hi hMet hn hst h8 hR hf hdg (fun r Z' S' H1 locs1 hp hW1 hS1 => ?_)
  obtain ⟨e1, e2, e3⟩ := hp
  subst e1 e2 e3
  exact kk H1 locs1 hW1 hS1
theorem z_NFv (hM : zM p c m args s cc own D ar) (hml : c.maxLocals = ls.size) (hW : zW D ar A Z S H) (hS : va_S A H0 H locs) (hlo : ∀ q, H0.size ≤ q → A q) (hy : zY C y bytes maxL none n) (hy1 : y.name = "<init>") {host : String} (hl : va_Nw (.methodLinkNest own index y host) s) (hi : Cond.instanceMethod y ∈ zU)
    (hMet : zMet l y bytes maxL none rm D ar A Z S (.ref a :: As) rvV (zF () Z S2)) (hn : As.length = n) (hst : st0 = As.reverse ++ .ref a :: rest) (h8 : (rest.map fun v => v.category).sum ≤ 8) (hR : rm.frames + 1 ≤ R.frames ∧ 8 + (maxL + 11) + rm.locals ≤ R.locals) (hf : cells + rm.cells ≤ R.cells ∧ slots + rm.slots ≤ R.slots) (hdg : decode cc pc = .ok (.invokespecial index, 3))
    (kk : ∀ (H1 : Heap) (locs1 : List Loc), zW D ar A Z S2 H1 → va_S A H0 H1 locs1 → W p l e R s m args below meth c H1 locs1 (cells + rm.cells) (slots + rm.slots) Q (F0 m (pc + 3) ls rest)) : W p l e R s m args below meth c H locs cells slots Q (F0 m pc ls st0) := by
  refine z_callN hM hml hW hS hlo hy hy1 hl hi hMet hn hst h8 hR hf hdg (fun r Z' S' H1 locs1 hp hW1 hS1 => ?_)
  obtain ⟨e1, e2, e3⟩ := hp
  subst e1 e2 e3
  exact kk H1 locs1 hW1 hS1
end ZI
theorem gi_sz (S : zS) (k i k' i' f : Nat) : gi (sz S k i) k' i' f = if k' = k ∧ i' = i then 0 else gi S k' i' f := rfl
theorem gj_sz (S : zS) (k i k' i' f : Nat) : gj (sz S k i) k' i' f = if k' = k ∧ i' = i then 0 else gj S k' i' f := rfl
theorem gr_sz (S : zS) (k i k' i' f : Nat) : gr (sz S k i) k' i' f = if k' = k ∧ i' = i then none else gr S k' i' f := rfl
/-- a new act changes nothing of the shape -/
theorem zV.newAct {n a : Nat} {Z Z1 : zZ} {R R' : zR} (h : zV n Z R) (hx : zext Z Z1 0 a 0) (he : ∀ k i f, k ≠ 0 → R' k i f = R k i f) : zV n Z1 R' := by
  have d : ∀ k i, Z.2.1 k i → Z1.2.1 k i := fun k i q => (hx.2.1 k i).mpr (Or.inl q)
  have g : ∀ k i, k ≠ 0 → Z1.2.2 k i = Z.2.2 k i := fun k i q => (hx.1 k i (fun r => q r.1)).2
  have ep : ∀ j, pmR R' j = pmR R j := fun j => by unfold pmR; rw [he _ _ _ (by decide)]
  have et : tkR R' = tkR R := by unfold tkR; rw [he _ _ _ (by decide)]
  obtain ⟨⟨⟨a1, a2, a3, a4, a5, a6, a7⟩, b1, b2, b3, b4, b5, b6⟩, ⟨c1, c2, c3, c4⟩, d3, ⟨f1, f2, f3, f4, f5, f6⟩, g5, g6, g7⟩ := h
  refine ⟨⟨⟨d _ _ a1, ?_, ?_, ?_, ?_, ?_, ?_⟩, d _ _ b1, ?_, ?_, ?_, ?_, ?_⟩, ⟨c1, ?_, ?_, fun c hc => ?_⟩, fun c hc => ?_, ⟨fun j hj => ?_, fun j hj => ?_, ?_, ?_, fun i j hi hj e => ?_, fun j hj => ?_⟩, fun t ht => ?_, fun b hb => ?_, fun c hc => ?_⟩
  · rw [he _ _ _ (by decide)]; exact a2
  · rw [he _ _ _ (by decide)]; exact a3
  · rw [he _ _ _ (by decide)]; exact a4
  · rw [he _ _ _ (by decide)]; exact a5
  · rw [he _ _ _ (by decide)]; exact a6
  · rw [he _ _ _ (by decide)]; exact a7
  · rw [he _ _ _ (by decide)]; exact b2
  · rw [g _ _ (by decide)]; exact b3
  · rw [g _ _ (by decide)]; exact b4
  · rw [g _ _ (by decide)]; exact b5
  · rw [g _ _ (by decide)]; exact b6
  · rw [g _ _ (by decide)]; exact c2
  · rw [g _ _ (by decide)]; exact c3
  · rw [he _ _ _ (by decide), he _ _ _ (by decide)]; exact ⟨d _ _ (c4 c hc).1, (c4 c hc).2⟩
  · rw [he _ _ _ (by decide), he _ _ _ (by decide)]; exact ⟨d _ _ (d3 c hc).1, (d3 c hc).2⟩
  · rw [he _ _ _ (by decide)]; exact ⟨d _ _ (f1 j hj).1, (f1 j hj).2⟩
  · rw [he _ _ _ (by decide), ep]; exact f2 j hj
  · rw [he _ _ _ (by decide), et]; exact f3
  · rw [et]; exact f4
  · rw [ep, ep] at e; exact f5 i j hi hj e
  · rw [ep, et]; exact f6 j hj
  · rw [he _ _ _ (by decide), he _ _ _ (by decide), g _ _ (by decide)]
    rcases g5 t ht with q | ⟨q1, q2, q3, q4⟩
    · exact Or.inl q
    · exact Or.inr ⟨q1, d _ _ q2, q3, q4⟩
  · rw [he _ _ _ (by decide)]
    rcases g6 b hb with q | ⟨q1, q2⟩
    · exact Or.inl q
    · exact Or.inr ⟨q1, d _ _ q2⟩
  · rcases g7 c hc with q | ⟨b, q1, q2, q3⟩
    · exact Or.inl (by rw [he _ _ _ (by decide)]; exact q)
    · exact Or.inr ⟨b, q1, by rw [he _ _ _ (by decide)]; exact q2, by rw [he _ _ _ (by decide)]; exact q3⟩
theorem init0 {S : zS} {a : Nat} {x y z : Int32} : (∀ k i f, k ≠ 0 → gi (s_X0_init (sz S 0 a) a x y z) k i f = gi S k i f) ∧ (∀ k i f, k ≠ 0 → (s_X0_init (sz S 0 a) a x y z).2.2 k i f = S.2.2 k i f) := by
  refine ⟨fun k i f h => ?_, fun k i f h => ?_⟩
  · unfold s_X0_init
    simp only [gi_si, gi_sz]
    simp [h]
  · show gr (sz S 0 a) k i f = gr S k i f
    rw [gr_sz, if_neg (fun q => h q.1)]
noncomputable def r_X7_beginChange (S : zS) (n : Nat) (c a : Nat) (t : Int32) : Int32 :=(r_X7_beginAct (si (si (s_X0_init (sz S 0 a) a ((gi (sz S 0 a) 7 (0) (7)) + (1)) (2) (gi (sz S 0 a) 2 (c) (0))) 0 (a) (7) (t)) 2 (c) (7) (t)) n (c) (a) (3))
noncomputable def s_X7_beginChange (S : zS) (n : Nat) (c a : Nat) (t : Int32) : zS :=((s_X7_beginAct (si (si (s_X0_init (sz S 0 a) a ((gi (sz S 0 a) 7 (0) (7)) + (1)) (2) (gi (sz S 0 a) 2 (c) (0))) 0 (a) (7) (t)) 2 (c) (7) (t)) n (c) (a) (3)))
set_option maxHeartbeats 400000 in
set_option maxRecDepth 100000 in
theorem c_X7_beginChange {l : Launch} {D : va_G} {ar : Nat → ClassId} {A : Nat → Prop} {Z : zZ} {S : zS} {n : Nat} {c a : Nat} {t : Int32} (hV : zV n Z S.2.2) (hc : c < 4) (hac : gi S 7 0 7 = nI a) (ha2 : a < 200) (hfr : ¬ Z.2.1 0 a) (hc0 : ¬ gi S 1 0 2 < 0) : zMet l yX7_beginChange prog_1_method_28_code 4 (some .int) ({ frames := 5, cells := 1, slots := 9, locals := 119 } : Room) D ar A Z S [.ref (Z.1 7 (0)), .ref (Z.1 2 (c)), .int (t)] rvI (fun r Z' S' => r = r_X7_beginChange S n c a t ∧ S' = s_X7_beginChange S n c a t ∧ zext Z Z' 0 a 0) := by
  refine z_body (by decide +kernel) (Nat.le_of_ble_eq_true rfl) ?_
  intro pX eX sX mX bX methX cX ls hM hr hlk hml hin hl hW hlo
  have hM : zM pX cX mX _ sX prog_1_method_28_code RX7 D ar := hM
  have hS : va_S A sX.heap sX.heap [] := va_S.rf
  have hl : lv_has ls 4 [(0, .ref (Z.1 7 (0))), (1, .ref (Z.1 2 (c))), (2, .int (t))] := hl
  refine z_new hM hW hS hlo zc0 a hfr lk_X7_56 lt_X0 lz_X0 (Nat.le_of_ble_eq_true rfl) (Nat.le_of_ble_eq_true rfl) dX7_beginChange_0 (fun Z1 H hx1 hW hS => ?_)
  have dm1_0 : Z1.2.1 7 (0) := (hx1.2.1 _ _).mpr (Or.inl hV.d7)
  have ha1_0 : Z1.1 7 (0) = Z.1 7 (0) := (hx1.1 _ _ ((by omega))).1.trans rfl
  have dm1_1 : Z1.2.1 2 (c) := (hx1.2.1 _ _).mpr (Or.inl (hV.d2 hc))
  have ha1_1 : Z1.1 2 (c) = Z.1 2 (c) := (hx1.1 _ _ ((by omega))).1.trans rfl
  have hda : Z1.2.1 0 a := (hx1.2.1 _ _).mpr (Or.inr ⟨rfl, rfl⟩)
  have hV1 : zV n Z1 (sz S 0 a).2.2 := hV.newAct hx1 (fun k i f q => by show gr (sz S 0 a) k i f = _; rw [gr_sz, if_neg (fun r => q r.1)]; rfl)
  refine lv_dup hM.1 hM.2.1 dX7_beginChange_3 rfl ?_
  refine lv_aload_n hM.1 hM.2.1 dX7_beginChange_4 rfl (lv_at hl 0 rfl) ?_
  refine z_get hM hW zc7 dm1_0 ha1_0 7 (by decide) lf_X7_91 (v := .int (gi (sz S 0 a) 7 (0) (7))) rfl dX7_beginChange_5 ?_
  refine lv_iconst (v := 1) hM.1 hM.2.1 dX7_beginChange_8 (by decide) ?_
  refine lv_iadd hM.1 hM.2.1 dX7_beginChange_9 ?_
  refine lv_iconst (v := 2) hM.1 hM.2.1 dX7_beginChange_10 (by decide) ?_
  refine lv_aload_n hM.1 hM.2.1 dX7_beginChange_11 rfl (lv_at hl 1 rfl) ?_
  refine z_get hM hW zc2 dm1_1 ha1_1 0 (by decide) lf_X7_245 (v := .int (gi (sz S 0 a) 2 (c) (0))) rfl dX7_beginChange_12 ?_
  refine z_IFv hM (hml.trans hl.1.symm) hW hS hlo zyX0_init rfl lm_X7_94 li_yX0_init (As := [.int ((gi (sz S 0 a) 7 (0) (7)) + (1)), .int (2), .int (gi (sz S 0 a) 2 (c) (0))]) (rest := [.ref (Z1.1 0 a)]) (c_X0_init hda) rfl rfl (Nat.le_of_ble_eq_true rfl) ⟨Nat.le_of_ble_eq_true rfl, Nat.le_of_ble_eq_true rfl⟩ ⟨Nat.le_of_ble_eq_true rfl, Nat.le_of_ble_eq_true rfl⟩ dX7_beginChange_15 (fun H locs hW hS => ?_)
  obtain ⟨B1, hB1⟩ : ∃ B, B = (s_X0_init (sz S 0 a) a ((gi (sz S 0 a) 7 (0) (7)) + (1)) (2) (gi (sz S 0 a) 2 (c) (0))) := ⟨_, rfl⟩
  rw [← hB1] at hW
  have gB : ∀ k i f, k ≠ 0 → gi B1 k i f = gi S k i f := by rw [hB1]; exact init0.1
  have hVB : zV n Z1 B1.2.2 := hV.newAct hx1 (by rw [hB1]; exact init0.2)
  refine lv_astore_n hM.1 hM.2.1 dX7_beginChange_18 rfl hl (by decide) (lv' := [(3, .ref (Z1.1 0 a)), (0, .ref (Z.1 7 (0))), (1, .ref (Z.1 2 (c))), (2, .int (t))]) rfl (fun ls hl => ?_)
  refine lv_aload_n hM.1 hM.2.1 dX7_beginChange_19 rfl (lv_at hl 0 rfl) ?_
  refine lv_iload_n hM.1 hM.2.1 dX7_beginChange_20 rfl (lv_at hl 3 rfl) ?_
  refine z_puti hM hW hS zc0 hda rfl 7 (by decide) rfl lf_X7_226 (Or.inl rfl) (tyX0 7) (tyX0_ok 7 (by decide)) rfl rfl dX7_beginChange_21 (fun H locs hW hS => ?_)
  refine lv_aload_n hM.1 hM.2.1 dX7_beginChange_24 rfl (lv_at hl 2 rfl) ?_
  refine lv_iload_n hM.1 hM.2.1 dX7_beginChange_25 rfl (lv_at hl 3 rfl) ?_
  refine z_puti hM hW hS zc2 dm1_1 ha1_1 7 (by decide) rfl lf_X7_80 (Or.inl rfl) (tyX2 7) (tyX2_ok 7 (by decide)) rfl rfl dX7_beginChange_26 (fun H locs hW hS => ?_)
  refine lv_aload_n hM.1 hM.2.1 dX7_beginChange_29 rfl (lv_at hl 1 rfl) ?_
  refine lv_aload_n hM.1 hM.2.1 dX7_beginChange_30 rfl (lv_at hl 2 rfl) ?_
  refine lv_aload_n hM.1 hM.2.1 dX7_beginChange_31 rfl (lv_at hl 0 rfl) ?_
  refine lv_iconst (v := 3) hM.1 hM.2.1 dX7_beginChange_32 (by decide) ?_
  refine z_Vi hM (hml.trans hl.1.symm) hW hS hlo zc7 dm1_0 ha1_0 zyX7_beginAct lm_X7_97 li_yX7_beginAct le_yX7_beginAct (As := [.ref (Z1.1 2 (c)), .ref (Z1.1 0 a), .int (3)]) (rest := []) (c_X7_beginAct (n := n) hVB hc hda (by first | exact (gB _ _ _ (by decide)).trans hac | (show gi B1 7 0 7 = nI a; exact (gB _ _ _ (by decide)).trans hac)) ha2 (by show ¬ gi B1 1 0 2 < 0; rw [gB _ _ _ (by decide)]; exact hc0)) rfl (by rw [ha1_1]; rfl) (Nat.le_of_ble_eq_true rfl) ⟨Nat.le_of_ble_eq_true rfl, Nat.le_of_ble_eq_true rfl⟩ ⟨Nat.le_of_ble_eq_true rfl, Nat.le_of_ble_eq_true rfl⟩ dX7_beginChange_33 (fun H locs hW hS => ?_)
  refine W.widen (k := 1) (n := 9) (Nat.le_of_ble_eq_true rfl) (Nat.le_of_ble_eq_true rfl) ?_
  exact z_iret hM hlk hr rfl hW hS ⟨(by subst hB1; unfold r_X7_beginChange; first | done | rfl), (by subst hB1; unfold s_X7_beginChange; first | done | rfl), hx1⟩ dX7_beginChange_36
