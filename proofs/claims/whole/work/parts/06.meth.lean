section ZF
variable {p : Program} {l : Launch} {e : Env} {R : Room} {s : State} {m : MethodId} {args : Array Value} {below : List Frame} {meth : Method} {c : Code} {H : Heap} {locs : List Loc} {cells slots : Nat} {Q : State → Prop}
variable {cc : ByteArray} {pc : Nat} {ls : Array Slot} {rest st0 : List Value} {D : va_G} {ar : Nat → ClassId} {A : Nat → Prop} {Z : zZ} {S S2 : zS} {H0 : Heap} {own C : String} {T : u_T} {N k i index a n maxL : Nat} {y : MethodName} {bytes : ByteArray} {ret : Option FieldType} {rm : Room} {As : List Value}
theorem z_Vi {r0 : Int32} (hM : zM p c m args s cc own D ar) (hml : c.maxLocals = ls.size) (hW : zW D ar A Z S H) (hS : va_S A H0 H locs) (hlo : ∀ q, H0.size ≤ q → A q) (hC : zCl k C T N) (hd : Z.2.1 k i) (ha : Z.1 k i = a) (hy : zY C y bytes maxL ret n) (hl : Cond.methodLink own index y ∈ zU) (hi : Cond.instanceMethod y ∈ zU) (hse : Cond.selects C y y ∈ zU)
    (hMet : zMet l y bytes maxL ret rm D ar A Z S (.ref (Z.1 k i) :: As) rvI (zF r0 Z S2)) (hn : As.length = n) (hst : st0 = As.reverse ++ .ref a :: rest) (h8 : (rest.map fun v => v.category).sum ≤ 8) (hR : rm.frames + 1 ≤ R.frames ∧ 8 + (maxL + 11) + rm.locals ≤ R.locals) (hf : cells + rm.cells ≤ R.cells ∧ slots + rm.slots ≤ R.slots) (hdg : decode cc pc = .ok (.invokevirtual index, 3))
    (kk : ∀ (H1 : Heap) (locs1 : List Loc), zW D ar A Z S2 H1 → va_S A H0 H1 locs1 → W p l e R s m args below meth c H1 locs1 (cells + rm.cells) (slots + rm.slots) Q (F0 m (pc + 3) ls (.int r0 :: rest))) : W p l e R s m args below meth c H locs cells slots Q (F0 m pc ls st0) := by
  refine z_callV hM hml hW hS hlo hC hd hy hl hi hse hMet hn (by rw [hst, ha]) h8 hR hf hdg (fun r Z' S' H1 locs1 hp hW1 hS1 => ?_)
  obtain ⟨e1, e2, e3⟩ := hp
  subst e1 e2 e3
  exact kk H1 locs1 hW1 hS1
theorem z_Vl {r0 : Int64} (hM : zM p c m args s cc own D ar) (hml : c.maxLocals = ls.size) (hW : zW D ar A Z S H) (hS : va_S A H0 H locs) (hlo : ∀ q, H0.size ≤ q → A q) (hC : zCl k C T N) (hd : Z.2.1 k i) (ha : Z.1 k i = a) (hy : zY C y bytes maxL ret n) (hl : Cond.methodLink own index y ∈ zU) (hi : Cond.instanceMethod y ∈ zU) (hse : Cond.selects C y y ∈ zU)
    (hMet : zMet l y bytes maxL ret rm D ar A Z S (.ref (Z.1 k i) :: As) rvL (zF r0 Z S2)) (hn : As.length = n) (hst : st0 = As.reverse ++ .ref a :: rest) (h8 : (rest.map fun v => v.category).sum ≤ 8) (hR : rm.frames + 1 ≤ R.frames ∧ 8 + (maxL + 11) + rm.locals ≤ R.locals) (hf : cells + rm.cells ≤ R.cells ∧ slots + rm.slots ≤ R.slots) (hdg : decode cc pc = .ok (.invokevirtual index, 3))
    (kk : ∀ (H1 : Heap) (locs1 : List Loc), zW D ar A Z S2 H1 → va_S A H0 H1 locs1 → W p l e R s m args below meth c H1 locs1 (cells + rm.cells) (slots + rm.slots) Q (F0 m (pc + 3) ls (.long r0 :: rest))) : W p l e R s m args below meth c H locs cells slots Q (F0 m pc ls st0) := by
  refine z_callV hM hml hW hS hlo hC hd hy hl hi hse hMet hn (by rw [hst, ha]) h8 hR hf hdg (fun r Z' S' H1 locs1 hp hW1 hS1 => ?_)
  obtain ⟨e1, e2, e3⟩ := hp
  subst e1 e2 e3
  exact kk H1 locs1 hW1 hS1
theorem z_Vv {r0 : Unit} (hM : zM p c m args s cc own D ar) (hml : c.maxLocals = ls.size) (hW : zW D ar A Z S H) (hS : va_S A H0 H locs) (hlo : ∀ q, H0.size ≤ q → A q) (hC : zCl k C T N) (hd : Z.2.1 k i) (ha : Z.1 k i = a) (hy : zY C y bytes maxL ret n) (hl : Cond.methodLink own index y ∈ zU) (hi : Cond.instanceMethod y ∈ zU) (hse : Cond.selects C y y ∈ zU)
    (hMet : zMet l y bytes maxL ret rm D ar A Z S (.ref (Z.1 k i) :: As) rvV (zF r0 Z S2)) (hn : As.length = n) (hst : st0 = As.reverse ++ .ref a :: rest) (h8 : (rest.map fun v => v.category).sum ≤ 8) (hR : rm.frames + 1 ≤ R.frames ∧ 8 + (maxL + 11) + rm.locals ≤ R.locals) (hf : cells + rm.cells ≤ R.cells ∧ slots + rm.slots ≤ R.slots) (hdg : decode cc pc = .ok (.invokevirtual index, 3))
    (kk : ∀ (H1 : Heap) (locs1 : List Loc), zW D ar A Z S2 H1 → va_S A H0 H1 locs1 → W p l e R s m args below meth c H1 locs1 (cells + rm.cells) (slots + rm.slots) Q (F0 m (pc + 3) ls (rest))) : W p l e R s m args below meth c H locs cells slots Q (F0 m pc ls st0) := by
  refine z_callV hM hml hW hS hlo hC hd hy hl hi hse hMet hn (by rw [hst, ha]) h8 hR hf hdg (fun r Z' S' H1 locs1 hp hW1 hS1 => ?_)
  obtain ⟨e1, e2, e3⟩ := hp
  subst e1 e2 e3
  exact kk H1 locs1 hW1 hS1
theorem z_Vr {t : Nat} {r0 : Option Nat} (hM : zM p c m args s cc own D ar) (hml : c.maxLocals = ls.size) (hW : zW D ar A Z S H) (hS : va_S A H0 H locs) (hlo : ∀ q, H0.size ≤ q → A q) (hC : zCl k C T N) (hd : Z.2.1 k i) (ha : Z.1 k i = a) (hy : zY C y bytes maxL ret n) (hl : Cond.methodLink own index y ∈ zU) (hi : Cond.instanceMethod y ∈ zU) (hse : Cond.selects C y y ∈ zU)
    (hMet : zMet l y bytes maxL ret rm D ar A Z S (.ref (Z.1 k i) :: As) (rvR t) (zF r0 Z S2)) (hn : As.length = n) (hst : st0 = As.reverse ++ .ref a :: rest) (h8 : (rest.map fun v => v.category).sum ≤ 8) (hR : rm.frames + 1 ≤ R.frames ∧ 8 + (maxL + 11) + rm.locals ≤ R.locals) (hf : cells + rm.cells ≤ R.cells ∧ slots + rm.slots ≤ R.slots) (hdg : decode cc pc = .ok (.invokevirtual index, 3))
    (kk : ∀ (H1 : Heap) (locs1 : List Loc), zW D ar A Z S2 H1 → va_S A H0 H1 locs1 → W p l e R s m args below meth c H1 locs1 (cells + rm.cells) (slots + rm.slots) Q (F0 m (pc + 3) ls (zrv Z.1 t r0 :: rest))) : W p l e R s m args below meth c H locs cells slots Q (F0 m pc ls st0) := by
  refine z_callV hM hml hW hS hlo hC hd hy hl hi hse hMet hn (by rw [hst, ha]) h8 hR hf hdg (fun r Z' S' H1 locs1 hp hW1 hS1 => ?_)
  obtain ⟨e1, e2, e3⟩ := hp
  subst e1 e2 e3
  exact kk H1 locs1 hW1 hS1
theorem z_Si {r0 : Int32} (hM : zM p c m args s cc own D ar) (hml : c.maxLocals = ls.size) (hW : zW D ar A Z S H) (hS : va_S A H0 H locs) (hlo : ∀ q, H0.size ≤ q → A q) (hy : zY C y bytes maxL ret n) (hl : Cond.methodLink own index y ∈ zU) (hi : Cond.static y ∈ zU)
    (hMet : zMet l y bytes maxL ret rm D ar A Z S As rvI (zF r0 Z S2)) (hn : As.length = n) (hst : st0 = As.reverse ++ rest) (h8 : (rest.map fun v => v.category).sum ≤ 8) (hR : rm.frames + 1 ≤ R.frames ∧ 8 + (maxL + 11) + rm.locals ≤ R.locals) (hf : cells + rm.cells ≤ R.cells ∧ slots + rm.slots ≤ R.slots) (hdg : decode cc pc = .ok (.invokestatic index, 3))
    (kk : ∀ (H1 : Heap) (locs1 : List Loc), zW D ar A Z S2 H1 → va_S A H0 H1 locs1 → W p l e R s m args below meth c H1 locs1 (cells + rm.cells) (slots + rm.slots) Q (F0 m (pc + 3) ls (.int r0 :: rest))) : W p l e R s m args below meth c H locs cells slots Q (F0 m pc ls st0) := by
  refine z_callS hM hml hW hS hlo hy hl hi hMet hn hst h8 hR hf hdg (fun r Z' S' H1 locs1 hp hW1 hS1 => ?_)
  obtain ⟨e1, e2, e3⟩ := hp
  subst e1 e2 e3
  exact kk H1 locs1 hW1 hS1
theorem z_Sl {r0 : Int64} (hM : zM p c m args s cc own D ar) (hml : c.maxLocals = ls.size) (hW : zW D ar A Z S H) (hS : va_S A H0 H locs) (hlo : ∀ q, H0.size ≤ q → A q) (hy : zY C y bytes maxL ret n) (hl : Cond.methodLink own index y ∈ zU) (hi : Cond.static y ∈ zU)
    (hMet : zMet l y bytes maxL ret rm D ar A Z S As rvL (zF r0 Z S2)) (hn : As.length = n) (hst : st0 = As.reverse ++ rest) (h8 : (rest.map fun v => v.category).sum ≤ 8) (hR : rm.frames + 1 ≤ R.frames ∧ 8 + (maxL + 11) + rm.locals ≤ R.locals) (hf : cells + rm.cells ≤ R.cells ∧ slots + rm.slots ≤ R.slots) (hdg : decode cc pc = .ok (.invokestatic index, 3))
    (kk : ∀ (H1 : Heap) (locs1 : List Loc), zW D ar A Z S2 H1 → va_S A H0 H1 locs1 → W p l e R s m args below meth c H1 locs1 (cells + rm.cells) (slots + rm.slots) Q (F0 m (pc + 3) ls (.long r0 :: rest))) : W p l e R s m args below meth c H locs cells slots Q (F0 m pc ls st0) := by
  refine z_callS hM hml hW hS hlo hy hl hi hMet hn hst h8 hR hf hdg (fun r Z' S' H1 locs1 hp hW1 hS1 => ?_)
  obtain ⟨e1, e2, e3⟩ := hp
  subst e1 e2 e3
  exact kk H1 locs1 hW1 hS1
theorem z_Sv {r0 : Unit} (hM : zM p c m args s cc own D ar) (hml : c.maxLocals = ls.size) (hW : zW D ar A Z S H) (hS : va_S A H0 H locs) (hlo : ∀ q, H0.size ≤ q → A q) (hy : zY C y bytes maxL ret n) (hl : Cond.methodLink own index y ∈ zU) (hi : Cond.static y ∈ zU)
    (hMet : zMet l y bytes maxL ret rm D ar A Z S As rvV (zF r0 Z S2)) (hn : As.length = n) (hst : st0 = As.reverse ++ rest) (h8 : (rest.map fun v => v.category).sum ≤ 8) (hR : rm.frames + 1 ≤ R.frames ∧ 8 + (maxL + 11) + rm.locals ≤ R.locals) (hf : cells + rm.cells ≤ R.cells ∧ slots + rm.slots ≤ R.slots) (hdg : decode cc pc = .ok (.invokestatic index, 3))
    (kk : ∀ (H1 : Heap) (locs1 : List Loc), zW D ar A Z S2 H1 → va_S A H0 H1 locs1 → W p l e R s m args below meth c H1 locs1 (cells + rm.cells) (slots + rm.slots) Q (F0 m (pc + 3) ls (rest))) : W p l e R s m args below meth c H locs cells slots Q (F0 m pc ls st0) := by
  refine z_callS hM hml hW hS hlo hy hl hi hMet hn hst h8 hR hf hdg (fun r Z' S' H1 locs1 hp hW1 hS1 => ?_)
  obtain ⟨e1, e2, e3⟩ := hp
  subst e1 e2 e3
  exact kk H1 locs1 hW1 hS1
theorem z_Sr {t : Nat} {r0 : Option Nat} (hM : zM p c m args s cc own D ar) (hml : c.maxLocals = ls.size) (hW : zW D ar A Z S H) (hS : va_S A H0 H locs) (hlo : ∀ q, H0.size ≤ q → A q) (hy : zY C y bytes maxL ret n) (hl : Cond.methodLink own index y ∈ zU) (hi : Cond.static y ∈ zU)
    (hMet : zMet l y bytes maxL ret rm D ar A Z S As (rvR t) (zF r0 Z S2)) (hn : As.length = n) (hst : st0 = As.reverse ++ rest) (h8 : (rest.map fun v => v.category).sum ≤ 8) (hR : rm.frames + 1 ≤ R.frames ∧ 8 + (maxL + 11) + rm.locals ≤ R.locals) (hf : cells + rm.cells ≤ R.cells ∧ slots + rm.slots ≤ R.slots) (hdg : decode cc pc = .ok (.invokestatic index, 3))
    (kk : ∀ (H1 : Heap) (locs1 : List Loc), zW D ar A Z S2 H1 → va_S A H0 H1 locs1 → W p l e R s m args below meth c H1 locs1 (cells + rm.cells) (slots + rm.slots) Q (F0 m (pc + 3) ls (zrv Z.1 t r0 :: rest))) : W p l e R s m args below meth c H locs cells slots Q (F0 m pc ls st0) := by
  refine z_callS hM hml hW hS hlo hy hl hi hMet hn hst h8 hR hf hdg (fun r Z' S' H1 locs1 hp hW1 hS1 => ?_)
  obtain ⟨e1, e2, e3⟩ := hp
  subst e1 e2 e3
  exact kk H1 locs1 hW1 hS1
end ZF
theorem zyX0_init : zY RX0 yX0_init prog_2_method_1_code 4 none 3 := ⟨lc_yX0_init, lz_X0, ⟨rfl, by decide +kernel, by decide +kernel, by decide +kernel⟩, by decide +kernel⟩
theorem zyX0_showTag : zY RX0 yX0_showTag prog_2_method_2_code 2 none 1 := ⟨lc_yX0_showTag, lz_X0, ⟨rfl, by decide +kernel, by decide +kernel, by decide +kernel⟩, by decide +kernel⟩
theorem zyX1_init : zY RX1 yX1_init prog_3_method_1_code 2 none 0 := ⟨lc_yX1_init, lz_X1, ⟨rfl, by decide +kernel, by decide +kernel, by decide +kernel⟩, by decide +kernel⟩
theorem zyX1_at : zY RX1 yX1_at prog_3_method_2_code 2 (some (.object "VotedFile$Message")) 1 := ⟨lc_yX1_at, lz_X1, ⟨rfl, by decide +kernel, by decide +kernel, by decide +kernel⟩, by decide +kernel⟩
theorem zyX1_next : zY RX1 yX1_next prog_3_method_3_code 2 (some (.object "VotedFile$Message")) 0 := ⟨lc_yX1_next, lz_X1, ⟨rfl, by decide +kernel, by decide +kernel, by decide +kernel⟩, by decide +kernel⟩
theorem zyX1_take : zY RX1 yX1_take prog_3_method_4_code 4 (some .boolean) 1 := ⟨lc_yX1_take, lz_X1, ⟨rfl, by decide +kernel, by decide +kernel, by decide +kernel⟩, by decide +kernel⟩
theorem zyX2_init : zY RX2 yX2_init prog_4_method_1_code 2 none 1 := ⟨lc_yX2_init, lz_X2, ⟨rfl, by decide +kernel, by decide +kernel, by decide +kernel⟩, by decide +kernel⟩
theorem zyX2_hasAnswerOf : zY RX2 yX2_hasAnswerOf prog_4_method_2_code 2 (some .boolean) 1 := ⟨lc_yX2_hasAnswerOf, lz_X2, ⟨rfl, by decide +kernel, by decide +kernel, by decide +kernel⟩, by decide +kernel⟩
theorem zyX2_counts : zY RX2 yX2_counts prog_4_method_3_code 3 (some .boolean) 2 := ⟨lc_yX2_counts, lz_X2, ⟨rfl, by decide +kernel, by decide +kernel, by decide +kernel⟩, by decide +kernel⟩
theorem zyX2_learn : zY RX2 yX2_learn prog_4_method_4_code 3 none 1 := ⟨lc_yX2_learn, lz_X2, ⟨rfl, by decide +kernel, by decide +kernel, by decide +kernel⟩, by decide +kernel⟩
theorem zyX2_rest : zY RX2 yX2_rest prog_4_method_5_code 1 none 0 := ⟨lc_yX2_rest, lz_X2, ⟨rfl, by decide +kernel, by decide +kernel, by decide +kernel⟩, by decide +kernel⟩
theorem zyX3_init : zY RX3 yX3_init prog_5_method_1_code 1 none 0 := ⟨lc_yX3_init, lz_X3, ⟨rfl, by decide +kernel, by decide +kernel, by decide +kernel⟩, by decide +kernel⟩
theorem zyX3_obey : zY RX3 yX3_obey prog_5_method_2_code 2 none 1 := ⟨lc_yX3_obey, lz_X3, ⟨rfl, by decide +kernel, by decide +kernel, by decide +kernel⟩, by decide +kernel⟩
theorem zyX4_init : zY RX4 yX4_init prog_6_method_1_code 1 none 0 := ⟨lc_yX4_init, lz_X4, ⟨rfl, by decide +kernel, by decide +kernel, by decide +kernel⟩, by decide +kernel⟩
theorem zyX4_repeat : zY RX4 yX4_repeat prog_6_method_2_code 2 none 1 := ⟨lc_yX4_repeat, lz_X4, ⟨rfl, by decide +kernel, by decide +kernel, by decide +kernel⟩, by decide +kernel⟩
theorem zyX5_init : zY RX5 yX5_init prog_7_method_1_code 4 none 3 := ⟨lc_yX5_init, lz_X5, ⟨rfl, by decide +kernel, by decide +kernel, by decide +kernel⟩, by decide +kernel⟩
theorem zyX5_canBe : zY RX5 yX5_canBe prog_7_method_2_code 4 (some .boolean) 3 := ⟨lc_yX5_canBe, lz_X5, ⟨rfl, by decide +kernel, by decide +kernel, by decide +kernel⟩, by decide +kernel⟩
theorem zyX5_sum : zY RX5 yX5_sum prog_7_method_3_code 4 (some .int) 2 := ⟨lc_yX5_sum, lz_X5, ⟨rfl, by decide +kernel, by decide +kernel, by decide +kernel⟩, by decide +kernel⟩
theorem zyX6_init : zY RX6 yX6_init prog_8_method_1_code 1 none 0 := ⟨lc_yX6_init, lz_X6, ⟨rfl, by decide +kernel, by decide +kernel, by decide +kernel⟩, by decide +kernel⟩
theorem zyX6_isAbove : zY RX6 yX6_isAbove prog_8_method_2_code 2 (some .boolean) 1 := ⟨lc_yX6_isAbove, lz_X6, ⟨rfl, by decide +kernel, by decide +kernel, by decide +kernel⟩, by decide +kernel⟩
theorem zyX6_put : zY RX6 yX6_put prog_8_method_3_code 5 none 3 := ⟨lc_yX6_put, lz_X6, ⟨rfl, by decide +kernel, by decide +kernel, by decide +kernel⟩, by decide +kernel⟩
theorem zyX6_set : zY RX6 yX6_set prog_8_method_4_code 2 none 1 := ⟨lc_yX6_set, lz_X6, ⟨rfl, by decide +kernel, by decide +kernel, by decide +kernel⟩, by decide +kernel⟩
theorem zyX7_init : zY RX7 yX7_init prog_1_method_1_code 4 none 1 := ⟨lc_yX7_init, lz_X7, ⟨rfl, by decide +kernel, by decide +kernel, by decide +kernel⟩, by decide +kernel⟩
theorem zyX7_votes : zY RX7 yX7_votes prog_1_method_2_code 3 (some .boolean) 2 := ⟨lc_yX7_votes, lz_X7, ⟨rfl, by decide +kernel, by decide +kernel, by decide +kernel⟩, by decide +kernel⟩
theorem zyX7_change : zY RX7 yX7_change prog_1_method_3_code 5 (some .int) 2 := ⟨lc_yX7_change, lz_X7, ⟨rfl, by decide +kernel, by decide +kernel, by decide +kernel⟩, by decide +kernel⟩
theorem zyX7_resume : zY RX7 yX7_resume prog_1_method_4_code 2 (some .int) 0 := ⟨lc_yX7_resume, lz_X7, ⟨rfl, by decide +kernel, by decide +kernel, by decide +kernel⟩, by decide +kernel⟩
theorem zyX7_read : zY RX7 yX7_read prog_1_method_5_code 3 (some .int) 1 := ⟨lc_yX7_read, lz_X7, ⟨rfl, by decide +kernel, by decide +kernel, by decide +kernel⟩, by decide +kernel⟩
theorem zyX7_write : zY RX7 yX7_write prog_1_method_6_code 6 (some .int) 2 := ⟨lc_yX7_write, lz_X7, ⟨rfl, by decide +kernel, by decide +kernel, by decide +kernel⟩, by decide +kernel⟩
theorem zyX7_again : zY RX7 yX7_again prog_1_method_7_code 3 (some .int) 1 := ⟨lc_yX7_again, lz_X7, ⟨rfl, by decide +kernel, by decide +kernel, by decide +kernel⟩, by decide +kernel⟩
theorem zyX7_halt : zY RX7 yX7_halt prog_1_method_8_code 4 (some .int) 1 := ⟨lc_yX7_halt, lz_X7, ⟨rfl, by decide +kernel, by decide +kernel, by decide +kernel⟩, by decide +kernel⟩
theorem zyX7_deliver : zY RX7 yX7_deliver prog_1_method_9_code 3 (some .boolean) 1 := ⟨lc_yX7_deliver, lz_X7, ⟨rfl, by decide +kernel, by decide +kernel, by decide +kernel⟩, by decide +kernel⟩
theorem zyX7_settle : zY RX7 yX7_settle prog_1_method_10_code 5 (some .int) 1 := ⟨lc_yX7_settle, lz_X7, ⟨rfl, by decide +kernel, by decide +kernel, by decide +kernel⟩, by decide +kernel⟩
theorem zyX7_lose : zY RX7 yX7_lose prog_1_method_11_code 2 (some .boolean) 1 := ⟨lc_yX7_lose, lz_X7, ⟨rfl, by decide +kernel, by decide +kernel, by decide +kernel⟩, by decide +kernel⟩
theorem zyX7_twice : zY RX7 yX7_twice prog_1_method_12_code 4 (some .boolean) 1 := ⟨lc_yX7_twice, lz_X7, ⟨rfl, by decide +kernel, by decide +kernel, by decide +kernel⟩, by decide +kernel⟩
theorem zyX7_silent : zY RX7 yX7_silent prog_1_method_13_code 4 (some .boolean) 2 := ⟨lc_yX7_silent, lz_X7, ⟨rfl, by decide +kernel, by decide +kernel, by decide +kernel⟩, by decide +kernel⟩
theorem zyX7_side : zY RX7 yX7_side prog_1_method_14_code 5 (some .boolean) 2 := ⟨lc_yX7_side, lz_X7, ⟨rfl, by decide +kernel, by decide +kernel, by decide +kernel⟩, by decide +kernel⟩
theorem zyX7_copy : zY RX7 yX7_copy prog_1_method_15_code 4 (some .int) 2 := ⟨lc_yX7_copy, lz_X7, ⟨rfl, by decide +kernel, by decide +kernel, by decide +kernel⟩, by decide +kernel⟩
theorem zyX7_kept : zY RX7 yX7_kept prog_1_method_16_code 3 (some .long) 1 := ⟨lc_yX7_kept, lz_X7, ⟨rfl, by decide +kernel, by decide +kernel, by decide +kernel⟩, by decide +kernel⟩
theorem zyX7_client : zY RX7 yX7_client prog_1_method_17_code 5 (some .int) 2 := ⟨lc_yX7_client, lz_X7, ⟨rfl, by decide +kernel, by decide +kernel, by decide +kernel⟩, by decide +kernel⟩
theorem zyX7_air : zY RX7 yX7_air prog_1_method_18_code 4 (some .int) 2 := ⟨lc_yX7_air, lz_X7, ⟨rfl, by decide +kernel, by decide +kernel, by decide +kernel⟩, by decide +kernel⟩
theorem zyX7_act : zY RX7 yX7_act prog_1_method_19_code 4 (some .int) 2 := ⟨lc_yX7_act, lz_X7, ⟨rfl, by decide +kernel, by decide +kernel, by decide +kernel⟩, by decide +kernel⟩
theorem zyX7_value : zY RX7 yX7_value prog_1_method_20_code 3 (some .long) 1 := ⟨lc_yX7_value, lz_X7, ⟨rfl, by decide +kernel, by decide +kernel, by decide +kernel⟩, by decide +kernel⟩
theorem zyX7_table : zY RX7 yX7_table prog_1_method_21_code 4 (some .int) 2 := ⟨lc_yX7_table, lz_X7, ⟨rfl, by decide +kernel, by decide +kernel, by decide +kernel⟩, by decide +kernel⟩
theorem zyX7_about : zY RX7 yX7_about prog_1_method_22_code 2 (some .int) 1 := ⟨lc_yX7_about, lz_X7, ⟨rfl, by decide +kernel, by decide +kernel, by decide +kernel⟩, by decide +kernel⟩
theorem zyX7_copyAt : zY RX7 yX7_copyAt prog_1_method_23_code 2 (some (.object "VotedFile$Copy")) 1 := ⟨lc_yX7_copyAt, lz_X7, ⟨rfl, by decide +kernel, by decide +kernel, by decide +kernel⟩, by decide +kernel⟩
theorem zyX7_clientAt : zY RX7 yX7_clientAt prog_1_method_24_code 2 (some (.object "VotedFile$Client")) 1 := ⟨lc_yX7_clientAt, lz_X7, ⟨rfl, by decide +kernel, by decide +kernel, by decide +kernel⟩, by decide +kernel⟩
theorem zyX7_tableAt : zY RX7 yX7_tableAt prog_1_method_25_code 2 (some (.object "VotedFile$Table")) 1 := ⟨lc_yX7_tableAt, lz_X7, ⟨rfl, by decide +kernel, by decide +kernel, by decide +kernel⟩, by decide +kernel⟩
theorem zyX7_actAt : zY RX7 yX7_actAt prog_1_method_26_code 2 (some (.object "VotedFile$Act")) 1 := ⟨lc_yX7_actAt, lz_X7, ⟨rfl, by decide +kernel, by decide +kernel, by decide +kernel⟩, by decide +kernel⟩
theorem zyX7_canBegin : zY RX7 yX7_canBegin prog_1_method_27_code 2 (some .boolean) 1 := ⟨lc_yX7_canBegin, lz_X7, ⟨rfl, by decide +kernel, by decide +kernel, by decide +kernel⟩, by decide +kernel⟩
theorem zyX7_beginChange : zY RX7 yX7_beginChange prog_1_method_28_code 4 (some .int) 2 := ⟨lc_yX7_beginChange, lz_X7, ⟨rfl, by decide +kernel, by decide +kernel, by decide +kernel⟩, by decide +kernel⟩
theorem zyX7_beginAct : zY RX7 yX7_beginAct prog_1_method_29_code 4 (some .int) 3 := ⟨lc_yX7_beginAct, lz_X7, ⟨rfl, by decide +kernel, by decide +kernel, by decide +kernel⟩, by decide +kernel⟩
theorem zyX7_beginPhase : zY RX7 yX7_beginPhase prog_1_method_30_code 4 none 3 := ⟨lc_yX7_beginPhase, lz_X7, ⟨rfl, by decide +kernel, by decide +kernel, by decide +kernel⟩, by decide +kernel⟩
theorem zyX7_sendRequests : zY RX7 yX7_sendRequests prog_1_method_31_code 5 (some .int) 2 := ⟨lc_yX7_sendRequests, lz_X7, ⟨rfl, by decide +kernel, by decide +kernel, by decide +kernel⟩, by decide +kernel⟩
theorem zyX7_sendRequest : zY RX7 yX7_sendRequest prog_1_method_32_code 6 none 3 := ⟨lc_yX7_sendRequest, lz_X7, ⟨rfl, by decide +kernel, by decide +kernel, by decide +kernel⟩, by decide +kernel⟩
theorem zyX7_canPass : zY RX7 yX7_canPass prog_1_method_33_code 4 (some .boolean) 1 := ⟨lc_yX7_canPass, lz_X7, ⟨rfl, by decide +kernel, by decide +kernel, by decide +kernel⟩, by decide +kernel⟩
theorem zyX7_serve : zY RX7 yX7_serve prog_1_method_34_code 4 none 1 := ⟨lc_yX7_serve, lz_X7, ⟨rfl, by decide +kernel, by decide +kernel, by decide +kernel⟩, by decide +kernel⟩
theorem zyX7_hear : zY RX7 yX7_hear prog_1_method_35_code 6 none 1 := ⟨lc_yX7_hear, lz_X7, ⟨rfl, by decide +kernel, by decide +kernel, by decide +kernel⟩, by decide +kernel⟩
theorem zyX7_hasQuorum : zY RX7 yX7_hasQuorum prog_1_method_36_code 8 (some .boolean) 2 := ⟨lc_yX7_hasQuorum, lz_X7, ⟨rfl, by decide +kernel, by decide +kernel, by decide +kernel⟩, by decide +kernel⟩
theorem zyX7_endPhase : zY RX7 yX7_endPhase prog_1_method_37_code 3 (some .int) 2 := ⟨lc_yX7_endPhase, lz_X7, ⟨rfl, by decide +kernel, by decide +kernel, by decide +kernel⟩, by decide +kernel⟩
theorem zyX8_init : zY RX8 yX8_init prog_10_method_1_code 3 none 1 := ⟨lc_yX8_init, lz_X8, ⟨rfl, by decide +kernel, by decide +kernel, by decide +kernel⟩, by decide +kernel⟩
theorem zyX8_isCopy : zY RX8 yX8_isCopy prog_10_method_2_code 2 (some .boolean) 1 := ⟨lc_yX8_isCopy, lz_X8, ⟨rfl, by decide +kernel, by decide +kernel, by decide +kernel⟩, by decide +kernel⟩
theorem zyX8_isClient : zY RX8 yX8_isClient prog_10_method_3_code 1 (some .boolean) 1 := ⟨lc_yX8_isClient, lz_X8, ⟨rfl, by decide +kernel, by decide +kernel, by decide +kernel⟩, by decide +kernel⟩
theorem zyX8_votes : zY RX8 yX8_votes prog_10_method_4_code 3 (some .boolean) 2 := ⟨lc_yX8_votes, lz_X8, ⟨rfl, by decide +kernel, by decide +kernel, by decide +kernel⟩, by decide +kernel⟩
theorem zyX8_put : zY RX8 yX8_put prog_10_method_5_code 14 none 12 := ⟨lc_yX8_put, lz_X8, ⟨rfl, by decide +kernel, by decide +kernel, by decide +kernel⟩, by decide +kernel⟩
theorem zyX8_take : zY RX8 yX8_take prog_10_method_6_code 3 none 1 := ⟨lc_yX8_take, lz_X8, ⟨rfl, by decide +kernel, by decide +kernel, by decide +kernel⟩, by decide +kernel⟩
theorem zyX8_ask : zY RX8 yX8_ask prog_10_method_7_code 10 none 2 := ⟨lc_yX8_ask, lz_X8, ⟨rfl, by decide +kernel, by decide +kernel, by decide +kernel⟩, by decide +kernel⟩
theorem zyX8_beginPhase : zY RX8 yX8_beginPhase prog_10_method_8_code 4 none 2 := ⟨lc_yX8_beginPhase, lz_X8, ⟨rfl, by decide +kernel, by decide +kernel, by decide +kernel⟩, by decide +kernel⟩
theorem zyX8_beginAct : zY RX8 yX8_beginAct prog_10_method_9_code 6 (some .int) 4 := ⟨lc_yX8_beginAct, lz_X8, ⟨rfl, by decide +kernel, by decide +kernel, by decide +kernel⟩, by decide +kernel⟩
theorem zyX8_change : zY RX8 yX8_change prog_10_method_10_code 6 (some .int) 2 := ⟨lc_yX8_change, lz_X8, ⟨rfl, by decide +kernel, by decide +kernel, by decide +kernel⟩, by decide +kernel⟩
theorem zyX8_resume : zY RX8 yX8_resume prog_10_method_11_code 1 (some .int) 0 := ⟨lc_yX8_resume, lz_X8, ⟨rfl, by decide +kernel, by decide +kernel, by decide +kernel⟩, by decide +kernel⟩
theorem zyX8_read : zY RX8 yX8_read prog_10_method_12_code 2 (some .int) 1 := ⟨lc_yX8_read, lz_X8, ⟨rfl, by decide +kernel, by decide +kernel, by decide +kernel⟩, by decide +kernel⟩
theorem zyX8_write : zY RX8 yX8_write prog_10_method_13_code 4 (some .int) 2 := ⟨lc_yX8_write, lz_X8, ⟨rfl, by decide +kernel, by decide +kernel, by decide +kernel⟩, by decide +kernel⟩
theorem zyX8_again : zY RX8 yX8_again prog_10_method_14_code 4 (some .int) 1 := ⟨lc_yX8_again, lz_X8, ⟨rfl, by decide +kernel, by decide +kernel, by decide +kernel⟩, by decide +kernel⟩
theorem zyX8_isGreater : zY RX8 yX8_isGreater prog_10_method_15_code 4 (some .boolean) 4 := ⟨lc_yX8_isGreater, lz_X8, ⟨rfl, by decide +kernel, by decide +kernel, by decide +kernel⟩, by decide +kernel⟩
theorem zyX8_isQuorum : zY RX8 yX8_isQuorum prog_10_method_16_code 6 (some .boolean) 3 := ⟨lc_yX8_isQuorum, lz_X8, ⟨rfl, by decide +kernel, by decide +kernel, by decide +kernel⟩, by decide +kernel⟩
theorem zyX8_areQuorums : zY RX8 yX8_areQuorums prog_10_method_17_code 7 (some .boolean) 4 := ⟨lc_yX8_areQuorums, lz_X8, ⟨rfl, by decide +kernel, by decide +kernel, by decide +kernel⟩, by decide +kernel⟩
theorem zyX8_isOver : zY RX8 yX8_isOver prog_10_method_18_code 3 (some .boolean) 1 := ⟨lc_yX8_isOver, lz_X8, ⟨rfl, by decide +kernel, by decide +kernel, by decide +kernel⟩, by decide +kernel⟩
theorem zyX8_finish : zY RX8 yX8_finish prog_10_method_19_code 3 none 1 := ⟨lc_yX8_finish, lz_X8, ⟨rfl, by decide +kernel, by decide +kernel, by decide +kernel⟩, by decide +kernel⟩
theorem zyX8_end : zY RX8 yX8_end prog_10_method_20_code 2 none 1 := ⟨lc_yX8_end, lz_X8, ⟨rfl, by decide +kernel, by decide +kernel, by decide +kernel⟩, by decide +kernel⟩
theorem zyX8_goOn : zY RX8 yX8_goOn prog_10_method_21_code 3 none 1 := ⟨lc_yX8_goOn, lz_X8, ⟨rfl, by decide +kernel, by decide +kernel, by decide +kernel⟩, by decide +kernel⟩
theorem zyX8_answer : zY RX8 yX8_answer prog_10_method_22_code 12 none 1 := ⟨lc_yX8_answer, lz_X8, ⟨rfl, by decide +kernel, by decide +kernel, by decide +kernel⟩, by decide +kernel⟩
theorem zyX8_request : zY RX8 yX8_request prog_10_method_23_code 8 none 1 := ⟨lc_yX8_request, lz_X8, ⟨rfl, by decide +kernel, by decide +kernel, by decide +kernel⟩, by decide +kernel⟩
theorem zyX8_canBe : zY RX8 yX8_canBe prog_10_method_24_code 2 (some .boolean) 1 := ⟨lc_yX8_canBe, lz_X8, ⟨rfl, by decide +kernel, by decide +kernel, by decide +kernel⟩, by decide +kernel⟩
theorem zyX8_deliver : zY RX8 yX8_deliver prog_10_method_25_code 2 (some .boolean) 1 := ⟨lc_yX8_deliver, lz_X8, ⟨rfl, by decide +kernel, by decide +kernel, by decide +kernel⟩, by decide +kernel⟩
theorem zyX8_settle : zY RX8 yX8_settle prog_10_method_26_code 5 (some .int) 1 := ⟨lc_yX8_settle, lz_X8, ⟨rfl, by decide +kernel, by decide +kernel, by decide +kernel⟩, by decide +kernel⟩
theorem zyX8_lose : zY RX8 yX8_lose prog_10_method_27_code 2 (some .boolean) 1 := ⟨lc_yX8_lose, lz_X8, ⟨rfl, by decide +kernel, by decide +kernel, by decide +kernel⟩, by decide +kernel⟩
theorem zyX8_twice : zY RX8 yX8_twice prog_10_method_28_code 2 (some .boolean) 1 := ⟨lc_yX8_twice, lz_X8, ⟨rfl, by decide +kernel, by decide +kernel, by decide +kernel⟩, by decide +kernel⟩
theorem zyX8_silent : zY RX8 yX8_silent prog_10_method_29_code 3 (some .boolean) 2 := ⟨lc_yX8_silent, lz_X8, ⟨rfl, by decide +kernel, by decide +kernel, by decide +kernel⟩, by decide +kernel⟩
theorem zyX8_side : zY RX8 yX8_side prog_10_method_30_code 3 (some .boolean) 2 := ⟨lc_yX8_side, lz_X8, ⟨rfl, by decide +kernel, by decide +kernel, by decide +kernel⟩, by decide +kernel⟩
theorem zyX8_halt : zY RX8 yX8_halt prog_10_method_31_code 3 (some .int) 1 := ⟨lc_yX8_halt, lz_X8, ⟨rfl, by decide +kernel, by decide +kernel, by decide +kernel⟩, by decide +kernel⟩
theorem zyX8_copy : zY RX8 yX8_copy prog_10_method_32_code 3 (some .int) 2 := ⟨lc_yX8_copy, lz_X8, ⟨rfl, by decide +kernel, by decide +kernel, by decide +kernel⟩, by decide +kernel⟩
theorem zyX8_kept : zY RX8 yX8_kept prog_10_method_33_code 2 (some .long) 1 := ⟨lc_yX8_kept, lz_X8, ⟨rfl, by decide +kernel, by decide +kernel, by decide +kernel⟩, by decide +kernel⟩
theorem zyX8_client : zY RX8 yX8_client prog_10_method_34_code 3 (some .int) 2 := ⟨lc_yX8_client, lz_X8, ⟨rfl, by decide +kernel, by decide +kernel, by decide +kernel⟩, by decide +kernel⟩
theorem zyX8_air : zY RX8 yX8_air prog_10_method_35_code 3 (some .int) 2 := ⟨lc_yX8_air, lz_X8, ⟨rfl, by decide +kernel, by decide +kernel, by decide +kernel⟩, by decide +kernel⟩
theorem zyX8_isAct : zY RX8 yX8_isAct prog_10_method_36_code 2 (some .boolean) 1 := ⟨lc_yX8_isAct, lz_X8, ⟨rfl, by decide +kernel, by decide +kernel, by decide +kernel⟩, by decide +kernel⟩
theorem zyX8_act : zY RX8 yX8_act prog_10_method_37_code 3 (some .int) 2 := ⟨lc_yX8_act, lz_X8, ⟨rfl, by decide +kernel, by decide +kernel, by decide +kernel⟩, by decide +kernel⟩
theorem zyX8_value : zY RX8 yX8_value prog_10_method_38_code 2 (some .long) 1 := ⟨lc_yX8_value, lz_X8, ⟨rfl, by decide +kernel, by decide +kernel, by decide +kernel⟩, by decide +kernel⟩
theorem zyX8_table : zY RX8 yX8_table prog_10_method_39_code 3 (some .int) 2 := ⟨lc_yX8_table, lz_X8, ⟨rfl, by decide +kernel, by decide +kernel, by decide +kernel⟩, by decide +kernel⟩
theorem zyX8_about : zY RX8 yX8_about prog_10_method_40_code 2 (some .int) 1 := ⟨lc_yX8_about, lz_X8, ⟨rfl, by decide +kernel, by decide +kernel, by decide +kernel⟩, by decide +kernel⟩
theorem zyL_cell : zY RL yL_cell method_2_code 2 (some .int) 2 := ⟨lc_yL_cell, lz_L, ⟨rfl, by decide +kernel, by decide +kernel, by decide +kernel⟩, by decide +kernel⟩
/-- choices by any proposition -/
noncomputable def pif {α : Sort _} (b : Prop) (x y : α) : α := @ite α b (Classical.propDecidable b) x y
theorem pif_pos {α : Sort _} {b : Prop} {x y : α} (h : b) : pif b x y = x := @if_pos b (Classical.propDecidable b) h α x y
theorem pif_neg {α : Sort _} {b : Prop} {x y : α} (h : ¬ b) : pif b x y = y := @if_neg b (Classical.propDecidable b) h α x y
def oel {α β : Type} (o : Option α) (x : β) (f : α → β) : β := match o with
  | none => x
  | some q => f q
theorem oel_n {α β : Type} {o : Option α} {x : β} {f : α → β} (h : o = none) : oel o x f = x := by subst h; rfl
theorem oel_s {α β : Type} {o : Option α} {q : α} {x : β} {f : α → β} (h : o = some q) : oel o x f = f q := by subst h; rfl
/-- a boolean as an int -/
noncomputable def ib (b : Prop) : Int32 := pif b 1 0
theorem ib_pos {b : Prop} (h : b) : ib b = 1 := pif_pos h
theorem ib_neg {b : Prop} (h : ¬ b) : ib b = 0 := pif_neg h
def isB (x : Int32) : Prop := x = 0 ∨ x = 1
theorem narrow_isB {x : Int32} (h : isB x) : narrow .boolean (.int x) = .int x := by rcases h with rfl | rfl <;> rfl
theorem fits_isB {x : Int32} (h : isB x) : fits .boolean (.int x) = true := by rcases h with rfl | rfl <;> rfl
theorem isB_ib (b : Prop) : isB (ib b) := (Classical.em b).elim (fun h => Or.inr (ib_pos h)) (fun h => Or.inl (ib_neg h))
theorem ib_eq0 {b : Prop} : ib b = 0 ↔ ¬ b := ⟨fun h q => absurd (h.symm.trans (ib_pos q)) (by decide), fun h => ib_neg h⟩
theorem ib_eq1 {b : Prop} : ib b = 1 ↔ b := ⟨fun h => Classical.byContradiction fun q => absurd (h.symm.trans (ib_neg q)) (by decide), fun h => ib_pos h⟩
theorem isB_pif {b : Prop} {x y : Int32} (hx : isB x) (hy : isB y) : isB (pif b x y) := (Classical.em b).elim (fun h => by rw [pif_pos h]; exact hx) (fun h => by rw [pif_neg h]; exact hy)
theorem isB_0 : isB 0 := Or.inl rfl
theorem isB_1 : isB 1 := Or.inr rfl
theorem zrv_some {ad : Nat → Nat → Nat} {t j : Nat} : zrv ad t (some j) = .ref (ad t j) := rfl
theorem zrv_none {ad : Nat → Nat → Nat} {t : Nat} : zrv ad t none = .null := rfl
theorem vin_of {k : Int32} {N L : Nat} (h0 : ¬ k < 0) (h1 : ¬ Int32.ofNat N ≤ k) (hN : N < 2 ^ 31) (hL : L = N) : vp_in k L := by
  subst hL
  rintro (q | q)
  · exact h0 q
  · apply h1
    rw [Int32.le_iff_toInt_le, Int32.toInt_ofNat_of_lt hN]
    rw [Int32.lt_iff_toInt_lt, Int32.toInt_zero] at h0
    have : (k.toNatClampNeg : Int) = k.toInt := by
      rw [Int32.toNatClampNeg]; omega
    omega
theorem vin_of2 {k : Int32} {N L : Nat} (h0 : ¬ k < 0) (h1 : k < Int32.ofNat N) (hN : N < 2 ^ 31) (hL : L = N) : vp_in k L := vin_of h0 (fun q => by rw [Int32.le_iff_toInt_le] at q; rw [Int32.lt_iff_toInt_lt] at h1; omega) hN hL
theorem vin_lt {k : Int32} {L N : Nat} (h : vp_in k L) (e : L = N) : ix k < N := by subst e; exact Nat.not_le.mp fun q => h (Or.inr q)
