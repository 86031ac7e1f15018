/-! THE CLAIM OUT OF ONE WALK OF THE LAW'S BODY. Your part is whole_start (and what it stands on); all else here is the same for every law, but numbers. -/
def R_law : String := "VotedFileLaw"
def lw_P (b : Addr) (xs : List Int32) (args : Array Value) (s : State) : Prop := args = #[.ref b] ∧ s.IntsAt b xs ∧ xs.length ≤ 2049 ∧ (Jvm.Cond.and given_1 narrow_1).before args s = true
def lw_Q (_ : Array Value) (s : State) (o : Outcome) (t : State) : Prop := o = .returned (some (.int 1)) ∧ Framed s o t [] 600000 7302250
def lw_Z (below : List Frame) (a : Array Value) (s : State) : State → Prop := fun t => ∃ o, t.status = .running ∧ Ended t below o ∧ lw_Q a s o t
/-- the law's own end, with 1 on the stack, nothing written that was there before, its room as the claim has it -/
theorem lw_ret {p : Program} {l : Launch} {e : Env} {s : State} {m : MethodId} {below : List Frame} {meth : Method} {c : Code} {b : Nat} (hx : p.tables.exec = Jvm.exec) (hb : c.code = code) (hr : meth.sig.returnType = ret) (hlocks : meth.locks = false) {pc : Nat} {H : Heap} {ls : Array Slot} (hdg : decode code pc = .ok (.ireturn, 1)) : W p l e room_1 s m #[Value.ref b] below meth c H [] 600000 7302250 (lw_Z below #[Value.ref b] s) (F0 m pc ls [.int 1]) := by
  intro T hT X
  obtain ⟨fs, hret, hrun, hended, hW, hframe⟩ := X.leave (v := some (.int 1)) (hlocks := hlocks) (fun h => by rw [hr] at h; cases h)
  have hmeth' : T.vm.method? m = some meth := X.method'
  refine ⟨T.setFrames fs, ?_, .returned (some (.int 1)), hrun, hended, rfl, ⟨_, rfl⟩, hW, hframe⟩
  jvm_step X.here [X.here.top, hx, hb, hdg, hmeth', hr, ret, narrow_b1]
  (try refine ⟨rfl, ?_⟩); (try refine ⟨rfl, ?_⟩)
  first | (intro acts; rw [hret _ acts rfl rfl rfl]) | rw [hret _ _ rfl rfl rfl]
  exact Steps.refl _
/-- what holds at the law's entry: the machine, the code, the tables' words (any of lw_tbl by 'hts w (by decide +kernel)'), the script of L ints xs at the cell b, what the Statement gives of the start (any of its parts by flat_of_before) -/
def lw_At (p : Program) (s : State) (m : MethodId) (meth : Method) (c : Code) (b L : Nat) (xs : Nat → Int32) : Prop :=
  p.tables.exec = Jvm.exec ∧ c.code = code ∧ meth.sig.returnType = ret ∧ c.maxLocals = 4 ∧ s.vm.findClass R_law = some m.cls ∧ (∀ w ∈ lw_tbl, w.before #[Value.ref b] s = true) ∧ va_X b L xs s s.heap ∧ b < s.heap.size ∧ meth.locks = false ∧ (Jvm.Cond.and given_1 narrow_1).before #[Value.ref b] s = true
theorem law_gt {i L : Nat} (hL : L ≤ 2049) (hi : i ≤ 5000) : (nI L - 4 < nI i) ↔ ¬ (i + 4 ≤ L) := by
  have e4 : (4 : Int32).toInt = 4 := rfl
  rw [Int32.lt_iff_toInt_lt, Int32.toInt_sub, e4, nI_toInt (by omega), nI_toInt (by omega), Int.bmod_eq_of_le (by omega) (by omega)]
  omega
theorem law_step (j : Nat) : nI (1 + 4 * j) + 4 = nI (1 + 4 * (j + 1)) := by
  rw [show 1 + 4 * (j + 1) = (1 + 4 * j) + 4 by omega, nI_ad (1 + 4 * j) 4]
  rfl
set_option maxHeartbeats 400000 in
set_option maxRecDepth 100000 in
theorem law_loop {p : Program} {l : Launch} {e : Env} {s : State} {m : MethodId} {below : List Frame} {meth : Method} {c : Code} {b L : Nat} {xs : Nat → Int32} {D : va_G} {ar : Nat → ClassId} (hM : zM p c m #[Value.ref b] s code RL D ar) (hml : c.maxLocals = 4) (hr : meth.sig.returnType = ret) (hlk : meth.locks = false) (hX : va_X b L xs s s.heap) (hL : L ≤ 2049) {n a1 a2 : Nat} {Zm : zZ} (h2 : Zm.1 8 0 = a2) : ∀ (f j : Nat) (Zc : zZ) (S M : zS) (H : Heap) (locs : List Loc) (ls : Array Slot), j + f = 600 → lwI s.heap.size n D ar Zc Zm S M H → Zc.1 7 0 = a1 → va_S (fun q => s.heap.size ≤ q) s.heap H locs → lv_has ls 4 [(3, .int (nI (1 + 4 * j))), (2, .ref a2), (1, .ref a1), (0, .ref b)] → W p l e room_1 s m #[Value.ref b] below meth c H locs (674 + 3 * j) (9766 + 19 * j) (lw_Z below #[Value.ref b] s) (F0 m 28 ls []) := by
  have hbl := hX.lt
  have hbA : ¬ (fun q => s.heap.size ≤ q) b := Nat.not_le.mpr hbl
  intro f
  induction f with
  | zero =>
    intro j Zc S M H locs ls hj I h1 hS0 hl
    refine lv_iload_n hM.1 hM.2.1 dL_law_28 rfl (lv_at hl 0 rfl) ?_
    refine lv_aload_n hM.1 hM.2.1 dL_law_29 rfl (lv_at hl 3 rfl) ?_
    refine va_slen hM.1 hM.2.1 hX hbl hbA hS0 dL_law_30 ?_
    refine lv_iconst (v := 4) hM.1 hM.2.1 dL_law_31 (by decide) ?_
    refine lv_isub hM.1 hM.2.1 dL_law_32 ?_
    refine lv_icmp_gt hM.1 hM.2.1 dL_law_33 (tgt := 767) (by decide) (fun _ => ?_) (fun h => absurd ((law_gt hL (by omega)).mpr (by omega)) h)
    refine lv_iconst (v := 1) hM.1 hM.2.1 dL_law_767 (by decide) ?_
    refine va_forget (fun q hq => hS0.2.2 q hq) ?_
    refine W.widen (k := 600000) (n := 7302250) (by omega) (by omega) ?_
    exact lw_ret hM.1 hM.2.1 hr hlk dL_law_768
  | succ f ih =>
    intro j Zc S M H locs ls hj I h1 hS0 hl
    refine lv_iload_n hM.1 hM.2.1 dL_law_28 rfl (lv_at hl 0 rfl) ?_
    refine lv_aload_n hM.1 hM.2.1 dL_law_29 rfl (lv_at hl 3 rfl) ?_
    refine va_slen hM.1 hM.2.1 hX hbl hbA hS0 dL_law_30 ?_
    refine lv_iconst (v := 4) hM.1 hM.2.1 dL_law_31 (by decide) ?_
    refine lv_isub hM.1 hM.2.1 dL_law_32 ?_
    refine lv_icmp_gt hM.1 hM.2.1 dL_law_33 (tgt := 767) (by decide) (fun _ => ?_) (fun h => ?_)
    · refine lv_iconst (v := 1) hM.1 hM.2.1 dL_law_767 (by decide) ?_
      refine va_forget (fun q hq => hS0.2.2 q hq) ?_
      refine W.widen (k := 600000) (n := 7302250) (by omega) (by omega) ?_
      exact lw_ret hM.1 hM.2.1 hr hlk dL_law_768
    have hi : 1 + 4 * j + 4 ≤ L := Classical.byContradiction fun q => h ((law_gt hL (by omega)).mpr q)
    have hc : 674 + 3 * j + 3 ≤ 600000 := by omega
    have hs : 9766 + 19 * j + 19 ≤ 7302250 := by omega
    have kk : ∀ (Zc' : zZ) (S' M' : zS) (H1 : Heap) (locs1 : List Loc), lwI s.heap.size n D ar Zc' Zm S' M' H1 → Zc'.1 7 0 = a1 → va_S (fun q => s.heap.size ≤ q) s.heap H1 locs1 → W p l e room_1 s m #[Value.ref b] below meth c H1 locs1 (674 + 3 * j + 3) (9766 + 19 * j + 19) (lw_Z below #[Value.ref b] s) (F0 m 761 ls []) := by
      intro Zc' S' M' H1 locs1 I' h1' hS'
      refine lv_iinc hM.1 hM.2.1 dL_law_761 hl (k := 0) rfl (v := nI (1 + 4 * (j + 1))) (law_step j) (by decide) (lv' := [(3, .int (nI (1 + 4 * (j + 1)))), (2, .ref a2), (1, .ref a1), (0, .ref b)]) rfl (fun ls hl => ?_)
      refine lv_goto hM.1 hM.2.1 dL_law_764 (tgt := 28) (by decide) ?_
      refine W.widen (k := 674 + 3 * (j + 1)) (n := 9766 + 19 * (j + 1)) (by omega) (by omega) ?_
      exact ih (j + 1) Zc' S' M' H1 locs1 ls (by omega) I' h1' hS' hl
    refine lv_aload_n hM.1 hM.2.1 dL_law_36 rfl (lv_at hl 3 rfl) ?_
    refine lv_iload_n hM.1 hM.2.1 dL_law_37 rfl (lv_at hl 0 rfl) ?_
    refine va_sld hM.1 hM.2.1 hX hbl hbA hS0 (nI_in (by omega) (by omega)) dL_law_38 ?_
    refine lv_bipush (v := 31) hM.1 hM.2.1 dL_law_39 (by decide) ?_
    refine lv_iand hM.1 hM.2.1 dL_law_41 ?_
    generalize (xs (Int32.toNatClampNeg (nI (1 + 4 * j)))) &&& 31 = x
    by_cases h_0 : x = 0
    · refine lv_tableIn hM.1 hM.2.1 dL_law_42 (by rw [h_0]; decide) (by rw [h_0]; decide) (off := 98) (by rw [h_0]; rfl) (tgt := 140) (by decide) ?_
      exact law_votes hM hml hX hL hi I h1 h2 hS0 hl hc hs kk
    by_cases h_1 : x = 1
    · refine lv_tableIn hM.1 hM.2.1 dL_law_42 (by rw [h_1]; decide) (by rw [h_1]; decide) (off := 131) (by rw [h_1]; rfl) (tgt := 173) (by decide) ?_
      exact law_change hM hml hX hL hi I h1 h2 hS0 hl hc hs kk
    by_cases h_2 : x = 2
    · refine lv_tableIn hM.1 hM.2.1 dL_law_42 (by rw [h_2]; decide) (by rw [h_2]; decide) (off := 164) (by rw [h_2]; rfl) (tgt := 206) (by decide) ?_
      exact law_resume hM hml hX hL hi I h1 h2 hS0 hl hc hs kk
    by_cases h_3 : x = 3
    · refine lv_tableIn hM.1 hM.2.1 dL_law_42 (by rw [h_3]; decide) (by rw [h_3]; decide) (off := 177) (by rw [h_3]; rfl) (tgt := 219) (by decide) ?_
      exact law_read hM hml hX hL hi I h1 h2 hS0 hl hc hs kk
    by_cases h_4 : x = 4
    · refine lv_tableIn hM.1 hM.2.1 dL_law_42 (by rw [h_4]; decide) (by rw [h_4]; decide) (off := 200) (by rw [h_4]; rfl) (tgt := 242) (by decide) ?_
      exact law_write hM hml hX hL hi I h1 h2 hS0 hl hc hs kk
    by_cases h_5 : x = 5
    · refine lv_tableIn hM.1 hM.2.1 dL_law_42 (by rw [h_5]; decide) (by rw [h_5]; decide) (off := 263) (by rw [h_5]; rfl) (tgt := 305) (by decide) ?_
      exact law_again hM hml hX hL hi I h1 h2 hS0 hl hc hs kk
    by_cases h_6 : x = 6
    · refine lv_tableIn hM.1 hM.2.1 dL_law_42 (by rw [h_6]; decide) (by rw [h_6]; decide) (off := 286) (by rw [h_6]; rfl) (tgt := 328) (by decide) ?_
      exact law_deliver hM hml hX hL hi I h1 h2 hS0 hl hc hs kk
    by_cases h_7 : x = 7
    · refine lv_tableIn hM.1 hM.2.1 dL_law_42 (by rw [h_7]; decide) (by rw [h_7]; decide) (off := 309) (by rw [h_7]; rfl) (tgt := 351) (by decide) ?_
      exact law_settle hM hml hX hL hi I h1 h2 hS0 hl hc hs kk
    by_cases h_8 : x = 8
    · refine lv_tableIn hM.1 hM.2.1 dL_law_42 (by rw [h_8]; decide) (by rw [h_8]; decide) (off := 332) (by rw [h_8]; rfl) (tgt := 374) (by decide) ?_
      exact law_lose hM hml hX hL hi I h1 h2 hS0 hl hc hs kk
    by_cases h_9 : x = 9
    · refine lv_tableIn hM.1 hM.2.1 dL_law_42 (by rw [h_9]; decide) (by rw [h_9]; decide) (off := 355) (by rw [h_9]; rfl) (tgt := 397) (by decide) ?_
      exact law_twice hM hml hX hL hi I h1 h2 hS0 hl hc hs kk
    by_cases h_10 : x = 10
    · refine lv_tableIn hM.1 hM.2.1 dL_law_42 (by rw [h_10]; decide) (by rw [h_10]; decide) (off := 378) (by rw [h_10]; rfl) (tgt := 420) (by decide) ?_
      exact law_silent hM hml hX hL hi I h1 h2 hS0 hl hc hs kk
    by_cases h_11 : x = 11
    · refine lv_tableIn hM.1 hM.2.1 dL_law_42 (by rw [h_11]; decide) (by rw [h_11]; decide) (off := 427) (by rw [h_11]; rfl) (tgt := 469) (by decide) ?_
      exact law_side hM hml hX hL hi I h1 h2 hS0 hl hc hs kk
    by_cases h_12 : x = 12
    · refine lv_tableIn hM.1 hM.2.1 dL_law_42 (by rw [h_12]; decide) (by rw [h_12]; decide) (off := 460) (by rw [h_12]; rfl) (tgt := 502) (by decide) ?_
      exact law_halt hM hml hX hL hi I h1 h2 hS0 hl hc hs kk
    by_cases h_13 : x = 13
    · refine lv_tableIn hM.1 hM.2.1 dL_law_42 (by rw [h_13]; decide) (by rw [h_13]; decide) (off := 483) (by rw [h_13]; rfl) (tgt := 525) (by decide) ?_
      exact law_copy hM hml hX hL hi I h1 h2 hS0 hl hc hs kk
    by_cases h_14 : x = 14
    · refine lv_tableIn hM.1 hM.2.1 dL_law_42 (by rw [h_14]; decide) (by rw [h_14]; decide) (off := 516) (by rw [h_14]; rfl) (tgt := 558) (by decide) ?_
      exact law_kept hM hml hX hL hi I h1 h2 hS0 hl hc hs kk
    by_cases h_15 : x = 15
    · refine lv_tableIn hM.1 hM.2.1 dL_law_42 (by rw [h_15]; decide) (by rw [h_15]; decide) (off := 540) (by rw [h_15]; rfl) (tgt := 582) (by decide) ?_
      exact law_client hM hml hX hL hi I h1 h2 hS0 hl hc hs kk
    by_cases h_16 : x = 16
    · refine lv_tableIn hM.1 hM.2.1 dL_law_42 (by rw [h_16]; decide) (by rw [h_16]; decide) (off := 573) (by rw [h_16]; rfl) (tgt := 615) (by decide) ?_
      exact law_air hM hml hX hL hi I h1 h2 hS0 hl hc hs kk
    by_cases h_17 : x = 17
    · refine lv_tableIn hM.1 hM.2.1 dL_law_42 (by rw [h_17]; decide) (by rw [h_17]; decide) (off := 606) (by rw [h_17]; rfl) (tgt := 648) (by decide) ?_
      exact law_act hM hml hX hL hi I h1 h2 hS0 hl hc hs kk
    by_cases h_18 : x = 18
    · refine lv_tableIn hM.1 hM.2.1 dL_law_42 (by rw [h_18]; decide) (by rw [h_18]; decide) (off := 639) (by rw [h_18]; rfl) (tgt := 681) (by decide) ?_
      exact law_value hM hml hX hL hi I h1 h2 hS0 hl hc hs kk
    by_cases h_19 : x = 19
    · refine lv_tableIn hM.1 hM.2.1 dL_law_42 (by rw [h_19]; decide) (by rw [h_19]; decide) (off := 663) (by rw [h_19]; rfl) (tgt := 705) (by decide) ?_
      exact law_table hM hml hX hL hi I h1 h2 hS0 hl hc hs kk
    by_cases h_20 : x = 20
    · refine lv_tableIn hM.1 hM.2.1 dL_law_42 (by rw [h_20]; decide) (by rw [h_20]; decide) (off := 696) (by rw [h_20]; rfl) (tgt := 738) (by decide) ?_
      exact law_about hM hml hX hL hi I h1 h2 hS0 hl hc hs kk
    refine lv_tableOut hM.1 hM.2.1 dL_law_42 (by have n0 : Int32.toInt x ≠ 0 := fun q => h_0 (Int32.toInt_inj.mp (by rw [q]; rfl)); have n1 : Int32.toInt x ≠ 1 := fun q => h_1 (Int32.toInt_inj.mp (by rw [q]; rfl)); have n2 : Int32.toInt x ≠ 2 := fun q => h_2 (Int32.toInt_inj.mp (by rw [q]; rfl)); have n3 : Int32.toInt x ≠ 3 := fun q => h_3 (Int32.toInt_inj.mp (by rw [q]; rfl)); have n4 : Int32.toInt x ≠ 4 := fun q => h_4 (Int32.toInt_inj.mp (by rw [q]; rfl)); have n5 : Int32.toInt x ≠ 5 := fun q => h_5 (Int32.toInt_inj.mp (by rw [q]; rfl)); have n6 : Int32.toInt x ≠ 6 := fun q => h_6 (Int32.toInt_inj.mp (by rw [q]; rfl)); have n7 : Int32.toInt x ≠ 7 := fun q => h_7 (Int32.toInt_inj.mp (by rw [q]; rfl)); have n8 : Int32.toInt x ≠ 8 := fun q => h_8 (Int32.toInt_inj.mp (by rw [q]; rfl)); have n9 : Int32.toInt x ≠ 9 := fun q => h_9 (Int32.toInt_inj.mp (by rw [q]; rfl)); have n10 : Int32.toInt x ≠ 10 := fun q => h_10 (Int32.toInt_inj.mp (by rw [q]; rfl)); have n11 : Int32.toInt x ≠ 11 := fun q => h_11 (Int32.toInt_inj.mp (by rw [q]; rfl)); have n12 : Int32.toInt x ≠ 12 := fun q => h_12 (Int32.toInt_inj.mp (by rw [q]; rfl)); have n13 : Int32.toInt x ≠ 13 := fun q => h_13 (Int32.toInt_inj.mp (by rw [q]; rfl)); have n14 : Int32.toInt x ≠ 14 := fun q => h_14 (Int32.toInt_inj.mp (by rw [q]; rfl)); have n15 : Int32.toInt x ≠ 15 := fun q => h_15 (Int32.toInt_inj.mp (by rw [q]; rfl)); have n16 : Int32.toInt x ≠ 16 := fun q => h_16 (Int32.toInt_inj.mp (by rw [q]; rfl)); have n17 : Int32.toInt x ≠ 17 := fun q => h_17 (Int32.toInt_inj.mp (by rw [q]; rfl)); have n18 : Int32.toInt x ≠ 18 := fun q => h_18 (Int32.toInt_inj.mp (by rw [q]; rfl)); have n19 : Int32.toInt x ≠ 19 := fun q => h_19 (Int32.toInt_inj.mp (by rw [q]; rfl)); have n20 : Int32.toInt x ≠ 20 := fun q => h_20 (Int32.toInt_inj.mp (by rw [q]; rfl)); omega) (tgt := 761) (by decide) ?_
    refine W.widen (k := 674 + 3 * j + 3) (n := 9766 + 19 * j + 19) (by omega) (by omega) ?_
    exact kk Zc S M H locs I h1 hS0
def S00 : zS := (fun _ _ _ => 0, fun _ _ _ => 0, fun _ _ _ => none)
def Z00 : zZ := (fun _ _ => 0, fun _ _ => False, fun _ _ => 0)
theorem zW00 {D : va_G} {ar : Nat → ClassId} {A : Nat → Prop} {H : Heap} : zW D ar A Z00 S00 H := ⟨fun _ _ h => h.elim, fun _ _ _ _ h => h.elim, fun _ _ _ _ _ h => h.elim⟩
theorem zr00 (k i : Nat) : zr (sz S00 k i) := fun k' i' f => by
  rw [gi_sz, gj_sz, gr_sz]
  refine ⟨?_, ?_, ?_⟩
  · split <;> rfl
  · split <;> rfl
  · split <;> rfl
set_option maxHeartbeats 400000 in
set_option maxRecDepth 100000 in
theorem whole_start {p : Program} {e : Env} {s : State} {m : MethodId} {below : List Frame} {meth : Method} {c : Code} (l : Launch) {b L : Nat} {xs : Nat → Int32} (hL : L ≤ 2049) (C0 : lw_At p s m meth c b L xs) : W p l e room_1 s m #[Value.ref b] below meth c s.heap [] 0 0 (lw_Z below #[Value.ref b] s) (entryFrame m ([Value.ref b] : List Value).toArray 4) := by
  obtain ⟨hx, hb, hr, hml, hown, hts, hX, hbl, hlocks, hgv⟩ := id C0
  obtain ⟨D, ar, hK⟩ := law_K hts
  have hM : zM p c m #[Value.ref b] s code RL D ar := ⟨hx, hb, hown, fun w hw => hts w (zU_tbl hw), hK⟩
  have hS : va_S (fun q : Nat => s.heap.size ≤ q) s.heap s.heap [] := va_S.rf
  have hl := lv_entry ([.ref b]) (n := 4) (Nat.le_of_ble_eq_true rfl)
  rw [lg_entry_eq]
  generalize (lg_sl ([.ref b]) ++ List.replicate (4 - (lg_sl ([.ref b])).length) Slot.unset).toArray = ls at hl ⊢
  have hl : lv_has ls 4 [(0, .ref b)] := hl
  refine z_new hM (zW00 (A := fun q : Nat => s.heap.size ≤ q)) hS (fun _ h => h) zc7 0 (fun q => q) lk_L_7 lt_X7 lz_X7 (Nat.le_of_ble_eq_true rfl) (Nat.le_of_ble_eq_true rfl) dL_law_0 (fun Z1 H hx1 hW hS0 => ?_)
  have w : lwW s.heap.size D ar Z1 Z00 (sz S00 7 0) S00 H := ⟨hW, zW00, fun _ _ _ _ _ h => h.elim⟩
  have hd : ∀ K I, Z1.2.1 K I ↔ K = 7 ∧ I = 0 := fun K I => (hx1.2.1 K I).trans ⟨fun q => q.elim (fun r => r.elim) (fun r => r), Or.inr⟩
  generalize ha1 : Z1.1 7 0 = a1
  refine lv_dup hM.1 hM.2.1 dL_law_3 rfl ?_
  refine lv_aload_n hM.1 hM.2.1 dL_law_4 rfl (lv_at hl 0 rfl) ?_
  refine lv_iconst (v := 0) hM.1 hM.2.1 dL_law_5 (by decide) ?_
  refine lawCell hM (hml.trans hl.1.symm) w hS0 hX (by omega) (Nat.le_of_ble_eq_true rfl) ⟨Nat.le_of_ble_eq_true rfl, Nat.le_of_ble_eq_true rfl⟩ ⟨Nat.le_of_ble_eq_true rfl, Nat.le_of_ble_eq_true rfl⟩ dL_law_6 (fun H locs w hS0 => ?_)
  refine lawI hM (hml.trans hl.1.symm) w hS0 zyX7_init rfl lm_L_15 li_yX7_init (a := Z1.1 7 0) (As := [.int (rCell L xs)]) (rest := [.ref a1]) (c_X7_init (x := rCell L xs) (n := clampN (rCell L xs)) rfl hd (zr00 7 0)) rfl (by rw [ha1]; rfl) (Nat.le_of_ble_eq_true rfl) ⟨Nat.le_of_ble_eq_true rfl, Nat.le_of_ble_eq_true rfl⟩ ⟨Nat.le_of_ble_eq_true rfl, Nat.le_of_ble_eq_true rfl⟩ dL_law_9 (fun r9 Zc S H locs hp w hS0 => ?_)
  obtain ⟨hP, hA1⟩ := hp
  have hA1 : Zc.1 7 0 = a1 := hA1.trans ha1
  refine W.eq (g2 := F0 m 12 ls [.ref a1]) rfl ?_
  refine lv_astore_n hM.1 hM.2.1 dL_law_12 rfl hl (by decide) (lv' := [(1, .ref a1), (0, .ref b)]) rfl (fun ls hl => ?_)
  refine va_forget (fun q hq => hS0.2.2 q hq) ?_
  refine z_new (H0 := H) hM w.swap.own va_S.rf (fun q hq => w.swap.free hS0.1 q hq) zc8 0 (fun q => q) lk_L_18 lt_X8 lz_X8 (Nat.le_of_ble_eq_true rfl) (Nat.le_of_ble_eq_true rfl) dL_law_13 (fun Z2 H2 hx2 hW2 hS2 => ?_)
  have w2 := w.swap.step hW2 hS2
  have hS0 := law_S hS0 hS2
  have hd2 : ∀ K I, Z2.2.1 K I ↔ K = 8 ∧ I = 0 := fun K I => (hx2.2.1 K I).trans ⟨fun q => q.elim (fun r => r.elim) (fun r => r), Or.inr⟩
  generalize ha2 : Z2.1 8 0 = a2
  refine lv_dup hM.1 hM.2.1 dL_law_16 rfl ?_
  refine lv_aload_n hM.1 hM.2.1 dL_law_17 rfl (lv_at hl 1 rfl) ?_
  refine lv_iconst (v := 0) hM.1 hM.2.1 dL_law_18 (by decide) ?_
  refine lawCell hM (hml.trans hl.1.symm) w2 hS0 hX (by omega) (Nat.le_of_ble_eq_true rfl) ⟨Nat.le_of_ble_eq_true rfl, Nat.le_of_ble_eq_true rfl⟩ ⟨Nat.le_of_ble_eq_true rfl, Nat.le_of_ble_eq_true rfl⟩ dL_law_19 (fun H3 locs3 w3 hS3 => ?_)
  refine lawI hM (hml.trans hl.1.symm) w3 hS3 zyX8_init rfl lm_L_20 li_yX8_init (a := Z2.1 8 0) (As := [.int (rCell L xs)]) (rest := [.ref a2]) (c_X8_init (x := rCell L xs) ((hd2 8 0).mpr ⟨rfl, rfl⟩) (fun k i q1 _ q => by rw [hd2] at q; omega)) rfl (by rw [ha2]; rfl) (Nat.le_of_ble_eq_true rfl) ⟨Nat.le_of_ble_eq_true rfl, Nat.le_of_ble_eq_true rfl⟩ ⟨Nat.le_of_ble_eq_true rfl, Nat.le_of_ble_eq_true rfl⟩ dL_law_22 (fun r9 Zm M H4 locs4 hp w4 hS4 => ?_)
  obtain ⟨T, hmd, rfl⟩ := hp
  have hA2 : Zm.1 8 0 = a2 := ((hmd.1 8 0 (fun ⟨g, _, _, _, q⟩ => by omega)).2.1).trans ha2
  refine W.eq (g2 := F0 m 25 ls [.ref a2]) rfl ?_
  refine lv_astore_n hM.1 hM.2.1 dL_law_25 rfl hl (by decide) (lv' := [(2, .ref a2), (1, .ref a1), (0, .ref b)]) rfl (fun ls hl => ?_)
  refine lv_iconst (v := 1) hM.1 hM.2.1 dL_law_26 (by decide) ?_
  refine lv_istore_n hM.1 hM.2.1 dL_law_27 rfl hl (by decide) (lv' := [(3, .int 1), (2, .ref a2), (1, .ref a1), (0, .ref b)]) rfl (fun ls hl => ?_)
  refine W.widen (k := 674 + 3 * 0) (n := 9766 + 19 * 0) (Nat.le_of_ble_eq_true rfl) (Nat.le_of_ble_eq_true rfl) ?_
  have hn := (clamp_eq (rCell L xs)).2
  exact law_loop hM hml hr hlocks hX hL hA2 600 0 Zc S (mCt (clampN (rCell L xs)) T) H4 locs4 ls (by omega) ⟨w4.swap, ⟨1, 0, 0, x_start hn hP hmd (zr00 8 0), hP.2.1⟩, md_mOK hmd ((hd2 8 0).mpr ⟨rfl, rfl⟩)⟩ hA1 hS4 hl
