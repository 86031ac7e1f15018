set_option maxHeartbeats 400000 in
set_option maxRecDepth 100000 in
theorem law_votes {p : Program} {l : Launch} {e : Env} {s : State} {m : MethodId} {below : List Frame} {meth : Method} {c : Code} {b L : Nat} {xs : Nat → Int32} {D : va_G} {ar : Nat → ClassId} {H : Heap} {locs : List Loc} {ls : Array Slot} {Zc Zm : zZ} {S M : zS} {n a1 a2 i cells slots : Nat} {Q : State → Prop} (hM : zM p c m #[Value.ref b] s code RL D ar) (hml : c.maxLocals = 4) (hX : va_X b L xs s s.heap) (hL : L ≤ 2049) (hi : i + 4 ≤ L) (I : lwI s.heap.size n D ar Zc Zm S M H) (h1 : Zc.1 7 0 = a1) (h2 : Zm.1 8 0 = a2) (hS0 : va_S (fun q => s.heap.size ≤ q) s.heap H locs) (hl : lv_has ls 4 [(3, .int (nI i)), (2, .ref a2), (1, .ref a1), (0, .ref b)]) (hc : cells + 3 ≤ 600000) (hs : slots + 19 ≤ 7302250)
    (kk : ∀ (Zc' : zZ) (S' M' : zS) (H1 : Heap) (locs1 : List Loc), lwI s.heap.size n D ar Zc' Zm S' M' H1 → Zc'.1 7 0 = a1 → va_S (fun q => s.heap.size ≤ q) s.heap H1 locs1 → W p l e room_1 s m #[Value.ref b] below meth c H1 locs1 (cells + 3) (slots + 19) Q (F0 m 761 ls [])) : W p l e room_1 s m #[Value.ref b] below meth c H locs cells slots Q (F0 m 140 ls []) := by
  obtain ⟨w, ⟨tc, ac, cn, hx, hfr⟩, hO⟩ := I
  have hbl := hX.lt
  have hbA : ¬ (fun q => s.heap.size ≤ q) b := Nat.not_le.mpr hbl
  have v1 : vp_in ((nI i) + (1)) L := law_in (k := 1) hi hL (by omega)
  have v2 : vp_in ((nI i) + (2)) L := law_in (k := 2) hi hL (by omega)
  have v3 : vp_in ((nI i) + (3)) L := law_in (k := 3) hi hL (by omega)
  refine lv_aload_n hM.1 hM.2.1 dL_law_140 rfl (lv_at hl 2 rfl) ?_
  refine lv_aload_n hM.1 hM.2.1 dL_law_141 rfl (lv_at hl 3 rfl) ?_
  refine lv_iload_n hM.1 hM.2.1 dL_law_142 rfl (lv_at hl 0 rfl) ?_
  refine lv_iconst (v := 1) hM.1 hM.2.1 dL_law_143 (by decide) ?_
  refine lv_iadd hM.1 hM.2.1 dL_law_144 ?_
  refine va_sld hM.1 hM.2.1 hX hbl hbA hS0 v1 dL_law_145 ?_
  refine lv_aload_n hM.1 hM.2.1 dL_law_146 rfl (lv_at hl 3 rfl) ?_
  refine lv_iload_n hM.1 hM.2.1 dL_law_147 rfl (lv_at hl 0 rfl) ?_
  refine lv_iconst (v := 2) hM.1 hM.2.1 dL_law_148 (by decide) ?_
  refine lv_iadd hM.1 hM.2.1 dL_law_149 ?_
  refine va_sld hM.1 hM.2.1 hX hbl hbA hS0 v2 dL_law_150 ?_
  refine lawV hM (hml.trans hl.1.symm) w hS0 zc7 hx.1.d7 h1 zyX7_votes lm_L_21 li_yX7_votes le_yX7_votes (As := [.int (xs (ix ((nI i) + (1)))), .int (xs (ix ((nI i) + (2))))]) (rest := []) (c_X7_votes hx.1) rfl rfl (Nat.le_of_ble_eq_true rfl) ⟨Nat.le_of_ble_eq_true rfl, Nat.le_of_ble_eq_true rfl⟩ ⟨by show cells + 0 ≤ 600000; omega, by show slots + 0 ≤ 7302250; omega⟩ dL_law_151 (fun r Zc1 S1 H locs hp w hS0 => ?_)
  obtain ⟨hr7, hz7, hs7⟩ := hp
  subst hr7
  rw [hz7, hs7] at w
  refine W.eq (g2 := F0 m 154 ls (.int _ :: [])) rfl ?_
  refine lv_aload_n hM.1 hM.2.1 dL_law_154 rfl (lv_at hl 1 rfl) ?_
  refine lv_aload_n hM.1 hM.2.1 dL_law_155 rfl (lv_at hl 3 rfl) ?_
  refine lv_iload_n hM.1 hM.2.1 dL_law_156 rfl (lv_at hl 0 rfl) ?_
  refine lv_iconst (v := 1) hM.1 hM.2.1 dL_law_157 (by decide) ?_
  refine lv_iadd hM.1 hM.2.1 dL_law_158 ?_
  refine va_sld hM.1 hM.2.1 hX hbl hbA hS0 v1 dL_law_159 ?_
  refine lv_aload_n hM.1 hM.2.1 dL_law_160 rfl (lv_at hl 3 rfl) ?_
  refine lv_iload_n hM.1 hM.2.1 dL_law_161 rfl (lv_at hl 0 rfl) ?_
  refine lv_iconst (v := 2) hM.1 hM.2.1 dL_law_162 (by decide) ?_
  refine lv_iadd hM.1 hM.2.1 dL_law_163 ?_
  refine va_sld hM.1 hM.2.1 hX hbl hbA hS0 v2 dL_law_164 ?_
  refine lawV hM (hml.trans hl.1.symm) w.swap hS0 zc8 hO.1 h2 zyX8_votes lm_L_25 li_yX8_votes le_yX8_votes (As := [.int (xs (ix ((nI i) + (1)))), .int (xs (ix ((nI i) + (2))))]) (rest := [.int _]) (c_X8_votes hO hx.mn hx.n7) rfl rfl (Nat.le_of_ble_eq_true rfl) ⟨Nat.le_of_ble_eq_true rfl, Nat.le_of_ble_eq_true rfl⟩ ⟨by show cells + 0 + 0 ≤ 600000; omega, by show slots + 0 + 0 ≤ 7302250; omega⟩ dL_law_165 (fun r Zm1 M1 H locs hp w hS0 => ?_)
  obtain ⟨hr8, hz8, hs8⟩ := hp
  subst hr8
  rw [hz8, hs8] at w
  refine W.eq (g2 := F0 m 168 ls (.int _ :: [.int _])) rfl ?_
  obtain ⟨er, hx2⟩ := x_votes (x := (xs (ix ((nI i) + (1))))) (y := (xs (ix ((nI i) + (2))))) hx
  refine lv_icmp_eq hM.1 hM.2.1 dL_law_168 (tgt := 761) (by decide) (fun _ => ?_) (fun h => absurd er h)
  refine W.widen (k := cells + 3) (n := slots + 19) (by show cells + 0 + 0 ≤ cells + 3; omega) (by show slots + 0 + 0 ≤ slots + 19; omega) ?_
  exact kk _ _ _ _ _ ⟨w.swap, ⟨tc, ac, cn, hx2, hfr⟩, hO.of k_X8_votes⟩ h1 hS0

set_option maxHeartbeats 400000 in
set_option maxRecDepth 100000 in
theorem law_change {p : Program} {l : Launch} {e : Env} {s : State} {m : MethodId} {below : List Frame} {meth : Method} {c : Code} {b L : Nat} {xs : Nat → Int32} {D : va_G} {ar : Nat → ClassId} {H : Heap} {locs : List Loc} {ls : Array Slot} {Zc Zm : zZ} {S M : zS} {n a1 a2 i cells slots : Nat} {Q : State → Prop} (hM : zM p c m #[Value.ref b] s code RL D ar) (hml : c.maxLocals = 4) (hX : va_X b L xs s s.heap) (hL : L ≤ 2049) (hi : i + 4 ≤ L) (I : lwI s.heap.size n D ar Zc Zm S M H) (h1 : Zc.1 7 0 = a1) (h2 : Zm.1 8 0 = a2) (hS0 : va_S (fun q => s.heap.size ≤ q) s.heap H locs) (hl : lv_has ls 4 [(3, .int (nI i)), (2, .ref a2), (1, .ref a1), (0, .ref b)]) (hc : cells + 3 ≤ 600000) (hs : slots + 19 ≤ 7302250)
    (kk : ∀ (Zc' : zZ) (S' M' : zS) (H1 : Heap) (locs1 : List Loc), lwI s.heap.size n D ar Zc' Zm S' M' H1 → Zc'.1 7 0 = a1 → va_S (fun q => s.heap.size ≤ q) s.heap H1 locs1 → W p l e room_1 s m #[Value.ref b] below meth c H1 locs1 (cells + 3) (slots + 19) Q (F0 m 761 ls [])) : W p l e room_1 s m #[Value.ref b] below meth c H locs cells slots Q (F0 m 173 ls []) := by
  obtain ⟨w, ⟨tc, ac, cn, hx, hfr⟩, hO⟩ := I
  have hbl := hX.lt
  have hbA : ¬ (fun q => s.heap.size ≤ q) b := Nat.not_le.mpr hbl
  have v1 : vp_in ((nI i) + (1)) L := law_in (k := 1) hi hL (by omega)
  have v2 : vp_in ((nI i) + (2)) L := law_in (k := 2) hi hL (by omega)
  have v3 : vp_in ((nI i) + (3)) L := law_in (k := 3) hi hL (by omega)
  refine lv_aload_n hM.1 hM.2.1 dL_law_173 rfl (lv_at hl 2 rfl) ?_
  refine lv_aload_n hM.1 hM.2.1 dL_law_174 rfl (lv_at hl 3 rfl) ?_
  refine lv_iload_n hM.1 hM.2.1 dL_law_175 rfl (lv_at hl 0 rfl) ?_
  refine lv_iconst (v := 1) hM.1 hM.2.1 dL_law_176 (by decide) ?_
  refine lv_iadd hM.1 hM.2.1 dL_law_177 ?_
  refine va_sld hM.1 hM.2.1 hX hbl hbA hS0 v1 dL_law_178 ?_
  refine lv_aload_n hM.1 hM.2.1 dL_law_179 rfl (lv_at hl 3 rfl) ?_
  refine lv_iload_n hM.1 hM.2.1 dL_law_180 rfl (lv_at hl 0 rfl) ?_
  refine lv_iconst (v := 2) hM.1 hM.2.1 dL_law_181 (by decide) ?_
  refine lv_iadd hM.1 hM.2.1 dL_law_182 ?_
  refine va_sld hM.1 hM.2.1 hX hbl hbA hS0 v2 dL_law_183 ?_
  refine lawV hM (hml.trans hl.1.symm) w hS0 zc7 hx.1.d7 h1 zyX7_change lm_L_26 li_yX7_change le_yX7_change (As := [.int (xs (ix ((nI i) + (1)))), .int (xs (ix ((nI i) + (2))))]) (rest := []) (c_X7_change (a := ac) (tc := tc) hx.1 hx.acs.1 hx.acs.2 (fun _ => hfr.1 ac (Nat.le_refl _)) hx.c0 hx.tcs.1 hx.tcs.2.2.1 (fun _ => hfr.2 tc (Nat.le_refl _))) rfl rfl (Nat.le_of_ble_eq_true rfl) ⟨Nat.le_of_ble_eq_true rfl, Nat.le_of_ble_eq_true rfl⟩ ⟨by show cells + 3 ≤ 600000; omega, by show slots + 19 ≤ 7302250; omega⟩ dL_law_184 (fun r Zc1 S1 H locs hp w hS0 => ?_)
  obtain ⟨rfl, hS1, hz⟩ := hp
  subst hS1
  have h1 : Zc1.1 7 0 = a1 := hz.elim (fun q => by rw [q.1]; exact h1) (fun ⟨c, q1, q2, q3, q4, q5, Za, Zb, q6, q7, q8⟩ => ((q8.1 7 0 (by omega)).1).trans (((q7.1 7 0 (by omega)).1).trans (((q6.1 7 0 (by omega)).1).trans h1)))
  refine W.eq (g2 := F0 m 187 ls (.int _ :: [])) rfl ?_
  refine lv_aload_n hM.1 hM.2.1 dL_law_187 rfl (lv_at hl 1 rfl) ?_
  refine lv_aload_n hM.1 hM.2.1 dL_law_188 rfl (lv_at hl 3 rfl) ?_
  refine lv_iload_n hM.1 hM.2.1 dL_law_189 rfl (lv_at hl 0 rfl) ?_
  refine lv_iconst (v := 1) hM.1 hM.2.1 dL_law_190 (by decide) ?_
  refine lv_iadd hM.1 hM.2.1 dL_law_191 ?_
  refine va_sld hM.1 hM.2.1 hX hbl hbA hS0 v1 dL_law_192 ?_
  refine lv_aload_n hM.1 hM.2.1 dL_law_193 rfl (lv_at hl 3 rfl) ?_
  refine lv_iload_n hM.1 hM.2.1 dL_law_194 rfl (lv_at hl 0 rfl) ?_
  refine lv_iconst (v := 2) hM.1 hM.2.1 dL_law_195 (by decide) ?_
  refine lv_iadd hM.1 hM.2.1 dL_law_196 ?_
  refine va_sld hM.1 hM.2.1 hX hbl hbA hS0 v2 dL_law_197 ?_
  refine lawV hM (hml.trans hl.1.symm) w.swap hS0 zc8 hO.1 h2 zyX8_change lm_L_30 li_yX8_change le_yX8_change (As := [.int (xs (ix ((nI i) + (1)))), .int (xs (ix ((nI i) + (2))))]) (rest := [.int _]) (c_X8_change (tc := tc) (ac := ac) (hx.mI hO) hx.tcs.2.1 hx.tcs.2.2.1 hx.tcs.2.2.2 hx.acs.2) rfl rfl (Nat.le_of_ble_eq_true rfl) ⟨Nat.le_of_ble_eq_true rfl, Nat.le_of_ble_eq_true rfl⟩ ⟨by show cells + 3 + 0 ≤ 600000; omega, by show slots + 19 + 0 ≤ 7302250; omega⟩ dL_law_198 (fun r Zm1 M1 H locs hp w hS0 => ?_)
  obtain ⟨hr8, hz8, hs8⟩ := hp
  subst hr8
  rw [hz8, hs8] at w
  refine W.eq (g2 := F0 m 201 ls (.int _ :: [.int _])) rfl ?_
  obtain ⟨er, tc2, ac2, cn2, hx2, hf2⟩ := x_change hx hz hfr
  refine lv_icmp_eq hM.1 hM.2.1 dL_law_201 (tgt := 761) (by decide) (fun _ => ?_) (fun h => absurd er h)
  refine W.widen (k := cells + 3) (n := slots + 19) (by show cells + 3 + 0 ≤ cells + 3; omega) (by show slots + 19 + 0 ≤ slots + 19; omega) ?_
  exact kk _ _ _ _ _ ⟨w.swap, ⟨tc2, ac2, cn2, hx2, hf2⟩, hO.of kq_change⟩ h1 hS0

set_option maxHeartbeats 400000 in
set_option maxRecDepth 100000 in
theorem law_resume {p : Program} {l : Launch} {e : Env} {s : State} {m : MethodId} {below : List Frame} {meth : Method} {c : Code} {b L : Nat} {xs : Nat → Int32} {D : va_G} {ar : Nat → ClassId} {H : Heap} {locs : List Loc} {ls : Array Slot} {Zc Zm : zZ} {S M : zS} {n a1 a2 i cells slots : Nat} {Q : State → Prop} (hM : zM p c m #[Value.ref b] s code RL D ar) (hml : c.maxLocals = 4) (hX : va_X b L xs s s.heap) (hL : L ≤ 2049) (hi : i + 4 ≤ L) (I : lwI s.heap.size n D ar Zc Zm S M H) (h1 : Zc.1 7 0 = a1) (h2 : Zm.1 8 0 = a2) (hS0 : va_S (fun q => s.heap.size ≤ q) s.heap H locs) (hl : lv_has ls 4 [(3, .int (nI i)), (2, .ref a2), (1, .ref a1), (0, .ref b)]) (hc : cells + 3 ≤ 600000) (hs : slots + 19 ≤ 7302250)
    (kk : ∀ (Zc' : zZ) (S' M' : zS) (H1 : Heap) (locs1 : List Loc), lwI s.heap.size n D ar Zc' Zm S' M' H1 → Zc'.1 7 0 = a1 → va_S (fun q => s.heap.size ≤ q) s.heap H1 locs1 → W p l e room_1 s m #[Value.ref b] below meth c H1 locs1 (cells + 3) (slots + 19) Q (F0 m 761 ls [])) : W p l e room_1 s m #[Value.ref b] below meth c H locs cells slots Q (F0 m 206 ls []) := by
  obtain ⟨w, ⟨tc, ac, cn, hx, hfr⟩, hO⟩ := I
  have hbl := hX.lt
  have hbA : ¬ (fun q => s.heap.size ≤ q) b := Nat.not_le.mpr hbl
  have v1 : vp_in ((nI i) + (1)) L := law_in (k := 1) hi hL (by omega)
  have v2 : vp_in ((nI i) + (2)) L := law_in (k := 2) hi hL (by omega)
  have v3 : vp_in ((nI i) + (3)) L := law_in (k := 3) hi hL (by omega)
  refine lv_aload_n hM.1 hM.2.1 dL_law_206 rfl (lv_at hl 2 rfl) ?_
  refine lawV hM (hml.trans hl.1.symm) w hS0 zc7 hx.1.d7 h1 zyX7_resume lm_L_31 li_yX7_resume le_yX7_resume (As := []) (rest := []) (c_X7_resume (a := ac) hx.1 hx.acs.1 hx.acs.2 (fun _ => hfr.1 ac (Nat.le_refl _)) hx.c0) rfl rfl (Nat.le_of_ble_eq_true rfl) ⟨Nat.le_of_ble_eq_true rfl, Nat.le_of_ble_eq_true rfl⟩ ⟨by show cells + 1 ≤ 600000; omega, by show slots + 9 ≤ 7302250; omega⟩ dL_law_207 (fun r Zc1 S1 H locs hp w hS0 => ?_)
  obtain ⟨rfl, hS1, hz⟩ := hp
  subst hS1
  have h1 : Zc1.1 7 0 = a1 := hz.elim (fun q => by rw [q.1]; exact h1) (fun ⟨c, q1, q2, q3, q4, _⟩ => ((q4.1 7 0 (by omega)).1).trans h1)
  refine W.eq (g2 := F0 m 210 ls (.int _ :: [])) rfl ?_
  refine lv_aload_n hM.1 hM.2.1 dL_law_210 rfl (lv_at hl 1 rfl) ?_
  refine lawV hM (hml.trans hl.1.symm) w.swap hS0 zc8 hO.1 h2 zyX8_resume lm_L_35 li_yX8_resume le_yX8_resume (As := []) (rest := [.int _]) (c_X8_resume (hx.mI hO)) rfl rfl (Nat.le_of_ble_eq_true rfl) ⟨Nat.le_of_ble_eq_true rfl, Nat.le_of_ble_eq_true rfl⟩ ⟨by show cells + 1 + 0 ≤ 600000; omega, by show slots + 9 + 0 ≤ 7302250; omega⟩ dL_law_211 (fun r Zm1 M1 H locs hp w hS0 => ?_)
  obtain ⟨hr8, hz8, hs8⟩ := hp
  subst hr8
  rw [hz8, hs8] at w
  refine W.eq (g2 := F0 m 214 ls (.int _ :: [.int _])) rfl ?_
  obtain ⟨er, ac2, cn2, hx2, hf2⟩ := x_resume hx hz hfr
  refine lv_icmp_eq hM.1 hM.2.1 dL_law_214 (tgt := 761) (by decide) (fun _ => ?_) (fun h => absurd er h)
  refine W.widen (k := cells + 3) (n := slots + 19) (by show cells + 1 + 0 ≤ cells + 3; omega) (by show slots + 9 + 0 ≤ slots + 19; omega) ?_
  exact kk _ _ _ _ _ ⟨w.swap, ⟨tc, ac2, cn2, hx2, hf2⟩, hO.of kq_resume⟩ h1 hS0

set_option maxHeartbeats 400000 in
set_option maxRecDepth 100000 in
theorem law_read {p : Program} {l : Launch} {e : Env} {s : State} {m : MethodId} {below : List Frame} {meth : Method} {c : Code} {b L : Nat} {xs : Nat → Int32} {D : va_G} {ar : Nat → ClassId} {H : Heap} {locs : List Loc} {ls : Array Slot} {Zc Zm : zZ} {S M : zS} {n a1 a2 i cells slots : Nat} {Q : State → Prop} (hM : zM p c m #[Value.ref b] s code RL D ar) (hml : c.maxLocals = 4) (hX : va_X b L xs s s.heap) (hL : L ≤ 2049) (hi : i + 4 ≤ L) (I : lwI s.heap.size n D ar Zc Zm S M H) (h1 : Zc.1 7 0 = a1) (h2 : Zm.1 8 0 = a2) (hS0 : va_S (fun q => s.heap.size ≤ q) s.heap H locs) (hl : lv_has ls 4 [(3, .int (nI i)), (2, .ref a2), (1, .ref a1), (0, .ref b)]) (hc : cells + 3 ≤ 600000) (hs : slots + 19 ≤ 7302250)
    (kk : ∀ (Zc' : zZ) (S' M' : zS) (H1 : Heap) (locs1 : List Loc), lwI s.heap.size n D ar Zc' Zm S' M' H1 → Zc'.1 7 0 = a1 → va_S (fun q => s.heap.size ≤ q) s.heap H1 locs1 → W p l e room_1 s m #[Value.ref b] below meth c H1 locs1 (cells + 3) (slots + 19) Q (F0 m 761 ls [])) : W p l e room_1 s m #[Value.ref b] below meth c H locs cells slots Q (F0 m 219 ls []) := by
  obtain ⟨w, ⟨tc, ac, cn, hx, hfr⟩, hO⟩ := I
  have hbl := hX.lt
  have hbA : ¬ (fun q => s.heap.size ≤ q) b := Nat.not_le.mpr hbl
  have v1 : vp_in ((nI i) + (1)) L := law_in (k := 1) hi hL (by omega)
  have v2 : vp_in ((nI i) + (2)) L := law_in (k := 2) hi hL (by omega)
  have v3 : vp_in ((nI i) + (3)) L := law_in (k := 3) hi hL (by omega)
  refine lv_aload_n hM.1 hM.2.1 dL_law_219 rfl (lv_at hl 2 rfl) ?_
  refine lv_aload_n hM.1 hM.2.1 dL_law_220 rfl (lv_at hl 3 rfl) ?_
  refine lv_iload_n hM.1 hM.2.1 dL_law_221 rfl (lv_at hl 0 rfl) ?_
  refine lv_iconst (v := 1) hM.1 hM.2.1 dL_law_222 (by decide) ?_
  refine lv_iadd hM.1 hM.2.1 dL_law_223 ?_
  refine va_sld hM.1 hM.2.1 hX hbl hbA hS0 v1 dL_law_224 ?_
  refine lawV hM (hml.trans hl.1.symm) w hS0 zc7 hx.1.d7 h1 zyX7_read lm_L_36 li_yX7_read le_yX7_read (As := [.int (xs (ix ((nI i) + (1))))]) (rest := []) (c_X7_read (a := ac) hx.1 hx.acs.1 hx.acs.2 (fun _ => hfr.1 ac (Nat.le_refl _)) hx.c0) rfl rfl (Nat.le_of_ble_eq_true rfl) ⟨Nat.le_of_ble_eq_true rfl, Nat.le_of_ble_eq_true rfl⟩ ⟨by show cells + 1 ≤ 600000; omega, by show slots + 9 ≤ 7302250; omega⟩ dL_law_225 (fun r Zc1 S1 H locs hp w hS0 => ?_)
  obtain ⟨rfl, hS1, hz⟩ := hp
  subst hS1
  have h1 : Zc1.1 7 0 = a1 := hz.elim (fun q => by rw [q.1]; exact h1) (fun ⟨c, q1, q2, q3, q4, _⟩ => ((q4.1 7 0 (by omega)).1).trans h1)
  refine W.eq (g2 := F0 m 228 ls (.int _ :: [])) rfl ?_
  refine lv_aload_n hM.1 hM.2.1 dL_law_228 rfl (lv_at hl 1 rfl) ?_
  refine lv_aload_n hM.1 hM.2.1 dL_law_229 rfl (lv_at hl 3 rfl) ?_
  refine lv_iload_n hM.1 hM.2.1 dL_law_230 rfl (lv_at hl 0 rfl) ?_
  refine lv_iconst (v := 1) hM.1 hM.2.1 dL_law_231 (by decide) ?_
  refine lv_iadd hM.1 hM.2.1 dL_law_232 ?_
  refine va_sld hM.1 hM.2.1 hX hbl hbA hS0 v1 dL_law_233 ?_
  refine lawV hM (hml.trans hl.1.symm) w.swap hS0 zc8 hO.1 h2 zyX8_read lm_L_40 li_yX8_read le_yX8_read (As := [.int (xs (ix ((nI i) + (1))))]) (rest := [.int _]) (c_X8_read (hx.mI hO)) rfl rfl (Nat.le_of_ble_eq_true rfl) ⟨Nat.le_of_ble_eq_true rfl, Nat.le_of_ble_eq_true rfl⟩ ⟨by show cells + 1 + 0 ≤ 600000; omega, by show slots + 9 + 0 ≤ 7302250; omega⟩ dL_law_234 (fun r Zm1 M1 H locs hp w hS0 => ?_)
  obtain ⟨hr8, hz8, hs8⟩ := hp
  subst hr8
  rw [hz8, hs8] at w
  refine W.eq (g2 := F0 m 237 ls (.int _ :: [.int _])) rfl ?_
  obtain ⟨er, ac2, cn2, hx2, hf2⟩ := x_read hx (hz.imp id (fun ⟨c, q1, q2, q3, q4, _⟩ => ⟨c, q1, q2, q3, q4⟩)) hfr
  refine lv_icmp_eq hM.1 hM.2.1 dL_law_237 (tgt := 761) (by decide) (fun _ => ?_) (fun h => absurd er h)
  refine W.widen (k := cells + 3) (n := slots + 19) (by show cells + 1 + 0 ≤ cells + 3; omega) (by show slots + 9 + 0 ≤ slots + 19; omega) ?_
  exact kk _ _ _ _ _ ⟨w.swap, ⟨tc, ac2, cn2, hx2, hf2⟩, hO.of kq_read⟩ h1 hS0

set_option maxHeartbeats 400000 in
set_option maxRecDepth 100000 in
theorem law_write {p : Program} {l : Launch} {e : Env} {s : State} {m : MethodId} {below : List Frame} {meth : Method} {c : Code} {b L : Nat} {xs : Nat → Int32} {D : va_G} {ar : Nat → ClassId} {H : Heap} {locs : List Loc} {ls : Array Slot} {Zc Zm : zZ} {S M : zS} {n a1 a2 i cells slots : Nat} {Q : State → Prop} (hM : zM p c m #[Value.ref b] s code RL D ar) (hml : c.maxLocals = 4) (hX : va_X b L xs s s.heap) (hL : L ≤ 2049) (hi : i + 4 ≤ L) (I : lwI s.heap.size n D ar Zc Zm S M H) (h1 : Zc.1 7 0 = a1) (h2 : Zm.1 8 0 = a2) (hS0 : va_S (fun q => s.heap.size ≤ q) s.heap H locs) (hl : lv_has ls 4 [(3, .int (nI i)), (2, .ref a2), (1, .ref a1), (0, .ref b)]) (hc : cells + 3 ≤ 600000) (hs : slots + 19 ≤ 7302250)
    (kk : ∀ (Zc' : zZ) (S' M' : zS) (H1 : Heap) (locs1 : List Loc), lwI s.heap.size n D ar Zc' Zm S' M' H1 → Zc'.1 7 0 = a1 → va_S (fun q => s.heap.size ≤ q) s.heap H1 locs1 → W p l e room_1 s m #[Value.ref b] below meth c H1 locs1 (cells + 3) (slots + 19) Q (F0 m 761 ls [])) : W p l e room_1 s m #[Value.ref b] below meth c H locs cells slots Q (F0 m 242 ls []) := by
  obtain ⟨w, ⟨tc, ac, cn, hx, hfr⟩, hO⟩ := I
  have hbl := hX.lt
  have hbA : ¬ (fun q => s.heap.size ≤ q) b := Nat.not_le.mpr hbl
  have v1 : vp_in ((nI i) + (1)) L := law_in (k := 1) hi hL (by omega)
  have v2 : vp_in ((nI i) + (2)) L := law_in (k := 2) hi hL (by omega)
  have v3 : vp_in ((nI i) + (3)) L := law_in (k := 3) hi hL (by omega)
  refine lv_aload_n hM.1 hM.2.1 dL_law_242 rfl (lv_at hl 2 rfl) ?_
  refine lv_aload_n hM.1 hM.2.1 dL_law_243 rfl (lv_at hl 3 rfl) ?_
  refine lv_iload_n hM.1 hM.2.1 dL_law_244 rfl (lv_at hl 0 rfl) ?_
  refine lv_iconst (v := 1) hM.1 hM.2.1 dL_law_245 (by decide) ?_
  refine lv_iadd hM.1 hM.2.1 dL_law_246 ?_
  refine va_sld hM.1 hM.2.1 hX hbl hbA hS0 v1 dL_law_247 ?_
  refine lv_aload_n hM.1 hM.2.1 dL_law_248 rfl (lv_at hl 3 rfl) ?_
  refine lv_iload_n hM.1 hM.2.1 dL_law_249 rfl (lv_at hl 0 rfl) ?_
  refine lv_iconst (v := 2) hM.1 hM.2.1 dL_law_250 (by decide) ?_
  refine lv_iadd hM.1 hM.2.1 dL_law_251 ?_
  refine va_sld hM.1 hM.2.1 hX hbl hbA hS0 v2 dL_law_252 ?_
  refine lv_i2l hM.1 hM.2.1 dL_law_253 rfl ?_
  refine lv_bipush (v := 32) hM.1 hM.2.1 dL_law_254 (by decide) ?_
  refine lv_lshl hM.1 hM.2.1 dL_law_256 rfl ?_
  refine lv_aload_n hM.1 hM.2.1 dL_law_257 rfl (lv_at hl 3 rfl) ?_
  refine lv_iload_n hM.1 hM.2.1 dL_law_258 rfl (lv_at hl 0 rfl) ?_
  refine lv_iconst (v := 3) hM.1 hM.2.1 dL_law_259 (by decide) ?_
  refine lv_iadd hM.1 hM.2.1 dL_law_260 ?_
  refine va_sld hM.1 hM.2.1 hX hbl hbA hS0 v3 dL_law_261 ?_
  refine lv_i2l hM.1 hM.2.1 dL_law_262 rfl ?_
  refine lv_ldc2 hM.1 hM.2.1 hM.2.2.1 (hM.2.2.2.1 _ lq_long) dL_law_263 ?_
  refine lv_land hM.1 hM.2.1 dL_law_266 ?_
  refine lv_lor hM.1 hM.2.1 dL_law_267 ?_
  refine lawV hM (hml.trans hl.1.symm) w hS0 zc7 hx.1.d7 h1 zyX7_write lm_L_43 li_yX7_write le_yX7_write (As := [.int (xs (ix ((nI i) + (1)))), .long (((Int32.toInt64 (xs (ix ((nI i) + (2))))) <<< (Int32.toInt64 (32) &&& 63)) ||| ((Int32.toInt64 (xs (ix ((nI i) + (3))))) &&& (4294967295)))]) (rest := []) (c_X7_write (a := ac) hx.1 hx.acs.1 hx.acs.2 (fun _ => hfr.1 ac (Nat.le_refl _)) hx.c0) rfl rfl (Nat.le_of_ble_eq_true rfl) ⟨Nat.le_of_ble_eq_true rfl, Nat.le_of_ble_eq_true rfl⟩ ⟨by show cells + 1 ≤ 600000; omega, by show slots + 9 ≤ 7302250; omega⟩ dL_law_268 (fun r Zc1 S1 H locs hp w hS0 => ?_)
  obtain ⟨rfl, hS1, hz⟩ := hp
  subst hS1
  have h1 : Zc1.1 7 0 = a1 := hz.elim (fun q => by rw [q.1]; exact h1) (fun ⟨c, q1, q2, q3, q4, _⟩ => ((q4.1 7 0 (by omega)).1).trans h1)
  refine W.eq (g2 := F0 m 271 ls (.int _ :: [])) rfl ?_
  refine lv_aload_n hM.1 hM.2.1 dL_law_271 rfl (lv_at hl 1 rfl) ?_
  refine lv_aload_n hM.1 hM.2.1 dL_law_272 rfl (lv_at hl 3 rfl) ?_
  refine lv_iload_n hM.1 hM.2.1 dL_law_273 rfl (lv_at hl 0 rfl) ?_
  refine lv_iconst (v := 1) hM.1 hM.2.1 dL_law_274 (by decide) ?_
  refine lv_iadd hM.1 hM.2.1 dL_law_275 ?_
  refine va_sld hM.1 hM.2.1 hX hbl hbA hS0 v1 dL_law_276 ?_
  refine lv_aload_n hM.1 hM.2.1 dL_law_277 rfl (lv_at hl 3 rfl) ?_
  refine lv_iload_n hM.1 hM.2.1 dL_law_278 rfl (lv_at hl 0 rfl) ?_
  refine lv_iconst (v := 2) hM.1 hM.2.1 dL_law_279 (by decide) ?_
  refine lv_iadd hM.1 hM.2.1 dL_law_280 ?_
  refine va_sld hM.1 hM.2.1 hX hbl hbA hS0 v2 dL_law_281 ?_
  refine lv_i2l hM.1 hM.2.1 dL_law_282 rfl ?_
  refine lv_bipush (v := 32) hM.1 hM.2.1 dL_law_283 (by decide) ?_
  refine lv_lshl hM.1 hM.2.1 dL_law_285 rfl ?_
  refine lv_aload_n hM.1 hM.2.1 dL_law_286 rfl (lv_at hl 3 rfl) ?_
  refine lv_iload_n hM.1 hM.2.1 dL_law_287 rfl (lv_at hl 0 rfl) ?_
  refine lv_iconst (v := 3) hM.1 hM.2.1 dL_law_288 (by decide) ?_
  refine lv_iadd hM.1 hM.2.1 dL_law_289 ?_
  refine va_sld hM.1 hM.2.1 hX hbl hbA hS0 v3 dL_law_290 ?_
  refine lv_i2l hM.1 hM.2.1 dL_law_291 rfl ?_
  refine lv_ldc2 hM.1 hM.2.1 hM.2.2.1 (hM.2.2.2.1 _ lq_long) dL_law_292 ?_
  refine lv_land hM.1 hM.2.1 dL_law_295 ?_
  refine lv_lor hM.1 hM.2.1 dL_law_296 ?_
  refine lawV hM (hml.trans hl.1.symm) w.swap hS0 zc8 hO.1 h2 zyX8_write lm_L_47 li_yX8_write le_yX8_write (As := [.int (xs (ix ((nI i) + (1)))), .long (((Int32.toInt64 (xs (ix ((nI i) + (2))))) <<< (Int32.toInt64 (32) &&& 63)) ||| ((Int32.toInt64 (xs (ix ((nI i) + (3))))) &&& (4294967295)))]) (rest := [.int _]) (c_X8_write (hx.mI hO)) rfl rfl (Nat.le_of_ble_eq_true rfl) ⟨Nat.le_of_ble_eq_true rfl, Nat.le_of_ble_eq_true rfl⟩ ⟨by show cells + 1 + 0 ≤ 600000; omega, by show slots + 9 + 0 ≤ 7302250; omega⟩ dL_law_297 (fun r Zm1 M1 H locs hp w hS0 => ?_)
  obtain ⟨hr8, hz8, hs8⟩ := hp
  subst hr8
  rw [hz8, hs8] at w
  refine W.eq (g2 := F0 m 300 ls (.int _ :: [.int _])) rfl ?_
  obtain ⟨er, ac2, cn2, hx2, hf2⟩ := x_write hx (hz.imp id (fun ⟨c, q1, q2, q3, q4, _⟩ => ⟨c, q1, q2, q3, q4⟩)) hfr
  refine lv_icmp_eq hM.1 hM.2.1 dL_law_300 (tgt := 761) (by decide) (fun _ => ?_) (fun h => absurd er h)
  refine W.widen (k := cells + 3) (n := slots + 19) (by show cells + 1 + 0 ≤ cells + 3; omega) (by show slots + 9 + 0 ≤ slots + 19; omega) ?_
  exact kk _ _ _ _ _ ⟨w.swap, ⟨tc, ac2, cn2, hx2, hf2⟩, hO.of kq_write⟩ h1 hS0

set_option maxHeartbeats 400000 in
set_option maxRecDepth 100000 in
theorem law_again {p : Program} {l : Launch} {e : Env} {s : State} {m : MethodId} {below : List Frame} {meth : Method} {c : Code} {b L : Nat} {xs : Nat → Int32} {D : va_G} {ar : Nat → ClassId} {H : Heap} {locs : List Loc} {ls : Array Slot} {Zc Zm : zZ} {S M : zS} {n a1 a2 i cells slots : Nat} {Q : State → Prop} (hM : zM p c m #[Value.ref b] s code RL D ar) (hml : c.maxLocals = 4) (hX : va_X b L xs s s.heap) (hL : L ≤ 2049) (hi : i + 4 ≤ L) (I : lwI s.heap.size n D ar Zc Zm S M H) (h1 : Zc.1 7 0 = a1) (h2 : Zm.1 8 0 = a2) (hS0 : va_S (fun q => s.heap.size ≤ q) s.heap H locs) (hl : lv_has ls 4 [(3, .int (nI i)), (2, .ref a2), (1, .ref a1), (0, .ref b)]) (hc : cells + 3 ≤ 600000) (hs : slots + 19 ≤ 7302250)
    (kk : ∀ (Zc' : zZ) (S' M' : zS) (H1 : Heap) (locs1 : List Loc), lwI s.heap.size n D ar Zc' Zm S' M' H1 → Zc'.1 7 0 = a1 → va_S (fun q => s.heap.size ≤ q) s.heap H1 locs1 → W p l e room_1 s m #[Value.ref b] below meth c H1 locs1 (cells + 3) (slots + 19) Q (F0 m 761 ls [])) : W p l e room_1 s m #[Value.ref b] below meth c H locs cells slots Q (F0 m 305 ls []) := by
  obtain ⟨w, ⟨tc, ac, cn, hx, hfr⟩, hO⟩ := I
  have hbl := hX.lt
  have hbA : ¬ (fun q => s.heap.size ≤ q) b := Nat.not_le.mpr hbl
  have v1 : vp_in ((nI i) + (1)) L := law_in (k := 1) hi hL (by omega)
  have v2 : vp_in ((nI i) + (2)) L := law_in (k := 2) hi hL (by omega)
  have v3 : vp_in ((nI i) + (3)) L := law_in (k := 3) hi hL (by omega)
  refine lv_aload_n hM.1 hM.2.1 dL_law_305 rfl (lv_at hl 2 rfl) ?_
  refine lv_aload_n hM.1 hM.2.1 dL_law_306 rfl (lv_at hl 3 rfl) ?_
  refine lv_iload_n hM.1 hM.2.1 dL_law_307 rfl (lv_at hl 0 rfl) ?_
  refine lv_iconst (v := 1) hM.1 hM.2.1 dL_law_308 (by decide) ?_
  refine lv_iadd hM.1 hM.2.1 dL_law_309 ?_
  refine va_sld hM.1 hM.2.1 hX hbl hbA hS0 v1 dL_law_310 ?_
  refine lawV hM (hml.trans hl.1.symm) w hS0 zc7 hx.1.d7 h1 zyX7_again lm_L_48 li_yX7_again le_yX7_again (As := [.int (xs (ix ((nI i) + (1))))]) (rest := []) (c_X7_again hx.1 hx.c0) rfl rfl (Nat.le_of_ble_eq_true rfl) ⟨Nat.le_of_ble_eq_true rfl, Nat.le_of_ble_eq_true rfl⟩ ⟨by show cells + 0 ≤ 600000; omega, by show slots + 0 ≤ 7302250; omega⟩ dL_law_311 (fun r Zc1 S1 H locs hp w hS0 => ?_)
  obtain ⟨hr7, hz7, hs7⟩ := hp
  subst hr7
  rw [hz7, hs7] at w
  refine W.eq (g2 := F0 m 314 ls (.int _ :: [])) rfl ?_
  refine lv_aload_n hM.1 hM.2.1 dL_law_314 rfl (lv_at hl 1 rfl) ?_
  refine lv_aload_n hM.1 hM.2.1 dL_law_315 rfl (lv_at hl 3 rfl) ?_
  refine lv_iload_n hM.1 hM.2.1 dL_law_316 rfl (lv_at hl 0 rfl) ?_
  refine lv_iconst (v := 1) hM.1 hM.2.1 dL_law_317 (by decide) ?_
  refine lv_iadd hM.1 hM.2.1 dL_law_318 ?_
  refine va_sld hM.1 hM.2.1 hX hbl hbA hS0 v1 dL_law_319 ?_
  refine lawV hM (hml.trans hl.1.symm) w.swap hS0 zc8 hO.1 h2 zyX8_again lm_L_51 li_yX8_again le_yX8_again (As := [.int (xs (ix ((nI i) + (1))))]) (rest := [.int _]) (c_X8_again (hx.mI hO)) rfl rfl (Nat.le_of_ble_eq_true rfl) ⟨Nat.le_of_ble_eq_true rfl, Nat.le_of_ble_eq_true rfl⟩ ⟨by show cells + 0 + 0 ≤ 600000; omega, by show slots + 0 + 0 ≤ 7302250; omega⟩ dL_law_320 (fun r Zm1 M1 H locs hp w hS0 => ?_)
  obtain ⟨hr8, hz8, hs8⟩ := hp
  subst hr8
  rw [hz8, hs8] at w
  refine W.eq (g2 := F0 m 323 ls (.int _ :: [.int _])) rfl ?_
  obtain ⟨er, cn2, hx2⟩ := x_again (x := (xs (ix ((nI i) + (1))))) hx
  refine lv_icmp_eq hM.1 hM.2.1 dL_law_323 (tgt := 761) (by decide) (fun _ => ?_) (fun h => absurd er h)
  refine W.widen (k := cells + 3) (n := slots + 19) (by show cells + 0 + 0 ≤ cells + 3; omega) (by show slots + 0 + 0 ≤ slots + 19; omega) ?_
  exact kk _ _ _ _ _ ⟨w.swap, ⟨tc, ac, cn2, hx2, hfr⟩, hO.of kq_again⟩ h1 hS0

set_option maxHeartbeats 400000 in
set_option maxRecDepth 100000 in
theorem law_deliver {p : Program} {l : Launch} {e : Env} {s : State} {m : MethodId} {below : List Frame} {meth : Method} {c : Code} {b L : Nat} {xs : Nat → Int32} {D : va_G} {ar : Nat → ClassId} {H : Heap} {locs : List Loc} {ls : Array Slot} {Zc Zm : zZ} {S M : zS} {n a1 a2 i cells slots : Nat} {Q : State → Prop} (hM : zM p c m #[Value.ref b] s code RL D ar) (hml : c.maxLocals = 4) (hX : va_X b L xs s s.heap) (hL : L ≤ 2049) (hi : i + 4 ≤ L) (I : lwI s.heap.size n D ar Zc Zm S M H) (h1 : Zc.1 7 0 = a1) (h2 : Zm.1 8 0 = a2) (hS0 : va_S (fun q => s.heap.size ≤ q) s.heap H locs) (hl : lv_has ls 4 [(3, .int (nI i)), (2, .ref a2), (1, .ref a1), (0, .ref b)]) (hc : cells + 3 ≤ 600000) (hs : slots + 19 ≤ 7302250)
    (kk : ∀ (Zc' : zZ) (S' M' : zS) (H1 : Heap) (locs1 : List Loc), lwI s.heap.size n D ar Zc' Zm S' M' H1 → Zc'.1 7 0 = a1 → va_S (fun q => s.heap.size ≤ q) s.heap H1 locs1 → W p l e room_1 s m #[Value.ref b] below meth c H1 locs1 (cells + 3) (slots + 19) Q (F0 m 761 ls [])) : W p l e room_1 s m #[Value.ref b] below meth c H locs cells slots Q (F0 m 328 ls []) := by
  obtain ⟨w, ⟨tc, ac, cn, hx, hfr⟩, hO⟩ := I
  have hbl := hX.lt
  have hbA : ¬ (fun q => s.heap.size ≤ q) b := Nat.not_le.mpr hbl
  have v1 : vp_in ((nI i) + (1)) L := law_in (k := 1) hi hL (by omega)
  have v2 : vp_in ((nI i) + (2)) L := law_in (k := 2) hi hL (by omega)
  have v3 : vp_in ((nI i) + (3)) L := law_in (k := 3) hi hL (by omega)
  refine lv_aload_n hM.1 hM.2.1 dL_law_328 rfl (lv_at hl 2 rfl) ?_
  refine lv_aload_n hM.1 hM.2.1 dL_law_329 rfl (lv_at hl 3 rfl) ?_
  refine lv_iload_n hM.1 hM.2.1 dL_law_330 rfl (lv_at hl 0 rfl) ?_
  refine lv_iconst (v := 1) hM.1 hM.2.1 dL_law_331 (by decide) ?_
  refine lv_iadd hM.1 hM.2.1 dL_law_332 ?_
  refine va_sld hM.1 hM.2.1 hX hbl hbA hS0 v1 dL_law_333 ?_
  refine lawV hM (hml.trans hl.1.symm) w hS0 zc7 hx.1.d7 h1 zyX7_deliver lm_L_52 li_yX7_deliver le_yX7_deliver (As := [.int (xs (ix ((nI i) + (1))))]) (rest := []) (c_X7_deliver hx.cI) rfl rfl (Nat.le_of_ble_eq_true rfl) ⟨Nat.le_of_ble_eq_true rfl, Nat.le_of_ble_eq_true rfl⟩ ⟨by show cells + 0 ≤ 600000; omega, by show slots + 0 ≤ 7302250; omega⟩ dL_law_334 (fun r Zc1 S1 H locs hp w hS0 => ?_)
  obtain ⟨hr7, hz7, hs7⟩ := hp
  subst hr7
  rw [hz7, hs7] at w
  refine W.eq (g2 := F0 m 337 ls (.int _ :: [])) rfl ?_
  refine lv_aload_n hM.1 hM.2.1 dL_law_337 rfl (lv_at hl 1 rfl) ?_
  refine lv_aload_n hM.1 hM.2.1 dL_law_338 rfl (lv_at hl 3 rfl) ?_
  refine lv_iload_n hM.1 hM.2.1 dL_law_339 rfl (lv_at hl 0 rfl) ?_
  refine lv_iconst (v := 1) hM.1 hM.2.1 dL_law_340 (by decide) ?_
  refine lv_iadd hM.1 hM.2.1 dL_law_341 ?_
  refine va_sld hM.1 hM.2.1 hX hbl hbA hS0 v1 dL_law_342 ?_
  refine lawV hM (hml.trans hl.1.symm) w.swap hS0 zc8 hO.1 h2 zyX8_deliver lm_L_56 li_yX8_deliver le_yX8_deliver (As := [.int (xs (ix ((nI i) + (1))))]) (rest := [.int _]) (m_deliver hx hO) rfl rfl (Nat.le_of_ble_eq_true rfl) ⟨Nat.le_of_ble_eq_true rfl, Nat.le_of_ble_eq_true rfl⟩ ⟨by show cells + 0 + 0 ≤ 600000; omega, by show slots + 0 + 0 ≤ 7302250; omega⟩ dL_law_343 (fun r Zm1 M1 H locs hp w hS0 => ?_)
  obtain ⟨hr8, hz8, hs8⟩ := hp
  subst hr8
  rw [hz8, hs8] at w
  refine W.eq (g2 := F0 m 346 ls (.int _ :: [.int _])) rfl ?_
  obtain ⟨er, cn2, hx2⟩ := y_deliver (x := (xs (ix ((nI i) + (1))))) hx
  refine lv_icmp_eq hM.1 hM.2.1 dL_law_346 (tgt := 761) (by decide) (fun _ => ?_) (fun h => absurd er h)
  refine W.widen (k := cells + 3) (n := slots + 19) (by show cells + 0 + 0 ≤ cells + 3; omega) (by show slots + 0 + 0 ≤ slots + 19; omega) ?_
  exact kk _ _ _ _ _ ⟨w.swap, ⟨tc, ac, cn2, hx2, hfr⟩, hO.of (kq_air (kq_deliver rfl))⟩ h1 hS0

set_option maxHeartbeats 400000 in
set_option maxRecDepth 100000 in
theorem law_settle {p : Program} {l : Launch} {e : Env} {s : State} {m : MethodId} {below : List Frame} {meth : Method} {c : Code} {b L : Nat} {xs : Nat → Int32} {D : va_G} {ar : Nat → ClassId} {H : Heap} {locs : List Loc} {ls : Array Slot} {Zc Zm : zZ} {S M : zS} {n a1 a2 i cells slots : Nat} {Q : State → Prop} (hM : zM p c m #[Value.ref b] s code RL D ar) (hml : c.maxLocals = 4) (hX : va_X b L xs s s.heap) (hL : L ≤ 2049) (hi : i + 4 ≤ L) (I : lwI s.heap.size n D ar Zc Zm S M H) (h1 : Zc.1 7 0 = a1) (h2 : Zm.1 8 0 = a2) (hS0 : va_S (fun q => s.heap.size ≤ q) s.heap H locs) (hl : lv_has ls 4 [(3, .int (nI i)), (2, .ref a2), (1, .ref a1), (0, .ref b)]) (hc : cells + 3 ≤ 600000) (hs : slots + 19 ≤ 7302250)
    (kk : ∀ (Zc' : zZ) (S' M' : zS) (H1 : Heap) (locs1 : List Loc), lwI s.heap.size n D ar Zc' Zm S' M' H1 → Zc'.1 7 0 = a1 → va_S (fun q => s.heap.size ≤ q) s.heap H1 locs1 → W p l e room_1 s m #[Value.ref b] below meth c H1 locs1 (cells + 3) (slots + 19) Q (F0 m 761 ls [])) : W p l e room_1 s m #[Value.ref b] below meth c H locs cells slots Q (F0 m 351 ls []) := by
  obtain ⟨w, ⟨tc, ac, cn, hx, hfr⟩, hO⟩ := I
  have hbl := hX.lt
  have hbA : ¬ (fun q => s.heap.size ≤ q) b := Nat.not_le.mpr hbl
  have v1 : vp_in ((nI i) + (1)) L := law_in (k := 1) hi hL (by omega)
  have v2 : vp_in ((nI i) + (2)) L := law_in (k := 2) hi hL (by omega)
  have v3 : vp_in ((nI i) + (3)) L := law_in (k := 3) hi hL (by omega)
  refine lv_aload_n hM.1 hM.2.1 dL_law_351 rfl (lv_at hl 2 rfl) ?_
  refine lv_aload_n hM.1 hM.2.1 dL_law_352 rfl (lv_at hl 3 rfl) ?_
  refine lv_iload_n hM.1 hM.2.1 dL_law_353 rfl (lv_at hl 0 rfl) ?_
  refine lv_iconst (v := 1) hM.1 hM.2.1 dL_law_354 (by decide) ?_
  refine lv_iadd hM.1 hM.2.1 dL_law_355 ?_
  refine va_sld hM.1 hM.2.1 hX hbl hbA hS0 v1 dL_law_356 ?_
  refine lawV hM (hml.trans hl.1.symm) w hS0 zc7 hx.1.d7 h1 zyX7_settle lm_L_57 li_yX7_settle le_yX7_settle (As := [.int (xs (ix ((nI i) + (1))))]) (rest := []) (c_X7_settleP (P := setC n tc ac Zc) (fun T ⟨_, _, q⟩ => q.cI) ⟨cn, M, hx⟩ (fun T y q => setC_d q)) rfl rfl (Nat.le_of_ble_eq_true rfl) ⟨Nat.le_of_ble_eq_true rfl, Nat.le_of_ble_eq_true rfl⟩ ⟨by show cells + 0 ≤ 600000; omega, by show slots + 0 ≤ 7302250; omega⟩ dL_law_357 (fun r Zc1 S1 H locs hp w hS0 => ?_)
  obtain ⟨hr7, hz7, hs7⟩ := hp
  subst hr7
  rw [hz7, hs7] at w
  refine W.eq (g2 := F0 m 360 ls (.int _ :: [])) rfl ?_
  refine lv_aload_n hM.1 hM.2.1 dL_law_360 rfl (lv_at hl 1 rfl) ?_
  refine lv_aload_n hM.1 hM.2.1 dL_law_361 rfl (lv_at hl 3 rfl) ?_
  refine lv_iload_n hM.1 hM.2.1 dL_law_362 rfl (lv_at hl 0 rfl) ?_
  refine lv_iconst (v := 1) hM.1 hM.2.1 dL_law_363 (by decide) ?_
  refine lv_iadd hM.1 hM.2.1 dL_law_364 ?_
  refine va_sld hM.1 hM.2.1 hX hbl hbA hS0 v1 dL_law_365 ?_
  refine lawV hM (hml.trans hl.1.symm) w.swap hS0 zc8 hO.1 h2 zyX8_settle lm_L_60 li_yX8_settle le_yX8_settle (As := [.int (xs (ix ((nI i) + (1))))]) (rest := [.int _]) (c_X8_settleP (P := setM n tc ac Zc Zm) (fun T ⟨⟨_, _, q⟩, r⟩ => q.mI r) ⟨⟨cn, S, hx⟩, hO⟩ (fun T k q r => setM_d q r)) rfl rfl (Nat.le_of_ble_eq_true rfl) ⟨Nat.le_of_ble_eq_true rfl, Nat.le_of_ble_eq_true rfl⟩ ⟨by show cells + 0 + 0 ≤ 600000; omega, by show slots + 0 + 0 ≤ 7302250; omega⟩ dL_law_366 (fun r Zm1 M1 H locs hp w hS0 => ?_)
  obtain ⟨hr8, hz8, hs8⟩ := hp
  subst hr8
  rw [hz8, hs8] at w
  refine W.eq (g2 := F0 m 369 ls (.int _ :: [.int _])) rfl ?_
  obtain ⟨er, cn2, hx2⟩ := x_settle (x := (xs (ix ((nI i) + (1))))) hx
  refine lv_icmp_eq hM.1 hM.2.1 dL_law_369 (tgt := 761) (by decide) (fun _ => ?_) (fun h => absurd er h)
  refine W.widen (k := cells + 3) (n := slots + 19) (by show cells + 0 + 0 ≤ cells + 3; omega) (by show slots + 0 + 0 ≤ slots + 19; omega) ?_
  exact kk _ _ _ _ _ ⟨w.swap, ⟨tc, ac, cn2, hx2, hfr⟩, hO.of kq_settle⟩ h1 hS0

set_option maxHeartbeats 400000 in
set_option maxRecDepth 100000 in
theorem law_lose {p : Program} {l : Launch} {e : Env} {s : State} {m : MethodId} {below : List Frame} {meth : Method} {c : Code} {b L : Nat} {xs : Nat → Int32} {D : va_G} {ar : Nat → ClassId} {H : Heap} {locs : List Loc} {ls : Array Slot} {Zc Zm : zZ} {S M : zS} {n a1 a2 i cells slots : Nat} {Q : State → Prop} (hM : zM p c m #[Value.ref b] s code RL D ar) (hml : c.maxLocals = 4) (hX : va_X b L xs s s.heap) (hL : L ≤ 2049) (hi : i + 4 ≤ L) (I : lwI s.heap.size n D ar Zc Zm S M H) (h1 : Zc.1 7 0 = a1) (h2 : Zm.1 8 0 = a2) (hS0 : va_S (fun q => s.heap.size ≤ q) s.heap H locs) (hl : lv_has ls 4 [(3, .int (nI i)), (2, .ref a2), (1, .ref a1), (0, .ref b)]) (hc : cells + 3 ≤ 600000) (hs : slots + 19 ≤ 7302250)
    (kk : ∀ (Zc' : zZ) (S' M' : zS) (H1 : Heap) (locs1 : List Loc), lwI s.heap.size n D ar Zc' Zm S' M' H1 → Zc'.1 7 0 = a1 → va_S (fun q => s.heap.size ≤ q) s.heap H1 locs1 → W p l e room_1 s m #[Value.ref b] below meth c H1 locs1 (cells + 3) (slots + 19) Q (F0 m 761 ls [])) : W p l e room_1 s m #[Value.ref b] below meth c H locs cells slots Q (F0 m 374 ls []) := by
  obtain ⟨w, ⟨tc, ac, cn, hx, hfr⟩, hO⟩ := I
  have hbl := hX.lt
  have hbA : ¬ (fun q => s.heap.size ≤ q) b := Nat.not_le.mpr hbl
  have v1 : vp_in ((nI i) + (1)) L := law_in (k := 1) hi hL (by omega)
  have v2 : vp_in ((nI i) + (2)) L := law_in (k := 2) hi hL (by omega)
  have v3 : vp_in ((nI i) + (3)) L := law_in (k := 3) hi hL (by omega)
  refine lv_aload_n hM.1 hM.2.1 dL_law_374 rfl (lv_at hl 2 rfl) ?_
  refine lv_aload_n hM.1 hM.2.1 dL_law_375 rfl (lv_at hl 3 rfl) ?_
  refine lv_iload_n hM.1 hM.2.1 dL_law_376 rfl (lv_at hl 0 rfl) ?_
  refine lv_iconst (v := 1) hM.1 hM.2.1 dL_law_377 (by decide) ?_
  refine lv_iadd hM.1 hM.2.1 dL_law_378 ?_
  refine va_sld hM.1 hM.2.1 hX hbl hbA hS0 v1 dL_law_379 ?_
  refine lawV hM (hml.trans hl.1.symm) w hS0 zc7 hx.1.d7 h1 zyX7_lose lm_L_61 li_yX7_lose le_yX7_lose (As := [.int (xs (ix ((nI i) + (1))))]) (rest := []) (c_X7_lose hx.cI) rfl rfl (Nat.le_of_ble_eq_true rfl) ⟨Nat.le_of_ble_eq_true rfl, Nat.le_of_ble_eq_true rfl⟩ ⟨by show cells + 0 ≤ 600000; omega, by show slots + 0 ≤ 7302250; omega⟩ dL_law_380 (fun r Zc1 S1 H locs hp w hS0 => ?_)
  obtain ⟨hr7, hz7, hs7⟩ := hp
  subst hr7
  rw [hz7, hs7] at w
  refine W.eq (g2 := F0 m 383 ls (.int _ :: [])) rfl ?_
  refine lv_aload_n hM.1 hM.2.1 dL_law_383 rfl (lv_at hl 1 rfl) ?_
  refine lv_aload_n hM.1 hM.2.1 dL_law_384 rfl (lv_at hl 3 rfl) ?_
  refine lv_iload_n hM.1 hM.2.1 dL_law_385 rfl (lv_at hl 0 rfl) ?_
  refine lv_iconst (v := 1) hM.1 hM.2.1 dL_law_386 (by decide) ?_
  refine lv_iadd hM.1 hM.2.1 dL_law_387 ?_
  refine va_sld hM.1 hM.2.1 hX hbl hbA hS0 v1 dL_law_388 ?_
  refine lawV hM (hml.trans hl.1.symm) w.swap hS0 zc8 hO.1 h2 zyX8_lose lm_L_64 li_yX8_lose le_yX8_lose (As := [.int (xs (ix ((nI i) + (1))))]) (rest := [.int _]) (m_lose hx hO) rfl rfl (Nat.le_of_ble_eq_true rfl) ⟨Nat.le_of_ble_eq_true rfl, Nat.le_of_ble_eq_true rfl⟩ ⟨by show cells + 0 + 0 ≤ 600000; omega, by show slots + 0 + 0 ≤ 7302250; omega⟩ dL_law_389 (fun r Zm1 M1 H locs hp w hS0 => ?_)
  obtain ⟨hr8, hz8, hs8⟩ := hp
  subst hr8
  rw [hz8, hs8] at w
  refine W.eq (g2 := F0 m 392 ls (.int _ :: [.int _])) rfl ?_
  obtain ⟨er, cn2, hx2⟩ := y_lose (x := (xs (ix ((nI i) + (1))))) hx
  refine lv_icmp_eq hM.1 hM.2.1 dL_law_392 (tgt := 761) (by decide) (fun _ => ?_) (fun h => absurd er h)
  refine W.widen (k := cells + 3) (n := slots + 19) (by show cells + 0 + 0 ≤ cells + 3; omega) (by show slots + 0 + 0 ≤ slots + 19; omega) ?_
  exact kk _ _ _ _ _ ⟨w.swap, ⟨tc, ac, cn2, hx2, hfr⟩, hO.of (kq_air kq_lose)⟩ h1 hS0

set_option maxHeartbeats 400000 in
set_option maxRecDepth 100000 in
theorem law_twice {p : Program} {l : Launch} {e : Env} {s : State} {m : MethodId} {below : List Frame} {meth : Method} {c : Code} {b L : Nat} {xs : Nat → Int32} {D : va_G} {ar : Nat → ClassId} {H : Heap} {locs : List Loc} {ls : Array Slot} {Zc Zm : zZ} {S M : zS} {n a1 a2 i cells slots : Nat} {Q : State → Prop} (hM : zM p c m #[Value.ref b] s code RL D ar) (hml : c.maxLocals = 4) (hX : va_X b L xs s s.heap) (hL : L ≤ 2049) (hi : i + 4 ≤ L) (I : lwI s.heap.size n D ar Zc Zm S M H) (h1 : Zc.1 7 0 = a1) (h2 : Zm.1 8 0 = a2) (hS0 : va_S (fun q => s.heap.size ≤ q) s.heap H locs) (hl : lv_has ls 4 [(3, .int (nI i)), (2, .ref a2), (1, .ref a1), (0, .ref b)]) (hc : cells + 3 ≤ 600000) (hs : slots + 19 ≤ 7302250)
    (kk : ∀ (Zc' : zZ) (S' M' : zS) (H1 : Heap) (locs1 : List Loc), lwI s.heap.size n D ar Zc' Zm S' M' H1 → Zc'.1 7 0 = a1 → va_S (fun q => s.heap.size ≤ q) s.heap H1 locs1 → W p l e room_1 s m #[Value.ref b] below meth c H1 locs1 (cells + 3) (slots + 19) Q (F0 m 761 ls [])) : W p l e room_1 s m #[Value.ref b] below meth c H locs cells slots Q (F0 m 397 ls []) := by
  obtain ⟨w, ⟨tc, ac, cn, hx, hfr⟩, hO⟩ := I
  have hbl := hX.lt
  have hbA : ¬ (fun q => s.heap.size ≤ q) b := Nat.not_le.mpr hbl
  have v1 : vp_in ((nI i) + (1)) L := law_in (k := 1) hi hL (by omega)
  have v2 : vp_in ((nI i) + (2)) L := law_in (k := 2) hi hL (by omega)
  have v3 : vp_in ((nI i) + (3)) L := law_in (k := 3) hi hL (by omega)
  refine lv_aload_n hM.1 hM.2.1 dL_law_397 rfl (lv_at hl 2 rfl) ?_
  refine lv_aload_n hM.1 hM.2.1 dL_law_398 rfl (lv_at hl 3 rfl) ?_
  refine lv_iload_n hM.1 hM.2.1 dL_law_399 rfl (lv_at hl 0 rfl) ?_
  refine lv_iconst (v := 1) hM.1 hM.2.1 dL_law_400 (by decide) ?_
  refine lv_iadd hM.1 hM.2.1 dL_law_401 ?_
  refine va_sld hM.1 hM.2.1 hX hbl hbA hS0 v1 dL_law_402 ?_
  refine lawV hM (hml.trans hl.1.symm) w hS0 zc7 hx.1.d7 h1 zyX7_twice lm_L_65 li_yX7_twice le_yX7_twice (As := [.int (xs (ix ((nI i) + (1))))]) (rest := []) (c_X7_twice hx.1 hx.c0 hx.cI.2.2) rfl rfl (Nat.le_of_ble_eq_true rfl) ⟨Nat.le_of_ble_eq_true rfl, Nat.le_of_ble_eq_true rfl⟩ ⟨by show cells + 0 ≤ 600000; omega, by show slots + 0 ≤ 7302250; omega⟩ dL_law_403 (fun r Zc1 S1 H locs hp w hS0 => ?_)
  obtain ⟨hr7, hz7, hs7⟩ := hp
  subst hr7
  rw [hz7, hs7] at w
  refine W.eq (g2 := F0 m 406 ls (.int _ :: [])) rfl ?_
  refine lv_aload_n hM.1 hM.2.1 dL_law_406 rfl (lv_at hl 1 rfl) ?_
  refine lv_aload_n hM.1 hM.2.1 dL_law_407 rfl (lv_at hl 3 rfl) ?_
  refine lv_iload_n hM.1 hM.2.1 dL_law_408 rfl (lv_at hl 0 rfl) ?_
  refine lv_iconst (v := 1) hM.1 hM.2.1 dL_law_409 (by decide) ?_
  refine lv_iadd hM.1 hM.2.1 dL_law_410 ?_
  refine va_sld hM.1 hM.2.1 hX hbl hbA hS0 v1 dL_law_411 ?_
  refine lawV hM (hml.trans hl.1.symm) w.swap hS0 zc8 hO.1 h2 zyX8_twice lm_L_68 li_yX8_twice le_yX8_twice (As := [.int (xs (ix ((nI i) + (1))))]) (rest := [.int _]) (m_twice hx hO) rfl rfl (Nat.le_of_ble_eq_true rfl) ⟨Nat.le_of_ble_eq_true rfl, Nat.le_of_ble_eq_true rfl⟩ ⟨by show cells + 0 + 0 ≤ 600000; omega, by show slots + 0 + 0 ≤ 7302250; omega⟩ dL_law_412 (fun r Zm1 M1 H locs hp w hS0 => ?_)
  obtain ⟨hr8, hz8, hs8⟩ := hp
  subst hr8
  rw [hz8, hs8] at w
  refine W.eq (g2 := F0 m 415 ls (.int _ :: [.int _])) rfl ?_
  obtain ⟨er, cn2, hx2⟩ := y_twice (x := (xs (ix ((nI i) + (1))))) hx
  refine lv_icmp_eq hM.1 hM.2.1 dL_law_415 (tgt := 761) (by decide) (fun _ => ?_) (fun h => absurd er h)
  refine W.widen (k := cells + 3) (n := slots + 19) (by show cells + 0 + 0 ≤ cells + 3; omega) (by show slots + 0 + 0 ≤ slots + 19; omega) ?_
  exact kk _ _ _ _ _ ⟨w.swap, ⟨tc, ac, cn2, hx2, hfr⟩, hO.of (kq_air kq_twice)⟩ h1 hS0

set_option maxHeartbeats 400000 in
set_option maxRecDepth 100000 in
theorem law_silent {p : Program} {l : Launch} {e : Env} {s : State} {m : MethodId} {below : List Frame} {meth : Method} {c : Code} {b L : Nat} {xs : Nat → Int32} {D : va_G} {ar : Nat → ClassId} {H : Heap} {locs : List Loc} {ls : Array Slot} {Zc Zm : zZ} {S M : zS} {n a1 a2 i cells slots : Nat} {Q : State → Prop} (hM : zM p c m #[Value.ref b] s code RL D ar) (hml : c.maxLocals = 4) (hX : va_X b L xs s s.heap) (hL : L ≤ 2049) (hi : i + 4 ≤ L) (I : lwI s.heap.size n D ar Zc Zm S M H) (h1 : Zc.1 7 0 = a1) (h2 : Zm.1 8 0 = a2) (hS0 : va_S (fun q => s.heap.size ≤ q) s.heap H locs) (hl : lv_has ls 4 [(3, .int (nI i)), (2, .ref a2), (1, .ref a1), (0, .ref b)]) (hc : cells + 3 ≤ 600000) (hs : slots + 19 ≤ 7302250)
    (kk : ∀ (Zc' : zZ) (S' M' : zS) (H1 : Heap) (locs1 : List Loc), lwI s.heap.size n D ar Zc' Zm S' M' H1 → Zc'.1 7 0 = a1 → va_S (fun q => s.heap.size ≤ q) s.heap H1 locs1 → W p l e room_1 s m #[Value.ref b] below meth c H1 locs1 (cells + 3) (slots + 19) Q (F0 m 761 ls [])) : W p l e room_1 s m #[Value.ref b] below meth c H locs cells slots Q (F0 m 420 ls []) := by
  obtain ⟨w, ⟨tc, ac, cn, hx, hfr⟩, hO⟩ := I
  have hbl := hX.lt
  have hbA : ¬ (fun q => s.heap.size ≤ q) b := Nat.not_le.mpr hbl
  have v1 : vp_in ((nI i) + (1)) L := law_in (k := 1) hi hL (by omega)
  have v2 : vp_in ((nI i) + (2)) L := law_in (k := 2) hi hL (by omega)
  have v3 : vp_in ((nI i) + (3)) L := law_in (k := 3) hi hL (by omega)
  refine lv_aload_n hM.1 hM.2.1 dL_law_420 rfl (lv_at hl 2 rfl) ?_
  refine lv_aload_n hM.1 hM.2.1 dL_law_421 rfl (lv_at hl 3 rfl) ?_
  refine lv_iload_n hM.1 hM.2.1 dL_law_422 rfl (lv_at hl 0 rfl) ?_
  refine lv_iconst (v := 1) hM.1 hM.2.1 dL_law_423 (by decide) ?_
  refine lv_iadd hM.1 hM.2.1 dL_law_424 ?_
  refine va_sld hM.1 hM.2.1 hX hbl hbA hS0 v1 dL_law_425 ?_
  refine lv_aload_n hM.1 hM.2.1 dL_law_426 rfl (lv_at hl 3 rfl) ?_
  refine lv_iload_n hM.1 hM.2.1 dL_law_427 rfl (lv_at hl 0 rfl) ?_
  refine lv_iconst (v := 2) hM.1 hM.2.1 dL_law_428 (by decide) ?_
  refine lv_iadd hM.1 hM.2.1 dL_law_429 ?_
  refine va_sld hM.1 hM.2.1 hX hbl hbA hS0 v2 dL_law_430 ?_
  refine lv_if_eq hM.1 hM.2.1 dL_law_431 (tgt := 438) (by decide) (fun h9 => ?_) (fun h9 => ?_)
  ·
    refine lv_iconst (v := 0) hM.1 hM.2.1 dL_law_438 (by decide) ?_
    refine lawV hM (hml.trans hl.1.symm) w hS0 zc7 hx.1.d7 h1 zyX7_silent lm_L_69 li_yX7_silent le_yX7_silent (As := [.int (xs (ix ((nI i) + (1)))), .int (0)]) (rest := []) (c_X7_silent hx.1 isB_0) rfl rfl (Nat.le_of_ble_eq_true rfl) ⟨Nat.le_of_ble_eq_true rfl, Nat.le_of_ble_eq_true rfl⟩ ⟨by show cells + 0 ≤ 600000; omega, by show slots + 0 ≤ 7302250; omega⟩ dL_law_439 (fun r Zc1 S1 H locs hp w hS0 => ?_)
    obtain ⟨hr7, hz7, hs7⟩ := hp
    subst hr7
    rw [hz7, hs7] at w
    refine W.eq (g2 := F0 m 442 ls (.int _ :: [])) rfl ?_
    refine lv_aload_n hM.1 hM.2.1 dL_law_442 rfl (lv_at hl 1 rfl) ?_
    refine lv_aload_n hM.1 hM.2.1 dL_law_443 rfl (lv_at hl 3 rfl) ?_
    refine lv_iload_n hM.1 hM.2.1 dL_law_444 rfl (lv_at hl 0 rfl) ?_
    refine lv_iconst (v := 1) hM.1 hM.2.1 dL_law_445 (by decide) ?_
    refine lv_iadd hM.1 hM.2.1 dL_law_446 ?_
    refine va_sld hM.1 hM.2.1 hX hbl hbA hS0 v1 dL_law_447 ?_
    refine lv_aload_n hM.1 hM.2.1 dL_law_448 rfl (lv_at hl 3 rfl) ?_
    refine lv_iload_n hM.1 hM.2.1 dL_law_449 rfl (lv_at hl 0 rfl) ?_
    refine lv_iconst (v := 2) hM.1 hM.2.1 dL_law_450 (by decide) ?_
    refine lv_iadd hM.1 hM.2.1 dL_law_451 ?_
    refine va_sld hM.1 hM.2.1 hX hbl hbA hS0 v2 dL_law_452 ?_
    refine lv_if_eq hM.1 hM.2.1 dL_law_453 (tgt := 460) (by decide) (fun _ => ?_) (fun h => absurd h9 h)
    refine lv_iconst (v := 0) hM.1 hM.2.1 dL_law_460 (by decide) ?_
    refine lawV hM (hml.trans hl.1.symm) w.swap hS0 zc8 hO.1 h2 zyX8_silent lm_L_73 li_yX8_silent le_yX8_silent (As := [.int (xs (ix ((nI i) + (1)))), .int (0)]) (rest := [.int _]) (c_X8_silent hO hx.mn hx.n7 isB_0) rfl rfl (Nat.le_of_ble_eq_true rfl) ⟨Nat.le_of_ble_eq_true rfl, Nat.le_of_ble_eq_true rfl⟩ ⟨by show cells + 0 + 0 ≤ 600000; omega, by show slots + 0 + 0 ≤ 7302250; omega⟩ dL_law_461 (fun r Zm1 M1 H locs hp w hS0 => ?_)
    obtain ⟨hr8, hz8, hs8⟩ := hp
    subst hr8
    rw [hz8, hs8] at w
    refine W.eq (g2 := F0 m 464 ls (.int _ :: [.int _])) rfl ?_
    obtain ⟨er, hx2⟩ := x_silent (x := (xs (ix ((nI i) + (1))))) (y := 0) hx
    refine lv_icmp_eq hM.1 hM.2.1 dL_law_464 (tgt := 761) (by decide) (fun _ => ?_) (fun h => absurd er h)
    refine W.widen (k := cells + 3) (n := slots + 19) (by show cells + 0 + 0 ≤ cells + 3; omega) (by show slots + 0 + 0 ≤ slots + 19; omega) ?_
    exact kk _ _ _ _ _ ⟨w.swap, ⟨tc, ac, cn, hx2, hfr⟩, hO.of k_X8_silent⟩ h1 hS0
  ·
    refine lv_iconst (v := 1) hM.1 hM.2.1 dL_law_434 (by decide) ?_
    refine lv_goto hM.1 hM.2.1 dL_law_435 (tgt := 439) (by decide) ?_
    refine lawV hM (hml.trans hl.1.symm) w hS0 zc7 hx.1.d7 h1 zyX7_silent lm_L_69 li_yX7_silent le_yX7_silent (As := [.int (xs (ix ((nI i) + (1)))), .int (1)]) (rest := []) (c_X7_silent hx.1 isB_1) rfl rfl (Nat.le_of_ble_eq_true rfl) ⟨Nat.le_of_ble_eq_true rfl, Nat.le_of_ble_eq_true rfl⟩ ⟨by show cells + 0 ≤ 600000; omega, by show slots + 0 ≤ 7302250; omega⟩ dL_law_439 (fun r Zc1 S1 H locs hp w hS0 => ?_)
    obtain ⟨hr7, hz7, hs7⟩ := hp
    subst hr7
    rw [hz7, hs7] at w
    refine W.eq (g2 := F0 m 442 ls (.int _ :: [])) rfl ?_
    refine lv_aload_n hM.1 hM.2.1 dL_law_442 rfl (lv_at hl 1 rfl) ?_
    refine lv_aload_n hM.1 hM.2.1 dL_law_443 rfl (lv_at hl 3 rfl) ?_
    refine lv_iload_n hM.1 hM.2.1 dL_law_444 rfl (lv_at hl 0 rfl) ?_
    refine lv_iconst (v := 1) hM.1 hM.2.1 dL_law_445 (by decide) ?_
    refine lv_iadd hM.1 hM.2.1 dL_law_446 ?_
    refine va_sld hM.1 hM.2.1 hX hbl hbA hS0 v1 dL_law_447 ?_
    refine lv_aload_n hM.1 hM.2.1 dL_law_448 rfl (lv_at hl 3 rfl) ?_
    refine lv_iload_n hM.1 hM.2.1 dL_law_449 rfl (lv_at hl 0 rfl) ?_
    refine lv_iconst (v := 2) hM.1 hM.2.1 dL_law_450 (by decide) ?_
    refine lv_iadd hM.1 hM.2.1 dL_law_451 ?_
    refine va_sld hM.1 hM.2.1 hX hbl hbA hS0 v2 dL_law_452 ?_
    refine lv_if_eq hM.1 hM.2.1 dL_law_453 (tgt := 460) (by decide) (fun h => absurd h h9) (fun _ => ?_)
    refine lv_iconst (v := 1) hM.1 hM.2.1 dL_law_456 (by decide) ?_
    refine lv_goto hM.1 hM.2.1 dL_law_457 (tgt := 461) (by decide) ?_
    refine lawV hM (hml.trans hl.1.symm) w.swap hS0 zc8 hO.1 h2 zyX8_silent lm_L_73 li_yX8_silent le_yX8_silent (As := [.int (xs (ix ((nI i) + (1)))), .int (1)]) (rest := [.int _]) (c_X8_silent hO hx.mn hx.n7 isB_1) rfl rfl (Nat.le_of_ble_eq_true rfl) ⟨Nat.le_of_ble_eq_true rfl, Nat.le_of_ble_eq_true rfl⟩ ⟨by show cells + 0 + 0 ≤ 600000; omega, by show slots + 0 + 0 ≤ 7302250; omega⟩ dL_law_461 (fun r Zm1 M1 H locs hp w hS0 => ?_)
    obtain ⟨hr8, hz8, hs8⟩ := hp
    subst hr8
    rw [hz8, hs8] at w
    refine W.eq (g2 := F0 m 464 ls (.int _ :: [.int _])) rfl ?_
    obtain ⟨er, hx2⟩ := x_silent (x := (xs (ix ((nI i) + (1))))) (y := 1) hx
    refine lv_icmp_eq hM.1 hM.2.1 dL_law_464 (tgt := 761) (by decide) (fun _ => ?_) (fun h => absurd er h)
    refine W.widen (k := cells + 3) (n := slots + 19) (by show cells + 0 + 0 ≤ cells + 3; omega) (by show slots + 0 + 0 ≤ slots + 19; omega) ?_
    exact kk _ _ _ _ _ ⟨w.swap, ⟨tc, ac, cn, hx2, hfr⟩, hO.of k_X8_silent⟩ h1 hS0

set_option maxHeartbeats 400000 in
set_option maxRecDepth 100000 in
theorem law_side {p : Program} {l : Launch} {e : Env} {s : State} {m : MethodId} {below : List Frame} {meth : Method} {c : Code} {b L : Nat} {xs : Nat → Int32} {D : va_G} {ar : Nat → ClassId} {H : Heap} {locs : List Loc} {ls : Array Slot} {Zc Zm : zZ} {S M : zS} {n a1 a2 i cells slots : Nat} {Q : State → Prop} (hM : zM p c m #[Value.ref b] s code RL D ar) (hml : c.maxLocals = 4) (hX : va_X b L xs s s.heap) (hL : L ≤ 2049) (hi : i + 4 ≤ L) (I : lwI s.heap.size n D ar Zc Zm S M H) (h1 : Zc.1 7 0 = a1) (h2 : Zm.1 8 0 = a2) (hS0 : va_S (fun q => s.heap.size ≤ q) s.heap H locs) (hl : lv_has ls 4 [(3, .int (nI i)), (2, .ref a2), (1, .ref a1), (0, .ref b)]) (hc : cells + 3 ≤ 600000) (hs : slots + 19 ≤ 7302250)
    (kk : ∀ (Zc' : zZ) (S' M' : zS) (H1 : Heap) (locs1 : List Loc), lwI s.heap.size n D ar Zc' Zm S' M' H1 → Zc'.1 7 0 = a1 → va_S (fun q => s.heap.size ≤ q) s.heap H1 locs1 → W p l e room_1 s m #[Value.ref b] below meth c H1 locs1 (cells + 3) (slots + 19) Q (F0 m 761 ls [])) : W p l e room_1 s m #[Value.ref b] below meth c H locs cells slots Q (F0 m 469 ls []) := by
  obtain ⟨w, ⟨tc, ac, cn, hx, hfr⟩, hO⟩ := I
  have hbl := hX.lt
  have hbA : ¬ (fun q => s.heap.size ≤ q) b := Nat.not_le.mpr hbl
  have v1 : vp_in ((nI i) + (1)) L := law_in (k := 1) hi hL (by omega)
  have v2 : vp_in ((nI i) + (2)) L := law_in (k := 2) hi hL (by omega)
  have v3 : vp_in ((nI i) + (3)) L := law_in (k := 3) hi hL (by omega)
  refine lv_aload_n hM.1 hM.2.1 dL_law_469 rfl (lv_at hl 2 rfl) ?_
  refine lv_aload_n hM.1 hM.2.1 dL_law_470 rfl (lv_at hl 3 rfl) ?_
  refine lv_iload_n hM.1 hM.2.1 dL_law_471 rfl (lv_at hl 0 rfl) ?_
  refine lv_iconst (v := 1) hM.1 hM.2.1 dL_law_472 (by decide) ?_
  refine lv_iadd hM.1 hM.2.1 dL_law_473 ?_
  refine va_sld hM.1 hM.2.1 hX hbl hbA hS0 v1 dL_law_474 ?_
  refine lv_aload_n hM.1 hM.2.1 dL_law_475 rfl (lv_at hl 3 rfl) ?_
  refine lv_iload_n hM.1 hM.2.1 dL_law_476 rfl (lv_at hl 0 rfl) ?_
  refine lv_iconst (v := 2) hM.1 hM.2.1 dL_law_477 (by decide) ?_
  refine lv_iadd hM.1 hM.2.1 dL_law_478 ?_
  refine va_sld hM.1 hM.2.1 hX hbl hbA hS0 v2 dL_law_479 ?_
  refine lawV hM (hml.trans hl.1.symm) w hS0 zc7 hx.1.d7 h1 zyX7_side lm_L_74 li_yX7_side le_yX7_side (As := [.int (xs (ix ((nI i) + (1)))), .int (xs (ix ((nI i) + (2))))]) (rest := []) (c_X7_side hx.1) rfl rfl (Nat.le_of_ble_eq_true rfl) ⟨Nat.le_of_ble_eq_true rfl, Nat.le_of_ble_eq_true rfl⟩ ⟨by show cells + 0 ≤ 600000; omega, by show slots + 0 ≤ 7302250; omega⟩ dL_law_480 (fun r Zc1 S1 H locs hp w hS0 => ?_)
  obtain ⟨hr7, hz7, hs7⟩ := hp
  subst hr7
  rw [hz7, hs7] at w
  refine W.eq (g2 := F0 m 483 ls (.int _ :: [])) rfl ?_
  refine lv_aload_n hM.1 hM.2.1 dL_law_483 rfl (lv_at hl 1 rfl) ?_
  refine lv_aload_n hM.1 hM.2.1 dL_law_484 rfl (lv_at hl 3 rfl) ?_
  refine lv_iload_n hM.1 hM.2.1 dL_law_485 rfl (lv_at hl 0 rfl) ?_
  refine lv_iconst (v := 1) hM.1 hM.2.1 dL_law_486 (by decide) ?_
  refine lv_iadd hM.1 hM.2.1 dL_law_487 ?_
  refine va_sld hM.1 hM.2.1 hX hbl hbA hS0 v1 dL_law_488 ?_
  refine lv_aload_n hM.1 hM.2.1 dL_law_489 rfl (lv_at hl 3 rfl) ?_
  refine lv_iload_n hM.1 hM.2.1 dL_law_490 rfl (lv_at hl 0 rfl) ?_
  refine lv_iconst (v := 2) hM.1 hM.2.1 dL_law_491 (by decide) ?_
  refine lv_iadd hM.1 hM.2.1 dL_law_492 ?_
  refine va_sld hM.1 hM.2.1 hX hbl hbA hS0 v2 dL_law_493 ?_
  refine lawV hM (hml.trans hl.1.symm) w.swap hS0 zc8 hO.1 h2 zyX8_side lm_L_77 li_yX8_side le_yX8_side (As := [.int (xs (ix ((nI i) + (1)))), .int (xs (ix ((nI i) + (2))))]) (rest := [.int _]) (c_X8_side hO hx.mn hx.n7) rfl rfl (Nat.le_of_ble_eq_true rfl) ⟨Nat.le_of_ble_eq_true rfl, Nat.le_of_ble_eq_true rfl⟩ ⟨by show cells + 0 + 0 ≤ 600000; omega, by show slots + 0 + 0 ≤ 7302250; omega⟩ dL_law_494 (fun r Zm1 M1 H locs hp w hS0 => ?_)
  obtain ⟨hr8, hz8, hs8⟩ := hp
  subst hr8
  rw [hz8, hs8] at w
  refine W.eq (g2 := F0 m 497 ls (.int _ :: [.int _])) rfl ?_
  obtain ⟨er, hx2⟩ := x_side (x := (xs (ix ((nI i) + (1))))) (y := (xs (ix ((nI i) + (2))))) hx
  refine lv_icmp_eq hM.1 hM.2.1 dL_law_497 (tgt := 761) (by decide) (fun _ => ?_) (fun h => absurd er h)
  refine W.widen (k := cells + 3) (n := slots + 19) (by show cells + 0 + 0 ≤ cells + 3; omega) (by show slots + 0 + 0 ≤ slots + 19; omega) ?_
  exact kk _ _ _ _ _ ⟨w.swap, ⟨tc, ac, cn, hx2, hfr⟩, hO.of k_X8_side⟩ h1 hS0

set_option maxHeartbeats 400000 in
set_option maxRecDepth 100000 in
theorem law_halt {p : Program} {l : Launch} {e : Env} {s : State} {m : MethodId} {below : List Frame} {meth : Method} {c : Code} {b L : Nat} {xs : Nat → Int32} {D : va_G} {ar : Nat → ClassId} {H : Heap} {locs : List Loc} {ls : Array Slot} {Zc Zm : zZ} {S M : zS} {n a1 a2 i cells slots : Nat} {Q : State → Prop} (hM : zM p c m #[Value.ref b] s code RL D ar) (hml : c.maxLocals = 4) (hX : va_X b L xs s s.heap) (hL : L ≤ 2049) (hi : i + 4 ≤ L) (I : lwI s.heap.size n D ar Zc Zm S M H) (h1 : Zc.1 7 0 = a1) (h2 : Zm.1 8 0 = a2) (hS0 : va_S (fun q => s.heap.size ≤ q) s.heap H locs) (hl : lv_has ls 4 [(3, .int (nI i)), (2, .ref a2), (1, .ref a1), (0, .ref b)]) (hc : cells + 3 ≤ 600000) (hs : slots + 19 ≤ 7302250)
    (kk : ∀ (Zc' : zZ) (S' M' : zS) (H1 : Heap) (locs1 : List Loc), lwI s.heap.size n D ar Zc' Zm S' M' H1 → Zc'.1 7 0 = a1 → va_S (fun q => s.heap.size ≤ q) s.heap H1 locs1 → W p l e room_1 s m #[Value.ref b] below meth c H1 locs1 (cells + 3) (slots + 19) Q (F0 m 761 ls [])) : W p l e room_1 s m #[Value.ref b] below meth c H locs cells slots Q (F0 m 502 ls []) := by
  obtain ⟨w, ⟨tc, ac, cn, hx, hfr⟩, hO⟩ := I
  have hbl := hX.lt
  have hbA : ¬ (fun q => s.heap.size ≤ q) b := Nat.not_le.mpr hbl
  have v1 : vp_in ((nI i) + (1)) L := law_in (k := 1) hi hL (by omega)
  have v2 : vp_in ((nI i) + (2)) L := law_in (k := 2) hi hL (by omega)
  have v3 : vp_in ((nI i) + (3)) L := law_in (k := 3) hi hL (by omega)
  refine lv_aload_n hM.1 hM.2.1 dL_law_502 rfl (lv_at hl 2 rfl) ?_
  refine lv_aload_n hM.1 hM.2.1 dL_law_503 rfl (lv_at hl 3 rfl) ?_
  refine lv_iload_n hM.1 hM.2.1 dL_law_504 rfl (lv_at hl 0 rfl) ?_
  refine lv_iconst (v := 1) hM.1 hM.2.1 dL_law_505 (by decide) ?_
  refine lv_iadd hM.1 hM.2.1 dL_law_506 ?_
  refine va_sld hM.1 hM.2.1 hX hbl hbA hS0 v1 dL_law_507 ?_
  refine lawV hM (hml.trans hl.1.symm) w hS0 zc7 hx.1.d7 h1 zyX7_halt lm_L_78 li_yX7_halt le_yX7_halt (As := [.int (xs (ix ((nI i) + (1))))]) (rest := []) (c_X7_halt hx.1) rfl rfl (Nat.le_of_ble_eq_true rfl) ⟨Nat.le_of_ble_eq_true rfl, Nat.le_of_ble_eq_true rfl⟩ ⟨by show cells + 0 ≤ 600000; omega, by show slots + 0 ≤ 7302250; omega⟩ dL_law_508 (fun r Zc1 S1 H locs hp w hS0 => ?_)
  obtain ⟨hr7, hz7, hs7⟩ := hp
  subst hr7
  rw [hz7, hs7] at w
  refine W.eq (g2 := F0 m 511 ls (.int _ :: [])) rfl ?_
  refine lv_aload_n hM.1 hM.2.1 dL_law_511 rfl (lv_at hl 1 rfl) ?_
  refine lv_aload_n hM.1 hM.2.1 dL_law_512 rfl (lv_at hl 3 rfl) ?_
  refine lv_iload_n hM.1 hM.2.1 dL_law_513 rfl (lv_at hl 0 rfl) ?_
  refine lv_iconst (v := 1) hM.1 hM.2.1 dL_law_514 (by decide) ?_
  refine lv_iadd hM.1 hM.2.1 dL_law_515 ?_
  refine va_sld hM.1 hM.2.1 hX hbl hbA hS0 v1 dL_law_516 ?_
  refine lawV hM (hml.trans hl.1.symm) w.swap hS0 zc8 hO.1 h2 zyX8_halt lm_L_81 li_yX8_halt le_yX8_halt (As := [.int (xs (ix ((nI i) + (1))))]) (rest := [.int _]) (c_X8_halt hO) rfl rfl (Nat.le_of_ble_eq_true rfl) ⟨Nat.le_of_ble_eq_true rfl, Nat.le_of_ble_eq_true rfl⟩ ⟨by show cells + 0 + 0 ≤ 600000; omega, by show slots + 0 + 0 ≤ 7302250; omega⟩ dL_law_517 (fun r Zm1 M1 H locs hp w hS0 => ?_)
  obtain ⟨hr8, hz8, hs8⟩ := hp
  subst hr8
  rw [hz8, hs8] at w
  refine W.eq (g2 := F0 m 520 ls (.int _ :: [.int _])) rfl ?_
  obtain ⟨er, hx2⟩ := x_halt (x := (xs (ix ((nI i) + (1))))) hx
  refine lv_icmp_eq hM.1 hM.2.1 dL_law_520 (tgt := 761) (by decide) (fun _ => ?_) (fun h => absurd er h)
  refine W.widen (k := cells + 3) (n := slots + 19) (by show cells + 0 + 0 ≤ cells + 3; omega) (by show slots + 0 + 0 ≤ slots + 19; omega) ?_
  exact kk _ _ _ _ _ ⟨w.swap, ⟨tc, ac, cn, hx2, hfr⟩, hO.of k_X8_halt⟩ h1 hS0

set_option maxHeartbeats 400000 in
set_option maxRecDepth 100000 in
theorem law_copy {p : Program} {l : Launch} {e : Env} {s : State} {m : MethodId} {below : List Frame} {meth : Method} {c : Code} {b L : Nat} {xs : Nat → Int32} {D : va_G} {ar : Nat → ClassId} {H : Heap} {locs : List Loc} {ls : Array Slot} {Zc Zm : zZ} {S M : zS} {n a1 a2 i cells slots : Nat} {Q : State → Prop} (hM : zM p c m #[Value.ref b] s code RL D ar) (hml : c.maxLocals = 4) (hX : va_X b L xs s s.heap) (hL : L ≤ 2049) (hi : i + 4 ≤ L) (I : lwI s.heap.size n D ar Zc Zm S M H) (h1 : Zc.1 7 0 = a1) (h2 : Zm.1 8 0 = a2) (hS0 : va_S (fun q => s.heap.size ≤ q) s.heap H locs) (hl : lv_has ls 4 [(3, .int (nI i)), (2, .ref a2), (1, .ref a1), (0, .ref b)]) (hc : cells + 3 ≤ 600000) (hs : slots + 19 ≤ 7302250)
    (kk : ∀ (Zc' : zZ) (S' M' : zS) (H1 : Heap) (locs1 : List Loc), lwI s.heap.size n D ar Zc' Zm S' M' H1 → Zc'.1 7 0 = a1 → va_S (fun q => s.heap.size ≤ q) s.heap H1 locs1 → W p l e room_1 s m #[Value.ref b] below meth c H1 locs1 (cells + 3) (slots + 19) Q (F0 m 761 ls [])) : W p l e room_1 s m #[Value.ref b] below meth c H locs cells slots Q (F0 m 525 ls []) := by
  obtain ⟨w, ⟨tc, ac, cn, hx, hfr⟩, hO⟩ := I
  have hbl := hX.lt
  have hbA : ¬ (fun q => s.heap.size ≤ q) b := Nat.not_le.mpr hbl
  have v1 : vp_in ((nI i) + (1)) L := law_in (k := 1) hi hL (by omega)
  have v2 : vp_in ((nI i) + (2)) L := law_in (k := 2) hi hL (by omega)
  have v3 : vp_in ((nI i) + (3)) L := law_in (k := 3) hi hL (by omega)
  refine lv_aload_n hM.1 hM.2.1 dL_law_525 rfl (lv_at hl 2 rfl) ?_
  refine lv_aload_n hM.1 hM.2.1 dL_law_526 rfl (lv_at hl 3 rfl) ?_
  refine lv_iload_n hM.1 hM.2.1 dL_law_527 rfl (lv_at hl 0 rfl) ?_
  refine lv_iconst (v := 1) hM.1 hM.2.1 dL_law_528 (by decide) ?_
  refine lv_iadd hM.1 hM.2.1 dL_law_529 ?_
  refine va_sld hM.1 hM.2.1 hX hbl hbA hS0 v1 dL_law_530 ?_
  refine lv_aload_n hM.1 hM.2.1 dL_law_531 rfl (lv_at hl 3 rfl) ?_
  refine lv_iload_n hM.1 hM.2.1 dL_law_532 rfl (lv_at hl 0 rfl) ?_
  refine lv_iconst (v := 2) hM.1 hM.2.1 dL_law_533 (by decide) ?_
  refine lv_iadd hM.1 hM.2.1 dL_law_534 ?_
  refine va_sld hM.1 hM.2.1 hX hbl hbA hS0 v2 dL_law_535 ?_
  refine lawV hM (hml.trans hl.1.symm) w hS0 zc7 hx.1.d7 h1 zyX7_copy lm_L_82 li_yX7_copy le_yX7_copy (As := [.int (xs (ix ((nI i) + (1)))), .int (xs (ix ((nI i) + (2))))]) (rest := []) (c_X7_copy hx.1) rfl rfl (Nat.le_of_ble_eq_true rfl) ⟨Nat.le_of_ble_eq_true rfl, Nat.le_of_ble_eq_true rfl⟩ ⟨by show cells + 0 ≤ 600000; omega, by show slots + 0 ≤ 7302250; omega⟩ dL_law_536 (fun r Zc1 S1 H locs hp w hS0 => ?_)
  obtain ⟨hr7, hz7, hs7⟩ := hp
  subst hr7
  rw [hz7, hs7] at w
  refine W.eq (g2 := F0 m 539 ls (.int _ :: [])) rfl ?_
  refine lv_aload_n hM.1 hM.2.1 dL_law_539 rfl (lv_at hl 1 rfl) ?_
  refine lv_aload_n hM.1 hM.2.1 dL_law_540 rfl (lv_at hl 3 rfl) ?_
  refine lv_iload_n hM.1 hM.2.1 dL_law_541 rfl (lv_at hl 0 rfl) ?_
  refine lv_iconst (v := 1) hM.1 hM.2.1 dL_law_542 (by decide) ?_
  refine lv_iadd hM.1 hM.2.1 dL_law_543 ?_
  refine va_sld hM.1 hM.2.1 hX hbl hbA hS0 v1 dL_law_544 ?_
  refine lv_aload_n hM.1 hM.2.1 dL_law_545 rfl (lv_at hl 3 rfl) ?_
  refine lv_iload_n hM.1 hM.2.1 dL_law_546 rfl (lv_at hl 0 rfl) ?_
  refine lv_iconst (v := 2) hM.1 hM.2.1 dL_law_547 (by decide) ?_
  refine lv_iadd hM.1 hM.2.1 dL_law_548 ?_
  refine va_sld hM.1 hM.2.1 hX hbl hbA hS0 v2 dL_law_549 ?_
  refine lawV hM (hml.trans hl.1.symm) w.swap hS0 zc8 hO.1 h2 zyX8_copy lm_L_85 li_yX8_copy le_yX8_copy (As := [.int (xs (ix ((nI i) + (1)))), .int (xs (ix ((nI i) + (2))))]) (rest := [.int _]) (c_X8_copy hO hx.mn hx.n7) rfl rfl (Nat.le_of_ble_eq_true rfl) ⟨Nat.le_of_ble_eq_true rfl, Nat.le_of_ble_eq_true rfl⟩ ⟨by show cells + 0 + 0 ≤ 600000; omega, by show slots + 0 + 0 ≤ 7302250; omega⟩ dL_law_550 (fun r Zm1 M1 H locs hp w hS0 => ?_)
  obtain ⟨hr8, hz8, hs8⟩ := hp
  subst hr8
  rw [hz8, hs8] at w
  refine W.eq (g2 := F0 m 553 ls (.int _ :: [.int _])) rfl ?_
  have er := x_copy (x := (xs (ix ((nI i) + (1))))) (y := (xs (ix ((nI i) + (2))))) hx
  refine lv_icmp_eq hM.1 hM.2.1 dL_law_553 (tgt := 761) (by decide) (fun _ => ?_) (fun h => absurd er h)
  refine W.widen (k := cells + 3) (n := slots + 19) (by show cells + 0 + 0 ≤ cells + 3; omega) (by show slots + 0 + 0 ≤ slots + 19; omega) ?_
  exact kk _ _ _ _ _ ⟨w.swap, ⟨tc, ac, cn, hx, hfr⟩, hO⟩ h1 hS0

set_option maxHeartbeats 400000 in
set_option maxRecDepth 100000 in
theorem law_kept {p : Program} {l : Launch} {e : Env} {s : State} {m : MethodId} {below : List Frame} {meth : Method} {c : Code} {b L : Nat} {xs : Nat → Int32} {D : va_G} {ar : Nat → ClassId} {H : Heap} {locs : List Loc} {ls : Array Slot} {Zc Zm : zZ} {S M : zS} {n a1 a2 i cells slots : Nat} {Q : State → Prop} (hM : zM p c m #[Value.ref b] s code RL D ar) (hml : c.maxLocals = 4) (hX : va_X b L xs s s.heap) (hL : L ≤ 2049) (hi : i + 4 ≤ L) (I : lwI s.heap.size n D ar Zc Zm S M H) (h1 : Zc.1 7 0 = a1) (h2 : Zm.1 8 0 = a2) (hS0 : va_S (fun q => s.heap.size ≤ q) s.heap H locs) (hl : lv_has ls 4 [(3, .int (nI i)), (2, .ref a2), (1, .ref a1), (0, .ref b)]) (hc : cells + 3 ≤ 600000) (hs : slots + 19 ≤ 7302250)
    (kk : ∀ (Zc' : zZ) (S' M' : zS) (H1 : Heap) (locs1 : List Loc), lwI s.heap.size n D ar Zc' Zm S' M' H1 → Zc'.1 7 0 = a1 → va_S (fun q => s.heap.size ≤ q) s.heap H1 locs1 → W p l e room_1 s m #[Value.ref b] below meth c H1 locs1 (cells + 3) (slots + 19) Q (F0 m 761 ls [])) : W p l e room_1 s m #[Value.ref b] below meth c H locs cells slots Q (F0 m 558 ls []) := by
  obtain ⟨w, ⟨tc, ac, cn, hx, hfr⟩, hO⟩ := I
  have hbl := hX.lt
  have hbA : ¬ (fun q => s.heap.size ≤ q) b := Nat.not_le.mpr hbl
  have v1 : vp_in ((nI i) + (1)) L := law_in (k := 1) hi hL (by omega)
  have v2 : vp_in ((nI i) + (2)) L := law_in (k := 2) hi hL (by omega)
  have v3 : vp_in ((nI i) + (3)) L := law_in (k := 3) hi hL (by omega)
  refine lv_aload_n hM.1 hM.2.1 dL_law_558 rfl (lv_at hl 2 rfl) ?_
  refine lv_aload_n hM.1 hM.2.1 dL_law_559 rfl (lv_at hl 3 rfl) ?_
  refine lv_iload_n hM.1 hM.2.1 dL_law_560 rfl (lv_at hl 0 rfl) ?_
  refine lv_iconst (v := 1) hM.1 hM.2.1 dL_law_561 (by decide) ?_
  refine lv_iadd hM.1 hM.2.1 dL_law_562 ?_
  refine va_sld hM.1 hM.2.1 hX hbl hbA hS0 v1 dL_law_563 ?_
  refine lawV hM (hml.trans hl.1.symm) w hS0 zc7 hx.1.d7 h1 zyX7_kept lm_L_86 li_yX7_kept le_yX7_kept (As := [.int (xs (ix ((nI i) + (1))))]) (rest := []) (c_X7_kept hx.1) rfl rfl (Nat.le_of_ble_eq_true rfl) ⟨Nat.le_of_ble_eq_true rfl, Nat.le_of_ble_eq_true rfl⟩ ⟨by show cells + 0 ≤ 600000; omega, by show slots + 0 ≤ 7302250; omega⟩ dL_law_564 (fun r Zc1 S1 H locs hp w hS0 => ?_)
  obtain ⟨hr7, hz7, hs7⟩ := hp
  subst hr7
  rw [hz7, hs7] at w
  refine W.eq (g2 := F0 m 567 ls (.long _ :: [])) rfl ?_
  refine lv_aload_n hM.1 hM.2.1 dL_law_567 rfl (lv_at hl 1 rfl) ?_
  refine lv_aload_n hM.1 hM.2.1 dL_law_568 rfl (lv_at hl 3 rfl) ?_
  refine lv_iload_n hM.1 hM.2.1 dL_law_569 rfl (lv_at hl 0 rfl) ?_
  refine lv_iconst (v := 1) hM.1 hM.2.1 dL_law_570 (by decide) ?_
  refine lv_iadd hM.1 hM.2.1 dL_law_571 ?_
  refine va_sld hM.1 hM.2.1 hX hbl hbA hS0 v1 dL_law_572 ?_
  refine lawV hM (hml.trans hl.1.symm) w.swap hS0 zc8 hO.1 h2 zyX8_kept lm_L_90 li_yX8_kept le_yX8_kept (As := [.int (xs (ix ((nI i) + (1))))]) (rest := [.long _]) (c_X8_kept hO hx.mn hx.n7) rfl rfl (Nat.le_of_ble_eq_true rfl) ⟨Nat.le_of_ble_eq_true rfl, Nat.le_of_ble_eq_true rfl⟩ ⟨by show cells + 0 + 0 ≤ 600000; omega, by show slots + 0 + 0 ≤ 7302250; omega⟩ dL_law_573 (fun r Zm1 M1 H locs hp w hS0 => ?_)
  obtain ⟨hr8, hz8, hs8⟩ := hp
  subst hr8
  rw [hz8, hs8] at w
  refine W.eq (g2 := F0 m 576 ls (.long _ :: [.long _])) rfl ?_
  refine W.lcmp hM.1 hM.2.1 dL_law_576 ?_
  have er := x_kept (x := (xs (ix ((nI i) + (1))))) hx
  refine lv_if_eq hM.1 hM.2.1 dL_law_577 (tgt := 761) (by decide) (fun _ => ?_) (fun h => absurd (by rw [er]; exact lg_same _) h)
  refine W.widen (k := cells + 3) (n := slots + 19) (by show cells + 0 + 0 ≤ cells + 3; omega) (by show slots + 0 + 0 ≤ slots + 19; omega) ?_
  exact kk _ _ _ _ _ ⟨w.swap, ⟨tc, ac, cn, hx, hfr⟩, hO⟩ h1 hS0

set_option maxHeartbeats 400000 in
set_option maxRecDepth 100000 in
theorem law_client {p : Program} {l : Launch} {e : Env} {s : State} {m : MethodId} {below : List Frame} {meth : Method} {c : Code} {b L : Nat} {xs : Nat → Int32} {D : va_G} {ar : Nat → ClassId} {H : Heap} {locs : List Loc} {ls : Array Slot} {Zc Zm : zZ} {S M : zS} {n a1 a2 i cells slots : Nat} {Q : State → Prop} (hM : zM p c m #[Value.ref b] s code RL D ar) (hml : c.maxLocals = 4) (hX : va_X b L xs s s.heap) (hL : L ≤ 2049) (hi : i + 4 ≤ L) (I : lwI s.heap.size n D ar Zc Zm S M H) (h1 : Zc.1 7 0 = a1) (h2 : Zm.1 8 0 = a2) (hS0 : va_S (fun q => s.heap.size ≤ q) s.heap H locs) (hl : lv_has ls 4 [(3, .int (nI i)), (2, .ref a2), (1, .ref a1), (0, .ref b)]) (hc : cells + 3 ≤ 600000) (hs : slots + 19 ≤ 7302250)
    (kk : ∀ (Zc' : zZ) (S' M' : zS) (H1 : Heap) (locs1 : List Loc), lwI s.heap.size n D ar Zc' Zm S' M' H1 → Zc'.1 7 0 = a1 → va_S (fun q => s.heap.size ≤ q) s.heap H1 locs1 → W p l e room_1 s m #[Value.ref b] below meth c H1 locs1 (cells + 3) (slots + 19) Q (F0 m 761 ls [])) : W p l e room_1 s m #[Value.ref b] below meth c H locs cells slots Q (F0 m 582 ls []) := by
  obtain ⟨w, ⟨tc, ac, cn, hx, hfr⟩, hO⟩ := I
  have hbl := hX.lt
  have hbA : ¬ (fun q => s.heap.size ≤ q) b := Nat.not_le.mpr hbl
  have v1 : vp_in ((nI i) + (1)) L := law_in (k := 1) hi hL (by omega)
  have v2 : vp_in ((nI i) + (2)) L := law_in (k := 2) hi hL (by omega)
  have v3 : vp_in ((nI i) + (3)) L := law_in (k := 3) hi hL (by omega)
  refine lv_aload_n hM.1 hM.2.1 dL_law_582 rfl (lv_at hl 2 rfl) ?_
  refine lv_aload_n hM.1 hM.2.1 dL_law_583 rfl (lv_at hl 3 rfl) ?_
  refine lv_iload_n hM.1 hM.2.1 dL_law_584 rfl (lv_at hl 0 rfl) ?_
  refine lv_iconst (v := 1) hM.1 hM.2.1 dL_law_585 (by decide) ?_
  refine lv_iadd hM.1 hM.2.1 dL_law_586 ?_
  refine va_sld hM.1 hM.2.1 hX hbl hbA hS0 v1 dL_law_587 ?_
  refine lv_aload_n hM.1 hM.2.1 dL_law_588 rfl (lv_at hl 3 rfl) ?_
  refine lv_iload_n hM.1 hM.2.1 dL_law_589 rfl (lv_at hl 0 rfl) ?_
  refine lv_iconst (v := 2) hM.1 hM.2.1 dL_law_590 (by decide) ?_
  refine lv_iadd hM.1 hM.2.1 dL_law_591 ?_
  refine va_sld hM.1 hM.2.1 hX hbl hbA hS0 v2 dL_law_592 ?_
  refine lawV hM (hml.trans hl.1.symm) w hS0 zc7 hx.1.d7 h1 zyX7_client lm_L_91 li_yX7_client le_yX7_client (As := [.int (xs (ix ((nI i) + (1)))), .int (xs (ix ((nI i) + (2))))]) (rest := []) (c_X7_client hx.1) rfl rfl (Nat.le_of_ble_eq_true rfl) ⟨Nat.le_of_ble_eq_true rfl, Nat.le_of_ble_eq_true rfl⟩ ⟨by show cells + 0 ≤ 600000; omega, by show slots + 0 ≤ 7302250; omega⟩ dL_law_593 (fun r Zc1 S1 H locs hp w hS0 => ?_)
  obtain ⟨hr7, hz7, hs7⟩ := hp
  subst hr7
  rw [hz7, hs7] at w
  refine W.eq (g2 := F0 m 596 ls (.int _ :: [])) rfl ?_
  refine lv_aload_n hM.1 hM.2.1 dL_law_596 rfl (lv_at hl 1 rfl) ?_
  refine lv_aload_n hM.1 hM.2.1 dL_law_597 rfl (lv_at hl 3 rfl) ?_
  refine lv_iload_n hM.1 hM.2.1 dL_law_598 rfl (lv_at hl 0 rfl) ?_
  refine lv_iconst (v := 1) hM.1 hM.2.1 dL_law_599 (by decide) ?_
  refine lv_iadd hM.1 hM.2.1 dL_law_600 ?_
  refine va_sld hM.1 hM.2.1 hX hbl hbA hS0 v1 dL_law_601 ?_
  refine lv_aload_n hM.1 hM.2.1 dL_law_602 rfl (lv_at hl 3 rfl) ?_
  refine lv_iload_n hM.1 hM.2.1 dL_law_603 rfl (lv_at hl 0 rfl) ?_
  refine lv_iconst (v := 2) hM.1 hM.2.1 dL_law_604 (by decide) ?_
  refine lv_iadd hM.1 hM.2.1 dL_law_605 ?_
  refine va_sld hM.1 hM.2.1 hX hbl hbA hS0 v2 dL_law_606 ?_
  refine lawV hM (hml.trans hl.1.symm) w.swap hS0 zc8 hO.1 h2 zyX8_client lm_L_94 li_yX8_client le_yX8_client (As := [.int (xs (ix ((nI i) + (1)))), .int (xs (ix ((nI i) + (2))))]) (rest := [.int _]) (c_X8_client hO) rfl rfl (Nat.le_of_ble_eq_true rfl) ⟨Nat.le_of_ble_eq_true rfl, Nat.le_of_ble_eq_true rfl⟩ ⟨by show cells + 0 + 0 ≤ 600000; omega, by show slots + 0 + 0 ≤ 7302250; omega⟩ dL_law_607 (fun r Zm1 M1 H locs hp w hS0 => ?_)
  obtain ⟨hr8, hz8, hs8⟩ := hp
  subst hr8
  rw [hz8, hs8] at w
  refine W.eq (g2 := F0 m 610 ls (.int _ :: [.int _])) rfl ?_
  have er := x_client (x := (xs (ix ((nI i) + (1))))) (y := (xs (ix ((nI i) + (2))))) hx
  refine lv_icmp_eq hM.1 hM.2.1 dL_law_610 (tgt := 761) (by decide) (fun _ => ?_) (fun h => absurd er h)
  refine W.widen (k := cells + 3) (n := slots + 19) (by show cells + 0 + 0 ≤ cells + 3; omega) (by show slots + 0 + 0 ≤ slots + 19; omega) ?_
  exact kk _ _ _ _ _ ⟨w.swap, ⟨tc, ac, cn, hx, hfr⟩, hO⟩ h1 hS0

set_option maxHeartbeats 400000 in
set_option maxRecDepth 100000 in
theorem law_air {p : Program} {l : Launch} {e : Env} {s : State} {m : MethodId} {below : List Frame} {meth : Method} {c : Code} {b L : Nat} {xs : Nat → Int32} {D : va_G} {ar : Nat → ClassId} {H : Heap} {locs : List Loc} {ls : Array Slot} {Zc Zm : zZ} {S M : zS} {n a1 a2 i cells slots : Nat} {Q : State → Prop} (hM : zM p c m #[Value.ref b] s code RL D ar) (hml : c.maxLocals = 4) (hX : va_X b L xs s s.heap) (hL : L ≤ 2049) (hi : i + 4 ≤ L) (I : lwI s.heap.size n D ar Zc Zm S M H) (h1 : Zc.1 7 0 = a1) (h2 : Zm.1 8 0 = a2) (hS0 : va_S (fun q => s.heap.size ≤ q) s.heap H locs) (hl : lv_has ls 4 [(3, .int (nI i)), (2, .ref a2), (1, .ref a1), (0, .ref b)]) (hc : cells + 3 ≤ 600000) (hs : slots + 19 ≤ 7302250)
    (kk : ∀ (Zc' : zZ) (S' M' : zS) (H1 : Heap) (locs1 : List Loc), lwI s.heap.size n D ar Zc' Zm S' M' H1 → Zc'.1 7 0 = a1 → va_S (fun q => s.heap.size ≤ q) s.heap H1 locs1 → W p l e room_1 s m #[Value.ref b] below meth c H1 locs1 (cells + 3) (slots + 19) Q (F0 m 761 ls [])) : W p l e room_1 s m #[Value.ref b] below meth c H locs cells slots Q (F0 m 615 ls []) := by
  obtain ⟨w, ⟨tc, ac, cn, hx, hfr⟩, hO⟩ := I
  have hbl := hX.lt
  have hbA : ¬ (fun q => s.heap.size ≤ q) b := Nat.not_le.mpr hbl
  have v1 : vp_in ((nI i) + (1)) L := law_in (k := 1) hi hL (by omega)
  have v2 : vp_in ((nI i) + (2)) L := law_in (k := 2) hi hL (by omega)
  have v3 : vp_in ((nI i) + (3)) L := law_in (k := 3) hi hL (by omega)
  refine lv_aload_n hM.1 hM.2.1 dL_law_615 rfl (lv_at hl 2 rfl) ?_
  refine lv_aload_n hM.1 hM.2.1 dL_law_616 rfl (lv_at hl 3 rfl) ?_
  refine lv_iload_n hM.1 hM.2.1 dL_law_617 rfl (lv_at hl 0 rfl) ?_
  refine lv_iconst (v := 1) hM.1 hM.2.1 dL_law_618 (by decide) ?_
  refine lv_iadd hM.1 hM.2.1 dL_law_619 ?_
  refine va_sld hM.1 hM.2.1 hX hbl hbA hS0 v1 dL_law_620 ?_
  refine lv_aload_n hM.1 hM.2.1 dL_law_621 rfl (lv_at hl 3 rfl) ?_
  refine lv_iload_n hM.1 hM.2.1 dL_law_622 rfl (lv_at hl 0 rfl) ?_
  refine lv_iconst (v := 2) hM.1 hM.2.1 dL_law_623 (by decide) ?_
  refine lv_iadd hM.1 hM.2.1 dL_law_624 ?_
  refine va_sld hM.1 hM.2.1 hX hbl hbA hS0 v2 dL_law_625 ?_
  refine lawV hM (hml.trans hl.1.symm) w hS0 zc7 hx.1.d7 h1 zyX7_air lm_L_95 li_yX7_air le_yX7_air (As := [.int (xs (ix ((nI i) + (1)))), .int (xs (ix ((nI i) + (2))))]) (rest := []) (c_X7_air hx.1) rfl rfl (Nat.le_of_ble_eq_true rfl) ⟨Nat.le_of_ble_eq_true rfl, Nat.le_of_ble_eq_true rfl⟩ ⟨by show cells + 0 ≤ 600000; omega, by show slots + 0 ≤ 7302250; omega⟩ dL_law_626 (fun r Zc1 S1 H locs hp w hS0 => ?_)
  obtain ⟨hr7, hz7, hs7⟩ := hp
  subst hr7
  rw [hz7, hs7] at w
  refine W.eq (g2 := F0 m 629 ls (.int _ :: [])) rfl ?_
  refine lv_aload_n hM.1 hM.2.1 dL_law_629 rfl (lv_at hl 1 rfl) ?_
  refine lv_aload_n hM.1 hM.2.1 dL_law_630 rfl (lv_at hl 3 rfl) ?_
  refine lv_iload_n hM.1 hM.2.1 dL_law_631 rfl (lv_at hl 0 rfl) ?_
  refine lv_iconst (v := 1) hM.1 hM.2.1 dL_law_632 (by decide) ?_
  refine lv_iadd hM.1 hM.2.1 dL_law_633 ?_
  refine va_sld hM.1 hM.2.1 hX hbl hbA hS0 v1 dL_law_634 ?_
  refine lv_aload_n hM.1 hM.2.1 dL_law_635 rfl (lv_at hl 3 rfl) ?_
  refine lv_iload_n hM.1 hM.2.1 dL_law_636 rfl (lv_at hl 0 rfl) ?_
  refine lv_iconst (v := 2) hM.1 hM.2.1 dL_law_637 (by decide) ?_
  refine lv_iadd hM.1 hM.2.1 dL_law_638 ?_
  refine va_sld hM.1 hM.2.1 hX hbl hbA hS0 v2 dL_law_639 ?_
  refine lawV hM (hml.trans hl.1.symm) w.swap hS0 zc8 hO.1 h2 zyX8_air lm_L_98 li_yX8_air le_yX8_air (As := [.int (xs (ix ((nI i) + (1)))), .int (xs (ix ((nI i) + (2))))]) (rest := [.int _]) (c_X8_air hO hx.mcn hx.cm) rfl rfl (Nat.le_of_ble_eq_true rfl) ⟨Nat.le_of_ble_eq_true rfl, Nat.le_of_ble_eq_true rfl⟩ ⟨by show cells + 0 + 0 ≤ 600000; omega, by show slots + 0 + 0 ≤ 7302250; omega⟩ dL_law_640 (fun r Zm1 M1 H locs hp w hS0 => ?_)
  obtain ⟨hr8, hz8, hs8⟩ := hp
  subst hr8
  rw [hz8, hs8] at w
  refine W.eq (g2 := F0 m 643 ls (.int _ :: [.int _])) rfl ?_
  have er := x_air (x := (xs (ix ((nI i) + (1))))) (y := (xs (ix ((nI i) + (2))))) hx
  refine lv_icmp_eq hM.1 hM.2.1 dL_law_643 (tgt := 761) (by decide) (fun _ => ?_) (fun h => absurd er h)
  refine W.widen (k := cells + 3) (n := slots + 19) (by show cells + 0 + 0 ≤ cells + 3; omega) (by show slots + 0 + 0 ≤ slots + 19; omega) ?_
  exact kk _ _ _ _ _ ⟨w.swap, ⟨tc, ac, cn, hx, hfr⟩, hO⟩ h1 hS0

set_option maxHeartbeats 400000 in
set_option maxRecDepth 100000 in
theorem law_act {p : Program} {l : Launch} {e : Env} {s : State} {m : MethodId} {below : List Frame} {meth : Method} {c : Code} {b L : Nat} {xs : Nat → Int32} {D : va_G} {ar : Nat → ClassId} {H : Heap} {locs : List Loc} {ls : Array Slot} {Zc Zm : zZ} {S M : zS} {n a1 a2 i cells slots : Nat} {Q : State → Prop} (hM : zM p c m #[Value.ref b] s code RL D ar) (hml : c.maxLocals = 4) (hX : va_X b L xs s s.heap) (hL : L ≤ 2049) (hi : i + 4 ≤ L) (I : lwI s.heap.size n D ar Zc Zm S M H) (h1 : Zc.1 7 0 = a1) (h2 : Zm.1 8 0 = a2) (hS0 : va_S (fun q => s.heap.size ≤ q) s.heap H locs) (hl : lv_has ls 4 [(3, .int (nI i)), (2, .ref a2), (1, .ref a1), (0, .ref b)]) (hc : cells + 3 ≤ 600000) (hs : slots + 19 ≤ 7302250)
    (kk : ∀ (Zc' : zZ) (S' M' : zS) (H1 : Heap) (locs1 : List Loc), lwI s.heap.size n D ar Zc' Zm S' M' H1 → Zc'.1 7 0 = a1 → va_S (fun q => s.heap.size ≤ q) s.heap H1 locs1 → W p l e room_1 s m #[Value.ref b] below meth c H1 locs1 (cells + 3) (slots + 19) Q (F0 m 761 ls [])) : W p l e room_1 s m #[Value.ref b] below meth c H locs cells slots Q (F0 m 648 ls []) := by
  obtain ⟨w, ⟨tc, ac, cn, hx, hfr⟩, hO⟩ := I
  have hbl := hX.lt
  have hbA : ¬ (fun q => s.heap.size ≤ q) b := Nat.not_le.mpr hbl
  have v1 : vp_in ((nI i) + (1)) L := law_in (k := 1) hi hL (by omega)
  have v2 : vp_in ((nI i) + (2)) L := law_in (k := 2) hi hL (by omega)
  have v3 : vp_in ((nI i) + (3)) L := law_in (k := 3) hi hL (by omega)
  refine lv_aload_n hM.1 hM.2.1 dL_law_648 rfl (lv_at hl 2 rfl) ?_
  refine lv_aload_n hM.1 hM.2.1 dL_law_649 rfl (lv_at hl 3 rfl) ?_
  refine lv_iload_n hM.1 hM.2.1 dL_law_650 rfl (lv_at hl 0 rfl) ?_
  refine lv_iconst (v := 1) hM.1 hM.2.1 dL_law_651 (by decide) ?_
  refine lv_iadd hM.1 hM.2.1 dL_law_652 ?_
  refine va_sld hM.1 hM.2.1 hX hbl hbA hS0 v1 dL_law_653 ?_
  refine lv_aload_n hM.1 hM.2.1 dL_law_654 rfl (lv_at hl 3 rfl) ?_
  refine lv_iload_n hM.1 hM.2.1 dL_law_655 rfl (lv_at hl 0 rfl) ?_
  refine lv_iconst (v := 2) hM.1 hM.2.1 dL_law_656 (by decide) ?_
  refine lv_iadd hM.1 hM.2.1 dL_law_657 ?_
  refine va_sld hM.1 hM.2.1 hX hbl hbA hS0 v2 dL_law_658 ?_
  refine lawV hM (hml.trans hl.1.symm) w hS0 zc7 hx.1.d7 h1 zyX7_act lm_L_99 li_yX7_act le_yX7_act (As := [.int (xs (ix ((nI i) + (1)))), .int (xs (ix ((nI i) + (2))))]) (rest := []) (c_X7_act hx.1) rfl rfl (Nat.le_of_ble_eq_true rfl) ⟨Nat.le_of_ble_eq_true rfl, Nat.le_of_ble_eq_true rfl⟩ ⟨by show cells + 0 ≤ 600000; omega, by show slots + 0 ≤ 7302250; omega⟩ dL_law_659 (fun r Zc1 S1 H locs hp w hS0 => ?_)
  obtain ⟨hr7, hz7, hs7⟩ := hp
  subst hr7
  rw [hz7, hs7] at w
  refine W.eq (g2 := F0 m 662 ls (.int _ :: [])) rfl ?_
  refine lv_aload_n hM.1 hM.2.1 dL_law_662 rfl (lv_at hl 1 rfl) ?_
  refine lv_aload_n hM.1 hM.2.1 dL_law_663 rfl (lv_at hl 3 rfl) ?_
  refine lv_iload_n hM.1 hM.2.1 dL_law_664 rfl (lv_at hl 0 rfl) ?_
  refine lv_iconst (v := 1) hM.1 hM.2.1 dL_law_665 (by decide) ?_
  refine lv_iadd hM.1 hM.2.1 dL_law_666 ?_
  refine va_sld hM.1 hM.2.1 hX hbl hbA hS0 v1 dL_law_667 ?_
  refine lv_aload_n hM.1 hM.2.1 dL_law_668 rfl (lv_at hl 3 rfl) ?_
  refine lv_iload_n hM.1 hM.2.1 dL_law_669 rfl (lv_at hl 0 rfl) ?_
  refine lv_iconst (v := 2) hM.1 hM.2.1 dL_law_670 (by decide) ?_
  refine lv_iadd hM.1 hM.2.1 dL_law_671 ?_
  refine va_sld hM.1 hM.2.1 hX hbl hbA hS0 v2 dL_law_672 ?_
  refine lawV hM (hml.trans hl.1.symm) w.swap hS0 zc8 hO.1 h2 zyX8_act lm_L_102 li_yX8_act le_yX8_act (As := [.int (xs (ix ((nI i) + (1)))), .int (xs (ix ((nI i) + (2))))]) (rest := [.int _]) (c_X8_act hO hx.tcs.2.2.2 hx.acs.2) rfl rfl (Nat.le_of_ble_eq_true rfl) ⟨Nat.le_of_ble_eq_true rfl, Nat.le_of_ble_eq_true rfl⟩ ⟨by show cells + 0 + 0 ≤ 600000; omega, by show slots + 0 + 0 ≤ 7302250; omega⟩ dL_law_673 (fun r Zm1 M1 H locs hp w hS0 => ?_)
  obtain ⟨hr8, hz8, hs8⟩ := hp
  subst hr8
  rw [hz8, hs8] at w
  refine W.eq (g2 := F0 m 676 ls (.int _ :: [.int _])) rfl ?_
  have er := x_act (a0 := ac) (x := (xs (ix ((nI i) + (1))))) (y := (xs (ix ((nI i) + (2))))) hx
  refine lv_icmp_eq hM.1 hM.2.1 dL_law_676 (tgt := 761) (by decide) (fun _ => ?_) (fun h => absurd er h)
  refine W.widen (k := cells + 3) (n := slots + 19) (by show cells + 0 + 0 ≤ cells + 3; omega) (by show slots + 0 + 0 ≤ slots + 19; omega) ?_
  exact kk _ _ _ _ _ ⟨w.swap, ⟨tc, ac, cn, hx, hfr⟩, hO⟩ h1 hS0

set_option maxHeartbeats 400000 in
set_option maxRecDepth 100000 in
theorem law_value {p : Program} {l : Launch} {e : Env} {s : State} {m : MethodId} {below : List Frame} {meth : Method} {c : Code} {b L : Nat} {xs : Nat → Int32} {D : va_G} {ar : Nat → ClassId} {H : Heap} {locs : List Loc} {ls : Array Slot} {Zc Zm : zZ} {S M : zS} {n a1 a2 i cells slots : Nat} {Q : State → Prop} (hM : zM p c m #[Value.ref b] s code RL D ar) (hml : c.maxLocals = 4) (hX : va_X b L xs s s.heap) (hL : L ≤ 2049) (hi : i + 4 ≤ L) (I : lwI s.heap.size n D ar Zc Zm S M H) (h1 : Zc.1 7 0 = a1) (h2 : Zm.1 8 0 = a2) (hS0 : va_S (fun q => s.heap.size ≤ q) s.heap H locs) (hl : lv_has ls 4 [(3, .int (nI i)), (2, .ref a2), (1, .ref a1), (0, .ref b)]) (hc : cells + 3 ≤ 600000) (hs : slots + 19 ≤ 7302250)
    (kk : ∀ (Zc' : zZ) (S' M' : zS) (H1 : Heap) (locs1 : List Loc), lwI s.heap.size n D ar Zc' Zm S' M' H1 → Zc'.1 7 0 = a1 → va_S (fun q => s.heap.size ≤ q) s.heap H1 locs1 → W p l e room_1 s m #[Value.ref b] below meth c H1 locs1 (cells + 3) (slots + 19) Q (F0 m 761 ls [])) : W p l e room_1 s m #[Value.ref b] below meth c H locs cells slots Q (F0 m 681 ls []) := by
  obtain ⟨w, ⟨tc, ac, cn, hx, hfr⟩, hO⟩ := I
  have hbl := hX.lt
  have hbA : ¬ (fun q => s.heap.size ≤ q) b := Nat.not_le.mpr hbl
  have v1 : vp_in ((nI i) + (1)) L := law_in (k := 1) hi hL (by omega)
  have v2 : vp_in ((nI i) + (2)) L := law_in (k := 2) hi hL (by omega)
  have v3 : vp_in ((nI i) + (3)) L := law_in (k := 3) hi hL (by omega)
  refine lv_aload_n hM.1 hM.2.1 dL_law_681 rfl (lv_at hl 2 rfl) ?_
  refine lv_aload_n hM.1 hM.2.1 dL_law_682 rfl (lv_at hl 3 rfl) ?_
  refine lv_iload_n hM.1 hM.2.1 dL_law_683 rfl (lv_at hl 0 rfl) ?_
  refine lv_iconst (v := 1) hM.1 hM.2.1 dL_law_684 (by decide) ?_
  refine lv_iadd hM.1 hM.2.1 dL_law_685 ?_
  refine va_sld hM.1 hM.2.1 hX hbl hbA hS0 v1 dL_law_686 ?_
  refine lawV hM (hml.trans hl.1.symm) w hS0 zc7 hx.1.d7 h1 zyX7_value lm_L_103 li_yX7_value le_yX7_value (As := [.int (xs (ix ((nI i) + (1))))]) (rest := []) (c_X7_value hx.1) rfl rfl (Nat.le_of_ble_eq_true rfl) ⟨Nat.le_of_ble_eq_true rfl, Nat.le_of_ble_eq_true rfl⟩ ⟨by show cells + 0 ≤ 600000; omega, by show slots + 0 ≤ 7302250; omega⟩ dL_law_687 (fun r Zc1 S1 H locs hp w hS0 => ?_)
  obtain ⟨hr7, hz7, hs7⟩ := hp
  subst hr7
  rw [hz7, hs7] at w
  refine W.eq (g2 := F0 m 690 ls (.long _ :: [])) rfl ?_
  refine lv_aload_n hM.1 hM.2.1 dL_law_690 rfl (lv_at hl 1 rfl) ?_
  refine lv_aload_n hM.1 hM.2.1 dL_law_691 rfl (lv_at hl 3 rfl) ?_
  refine lv_iload_n hM.1 hM.2.1 dL_law_692 rfl (lv_at hl 0 rfl) ?_
  refine lv_iconst (v := 1) hM.1 hM.2.1 dL_law_693 (by decide) ?_
  refine lv_iadd hM.1 hM.2.1 dL_law_694 ?_
  refine va_sld hM.1 hM.2.1 hX hbl hbA hS0 v1 dL_law_695 ?_
  refine lawV hM (hml.trans hl.1.symm) w.swap hS0 zc8 hO.1 h2 zyX8_value lm_L_106 li_yX8_value le_yX8_value (As := [.int (xs (ix ((nI i) + (1))))]) (rest := [.long _]) (c_X8_value hO hx.tcs.2.2.2 hx.acs.2) rfl rfl (Nat.le_of_ble_eq_true rfl) ⟨Nat.le_of_ble_eq_true rfl, Nat.le_of_ble_eq_true rfl⟩ ⟨by show cells + 0 + 0 ≤ 600000; omega, by show slots + 0 + 0 ≤ 7302250; omega⟩ dL_law_696 (fun r Zm1 M1 H locs hp w hS0 => ?_)
  obtain ⟨hr8, hz8, hs8⟩ := hp
  subst hr8
  rw [hz8, hs8] at w
  refine W.eq (g2 := F0 m 699 ls (.long _ :: [.long _])) rfl ?_
  refine W.lcmp hM.1 hM.2.1 dL_law_699 ?_
  have er := x_value (a0 := ac) (x := (xs (ix ((nI i) + (1))))) hx
  refine lv_if_eq hM.1 hM.2.1 dL_law_700 (tgt := 761) (by decide) (fun _ => ?_) (fun h => absurd (by rw [er]; exact lg_same _) h)
  refine W.widen (k := cells + 3) (n := slots + 19) (by show cells + 0 + 0 ≤ cells + 3; omega) (by show slots + 0 + 0 ≤ slots + 19; omega) ?_
  exact kk _ _ _ _ _ ⟨w.swap, ⟨tc, ac, cn, hx, hfr⟩, hO⟩ h1 hS0

set_option maxHeartbeats 400000 in
set_option maxRecDepth 100000 in
theorem law_table {p : Program} {l : Launch} {e : Env} {s : State} {m : MethodId} {below : List Frame} {meth : Method} {c : Code} {b L : Nat} {xs : Nat → Int32} {D : va_G} {ar : Nat → ClassId} {H : Heap} {locs : List Loc} {ls : Array Slot} {Zc Zm : zZ} {S M : zS} {n a1 a2 i cells slots : Nat} {Q : State → Prop} (hM : zM p c m #[Value.ref b] s code RL D ar) (hml : c.maxLocals = 4) (hX : va_X b L xs s s.heap) (hL : L ≤ 2049) (hi : i + 4 ≤ L) (I : lwI s.heap.size n D ar Zc Zm S M H) (h1 : Zc.1 7 0 = a1) (h2 : Zm.1 8 0 = a2) (hS0 : va_S (fun q => s.heap.size ≤ q) s.heap H locs) (hl : lv_has ls 4 [(3, .int (nI i)), (2, .ref a2), (1, .ref a1), (0, .ref b)]) (hc : cells + 3 ≤ 600000) (hs : slots + 19 ≤ 7302250)
    (kk : ∀ (Zc' : zZ) (S' M' : zS) (H1 : Heap) (locs1 : List Loc), lwI s.heap.size n D ar Zc' Zm S' M' H1 → Zc'.1 7 0 = a1 → va_S (fun q => s.heap.size ≤ q) s.heap H1 locs1 → W p l e room_1 s m #[Value.ref b] below meth c H1 locs1 (cells + 3) (slots + 19) Q (F0 m 761 ls [])) : W p l e room_1 s m #[Value.ref b] below meth c H locs cells slots Q (F0 m 705 ls []) := by
  obtain ⟨w, ⟨tc, ac, cn, hx, hfr⟩, hO⟩ := I
  have hbl := hX.lt
  have hbA : ¬ (fun q => s.heap.size ≤ q) b := Nat.not_le.mpr hbl
  have v1 : vp_in ((nI i) + (1)) L := law_in (k := 1) hi hL (by omega)
  have v2 : vp_in ((nI i) + (2)) L := law_in (k := 2) hi hL (by omega)
  have v3 : vp_in ((nI i) + (3)) L := law_in (k := 3) hi hL (by omega)
  refine lv_aload_n hM.1 hM.2.1 dL_law_705 rfl (lv_at hl 2 rfl) ?_
  refine lv_aload_n hM.1 hM.2.1 dL_law_706 rfl (lv_at hl 3 rfl) ?_
  refine lv_iload_n hM.1 hM.2.1 dL_law_707 rfl (lv_at hl 0 rfl) ?_
  refine lv_iconst (v := 1) hM.1 hM.2.1 dL_law_708 (by decide) ?_
  refine lv_iadd hM.1 hM.2.1 dL_law_709 ?_
  refine va_sld hM.1 hM.2.1 hX hbl hbA hS0 v1 dL_law_710 ?_
  refine lv_aload_n hM.1 hM.2.1 dL_law_711 rfl (lv_at hl 3 rfl) ?_
  refine lv_iload_n hM.1 hM.2.1 dL_law_712 rfl (lv_at hl 0 rfl) ?_
  refine lv_iconst (v := 2) hM.1 hM.2.1 dL_law_713 (by decide) ?_
  refine lv_iadd hM.1 hM.2.1 dL_law_714 ?_
  refine va_sld hM.1 hM.2.1 hX hbl hbA hS0 v2 dL_law_715 ?_
  refine lawV hM (hml.trans hl.1.symm) w hS0 zc7 hx.1.d7 h1 zyX7_table lm_L_107 li_yX7_table le_yX7_table (As := [.int (xs (ix ((nI i) + (1)))), .int (xs (ix ((nI i) + (2))))]) (rest := []) (c_X7_table hx.1) rfl rfl (Nat.le_of_ble_eq_true rfl) ⟨Nat.le_of_ble_eq_true rfl, Nat.le_of_ble_eq_true rfl⟩ ⟨by show cells + 0 ≤ 600000; omega, by show slots + 0 ≤ 7302250; omega⟩ dL_law_716 (fun r Zc1 S1 H locs hp w hS0 => ?_)
  obtain ⟨hr7, hz7, hs7⟩ := hp
  subst hr7
  rw [hz7, hs7] at w
  refine W.eq (g2 := F0 m 719 ls (.int _ :: [])) rfl ?_
  refine lv_aload_n hM.1 hM.2.1 dL_law_719 rfl (lv_at hl 1 rfl) ?_
  refine lv_aload_n hM.1 hM.2.1 dL_law_720 rfl (lv_at hl 3 rfl) ?_
  refine lv_iload_n hM.1 hM.2.1 dL_law_721 rfl (lv_at hl 0 rfl) ?_
  refine lv_iconst (v := 1) hM.1 hM.2.1 dL_law_722 (by decide) ?_
  refine lv_iadd hM.1 hM.2.1 dL_law_723 ?_
  refine va_sld hM.1 hM.2.1 hX hbl hbA hS0 v1 dL_law_724 ?_
  refine lv_aload_n hM.1 hM.2.1 dL_law_725 rfl (lv_at hl 3 rfl) ?_
  refine lv_iload_n hM.1 hM.2.1 dL_law_726 rfl (lv_at hl 0 rfl) ?_
  refine lv_iconst (v := 2) hM.1 hM.2.1 dL_law_727 (by decide) ?_
  refine lv_iadd hM.1 hM.2.1 dL_law_728 ?_
  refine va_sld hM.1 hM.2.1 hX hbl hbA hS0 v2 dL_law_729 ?_
  refine lawV hM (hml.trans hl.1.symm) w.swap hS0 zc8 hO.1 h2 zyX8_table lm_L_110 li_yX8_table le_yX8_table (As := [.int (xs (ix ((nI i) + (1)))), .int (xs (ix ((nI i) + (2))))]) (rest := [.int _]) (c_X8_table (hx.mI hO)) rfl rfl (Nat.le_of_ble_eq_true rfl) ⟨Nat.le_of_ble_eq_true rfl, Nat.le_of_ble_eq_true rfl⟩ ⟨by show cells + 0 + 0 ≤ 600000; omega, by show slots + 0 + 0 ≤ 7302250; omega⟩ dL_law_730 (fun r Zm1 M1 H locs hp w hS0 => ?_)
  obtain ⟨hr8, hz8, hs8⟩ := hp
  subst hr8
  rw [hz8, hs8] at w
  refine W.eq (g2 := F0 m 733 ls (.int _ :: [.int _])) rfl ?_
  have er := x_table (x := (xs (ix ((nI i) + (1))))) (y := (xs (ix ((nI i) + (2))))) hx
  refine lv_icmp_eq hM.1 hM.2.1 dL_law_733 (tgt := 761) (by decide) (fun _ => ?_) (fun h => absurd er h)
  refine W.widen (k := cells + 3) (n := slots + 19) (by show cells + 0 + 0 ≤ cells + 3; omega) (by show slots + 0 + 0 ≤ slots + 19; omega) ?_
  exact kk _ _ _ _ _ ⟨w.swap, ⟨tc, ac, cn, hx, hfr⟩, hO⟩ h1 hS0

set_option maxHeartbeats 400000 in
set_option maxRecDepth 100000 in
theorem law_about {p : Program} {l : Launch} {e : Env} {s : State} {m : MethodId} {below : List Frame} {meth : Method} {c : Code} {b L : Nat} {xs : Nat → Int32} {D : va_G} {ar : Nat → ClassId} {H : Heap} {locs : List Loc} {ls : Array Slot} {Zc Zm : zZ} {S M : zS} {n a1 a2 i cells slots : Nat} {Q : State → Prop} (hM : zM p c m #[Value.ref b] s code RL D ar) (hml : c.maxLocals = 4) (hX : va_X b L xs s s.heap) (hL : L ≤ 2049) (hi : i + 4 ≤ L) (I : lwI s.heap.size n D ar Zc Zm S M H) (h1 : Zc.1 7 0 = a1) (h2 : Zm.1 8 0 = a2) (hS0 : va_S (fun q => s.heap.size ≤ q) s.heap H locs) (hl : lv_has ls 4 [(3, .int (nI i)), (2, .ref a2), (1, .ref a1), (0, .ref b)]) (hc : cells + 3 ≤ 600000) (hs : slots + 19 ≤ 7302250)
    (kk : ∀ (Zc' : zZ) (S' M' : zS) (H1 : Heap) (locs1 : List Loc), lwI s.heap.size n D ar Zc' Zm S' M' H1 → Zc'.1 7 0 = a1 → va_S (fun q => s.heap.size ≤ q) s.heap H1 locs1 → W p l e room_1 s m #[Value.ref b] below meth c H1 locs1 (cells + 3) (slots + 19) Q (F0 m 761 ls [])) : W p l e room_1 s m #[Value.ref b] below meth c H locs cells slots Q (F0 m 738 ls []) := by
  obtain ⟨w, ⟨tc, ac, cn, hx, hfr⟩, hO⟩ := I
  have hbl := hX.lt
  have hbA : ¬ (fun q => s.heap.size ≤ q) b := Nat.not_le.mpr hbl
  have v1 : vp_in ((nI i) + (1)) L := law_in (k := 1) hi hL (by omega)
  have v2 : vp_in ((nI i) + (2)) L := law_in (k := 2) hi hL (by omega)
  have v3 : vp_in ((nI i) + (3)) L := law_in (k := 3) hi hL (by omega)
  refine lv_aload_n hM.1 hM.2.1 dL_law_738 rfl (lv_at hl 2 rfl) ?_
  refine lv_aload_n hM.1 hM.2.1 dL_law_739 rfl (lv_at hl 3 rfl) ?_
  refine lv_iload_n hM.1 hM.2.1 dL_law_740 rfl (lv_at hl 0 rfl) ?_
  refine lv_iconst (v := 1) hM.1 hM.2.1 dL_law_741 (by decide) ?_
  refine lv_iadd hM.1 hM.2.1 dL_law_742 ?_
  refine va_sld hM.1 hM.2.1 hX hbl hbA hS0 v1 dL_law_743 ?_
  refine lawV hM (hml.trans hl.1.symm) w hS0 zc7 hx.1.d7 h1 zyX7_about lm_L_111 li_yX7_about le_yX7_about (As := [.int (xs (ix ((nI i) + (1))))]) (rest := []) (c_X7_about hx.1) rfl rfl (Nat.le_of_ble_eq_true rfl) ⟨Nat.le_of_ble_eq_true rfl, Nat.le_of_ble_eq_true rfl⟩ ⟨by show cells + 0 ≤ 600000; omega, by show slots + 0 ≤ 7302250; omega⟩ dL_law_744 (fun r Zc1 S1 H locs hp w hS0 => ?_)
  obtain ⟨hr7, hz7, hs7⟩ := hp
  subst hr7
  rw [hz7, hs7] at w
  refine W.eq (g2 := F0 m 747 ls (.int _ :: [])) rfl ?_
  refine lv_aload_n hM.1 hM.2.1 dL_law_747 rfl (lv_at hl 1 rfl) ?_
  refine lv_aload_n hM.1 hM.2.1 dL_law_748 rfl (lv_at hl 3 rfl) ?_
  refine lv_iload_n hM.1 hM.2.1 dL_law_749 rfl (lv_at hl 0 rfl) ?_
  refine lv_iconst (v := 1) hM.1 hM.2.1 dL_law_750 (by decide) ?_
  refine lv_iadd hM.1 hM.2.1 dL_law_751 ?_
  refine va_sld hM.1 hM.2.1 hX hbl hbA hS0 v1 dL_law_752 ?_
  refine lawV hM (hml.trans hl.1.symm) w.swap hS0 zc8 hO.1 h2 zyX8_about lm_L_114 li_yX8_about le_yX8_about (As := [.int (xs (ix ((nI i) + (1))))]) (rest := [.int _]) (c_X8_about hO) rfl rfl (Nat.le_of_ble_eq_true rfl) ⟨Nat.le_of_ble_eq_true rfl, Nat.le_of_ble_eq_true rfl⟩ ⟨by show cells + 0 + 0 ≤ 600000; omega, by show slots + 0 + 0 ≤ 7302250; omega⟩ dL_law_753 (fun r Zm1 M1 H locs hp w hS0 => ?_)
  obtain ⟨hr8, hz8, hs8⟩ := hp
  subst hr8
  rw [hz8, hs8] at w
  refine W.eq (g2 := F0 m 756 ls (.int _ :: [.int _])) rfl ?_
  have er := x_about (x := (xs (ix ((nI i) + (1))))) hx
  refine lv_icmp_eq hM.1 hM.2.1 dL_law_756 (tgt := 761) (by decide) (fun _ => ?_) (fun h => absurd er h)
  refine W.widen (k := cells + 3) (n := slots + 19) (by show cells + 0 + 0 ≤ cells + 3; omega) (by show slots + 0 + 0 ≤ slots + 19; omega) ?_
  exact kk _ _ _ _ _ ⟨w.swap, ⟨tc, ac, cn, hx, hfr⟩, hO⟩ h1 hS0
