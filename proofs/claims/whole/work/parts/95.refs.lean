/-! the reference's references never change -/
def kq (T M : zS) : Prop := T.2.2 = M.2.2
theorem kq_si {T M : zS} {K I x : Nat} {v : Int32} (h : kq T M) : kq (si T K I x v) M := h
theorem kq_sj {T M : zS} {K I x : Nat} {v : Int64} (h : kq T M) : kq (sj T K I x v) M := h
theorem kq_pif {b : Prop} {A B M : zS} (h1 : kq A M) (h2 : kq B M) : kq (pif b A B) M := (Classical.em b).elim (fun h => by rw [pif_pos h]; exact h1) (fun h => by rw [pif_neg h]; exact h2)
theorem kq_put {M T : zS} {cn : Nat} {x1 x2 x3 x4 x5 x6 x7 x8 : Int32} {v : Int64} {x9 x10 x11 : Int32} (h : kq T M) : kq (s_X8_put T cn x1 x2 x3 x4 x5 x6 x7 x8 v x9 x10 x11) M := k_X8_put.trans h
theorem kq_ask {M T : zS} {cn : Nat} {x y : Int32} (h : kq T M) : kq (s_X8_ask T cn x y) M := k_X8_ask.trans h
theorem kq_asks {x : Int32} {M : zS} : ∀ (f j : Nat) (T : zS), kq T M → kq (lAsk x f j T) M := by
  intro f
  induction f with
  | zero => intro j T h; exact h
  | succ f ih => intro j T h; exact ih (j + 1) _ (kq_ask h)
theorem kq_begin {n : Nat} {x y : Int32} {T M : zS} (h : kq T M) : kq (s_X8_beginPhase T n x y) M := kq_asks n 0 _ (kq_si (kq_si (kq_si h)))
theorem kq_finish {x : Int32} {T M : zS} (h : kq T M) : kq (s_X8_finish T x) M := k_X8_finish.trans h
theorem kq_goOn {n : Nat} {x : Int32} {T M : zS} (h : kq T M) : kq (s_X8_goOn T n x) M :=
  kq_pif (kq_pif (kq_begin (kq_si (kq_si h))) (kq_begin h)) (kq_pif (kq_finish h) (kq_pif (kq_begin (kq_si (kq_si h))) (kq_pif (kq_begin (kq_si h)) (kq_finish h))))
theorem kq_fin {n c : Nat} {x : Int32} {T M : zS} (h : kq T M) : kq (mFin T n c x) M := kq_pif h (kq_goOn h)
theorem kq_L2 {c : Nat} {ph g a b : Int32} {v : Int64} {T M : zS} (h : kq T M) : kq (mL2 T c ph g a b v) M := kq_pif (kq_pif h h) (kq_pif (kq_pif h h) h)
theorem kq_L3 {c : Nat} {ba la b0 l0 : Int32} {T M : zS} (h : kq T M) : kq (mL3 T c ba la b0 l0) M := kq_pif (kq_pif h h) (kq_pif h h)
theorem kq_take {cn k : Nat} {T M : zS} (h : kq T M) : kq (s_X8_take T cn k) M := k_X8_take.trans h
theorem kq_answer {k n : Nat} {T M : zS} (h : kq T M) : kq (s_X8_answer T n k) M := by
  rw [answer_eq]
  have hX : kq (mX T k) M := kq_L3 (kq_L2 (kq_si (kq_take h)))
  have ht : kq (s_X8_take T (ix (gi T 8 0 44)) k) M := kq_take h
  exact kq_pif ht (kq_pif (kq_pif (kq_pif (kq_pif (kq_pif (kq_pif (kq_fin hX) (kq_begin hX)) (kq_fin hX)) ht) ht) ht) ht)
theorem kq_ob {k2 : Nat} {ph t a b g la ba : Int32} {v : Int64} {T M : zS} (h : kq T M) : kq (mObV T k2 ph t a b v g la ba) M :=
  kq_pif (kq_pif h h) (kq_pif (kq_pif h h) (kq_pif (kq_pif h h) (kq_pif (kq_pif (kq_pif h h) (kq_pif h h)) h)))
theorem kq_request {k n : Nat} {T M : zS} (h : kq T M) : kq (s_X8_request T n k) M := by
  rw [request_eq]
  exact kq_put (kq_take (kq_ob h))
theorem kq_deliver {k n : Nat} {T M : zS} (h : kq T M) : kq (s_X8_deliver T n k) M := kq_pif h (kq_pif (kq_request (kq_si h)) (kq_answer (kq_si h)))
theorem pif_1 {α β : Type} {b : Prop} {x y : α × β} : (pif b x y).1 = pif b x.1 y.1 := (Classical.em b).elim (fun h => by rw [pif_pos h, pif_pos h]) (fun h => by rw [pif_neg h, pif_neg h])
theorem kq_lSt {n : Nat} {M : zS} : ∀ (f m : Nat) (T : zS), kq T M → kq (lSt n f m T).1 M := by
  intro f
  induction f with
  | zero => intro m T h; exact h
  | succ f ih =>
    intro m T h
    show kq (pif (mFst T < ix (gi T 8 0 44)) (pif ((r_X8_deliver T n (mFst T)) = (0)) (s_X8_deliver T n (mFst T), nI m) (lSt n f (m + 1) (s_X8_deliver T n (mFst T)))) (T, nI m)).1 M
    rw [pif_1, pif_1]
    exact kq_pif (kq_pif (kq_deliver h) (ih (m + 1) _ (kq_deliver h))) h
theorem kq_settle {n : Nat} {x : Int32} {M : zS} : kq (s_X8_settle M n x) M := kq_pif (kq_lSt _ _ _ rfl) rfl
theorem kq_lAg {x : Int32} {M : zS} : ∀ (f k : Nat) (T : zS) (r : Int32), kq T M → kq (lAg x f k T r).1 M := by
  intro f
  induction f with
  | zero => intro k T r h; exact h
  | succ f ih =>
    intro k T r h
    show kq (pif (((gi T 9 (117) (ix (x))) >>> ((nI k) &&& 31)) &&& (1) = (1)) (lAg x f (k + 1) T r) (lAg x f (k + 1) (s_X8_ask T (ix (gi T 8 0 44)) (x) (nI k)) (r + 1))).1 M
    rw [pif_1]
    exact kq_pif (ih (k + 1) T r h) (ih (k + 1) _ _ (kq_ask h))
theorem kq_again {n : Nat} {x : Int32} {M : zS} : kq (s_X8_again M n x) M := kq_pif rfl (kq_pif (kq_lAg _ _ _ _ rfl) rfl)
theorem kq_beginAct {n ac : Nat} {x y : Int32} {v : Int64} {t : Int32} {T M : zS} (h : kq T M) : kq (s_X8_beginAct T n ac x y v t) M := kq_pif (kq_begin (T := _) h) (kq_begin (T := _) h)
theorem kq_read {n : Nat} {x : Int32} {M : zS} : kq (s_X8_read M n x) M := kq_pif rfl (kq_pif rfl (kq_pif rfl (kq_beginAct rfl)))
theorem kq_write {n : Nat} {x : Int32} {v : Int64} {M : zS} : kq (s_X8_write M n x v) M := kq_pif rfl (kq_pif rfl (kq_pif rfl (kq_beginAct rfl)))
theorem kq_resume {n : Nat} {M : zS} : kq (s_X8_resume M n) M := kq_pif rfl (kq_pif rfl (kq_pif rfl (kq_beginAct rfl)))
theorem kq_ch {n tc ac : Nat} {x y : Int32} {M : zS} : kq (chS n tc ac x y (lTb tc n 0 M)) M := kq_beginAct (show kq (si (si (si (lTb tc n 0 M) 9 (108) (9 * tc + 7) (x)) 9 (108) (9 * tc + 8) (y)) 8 (0) (10) (nI (tc + 1))) M from congrArg Prod.snd (lTb_2 n 0 M))
theorem kq_change {n tc ac : Nat} {x y : Int32} {M : zS} : kq (s_X8_change M n tc ac x y) M :=
  kq_pif rfl (kq_pif rfl (kq_pif rfl (kq_pif rfl (kq_pif rfl (kq_pif rfl (kq_pif rfl (kq_pif rfl (kq_pif rfl (kq_pif kq_ch rfl)))))))))
theorem kq_twice {n k : Nat} {M : zS} : kq (s_X8_twice M n k) M := kq_pif rfl (kq_put rfl)
theorem kq_lose {n k : Nat} {M : zS} : kq (s_X8_lose M n k) M := kq_take rfl
