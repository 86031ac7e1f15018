def b16 (x : Int32) : Prop := x = nI (ix x) ∧ ix x < 16
/-- what holds of the reference's state between its calls, so that its own indices are good -/
def mI (n : Nat) (Z : zZ) (M : zS) : Prop := mOK Z M.2.2 ∧ (1 ≤ n ∧ n ≤ 7 ∧ gi M 8 0 0 = nI n) ∧ (gi M 8 0 44 = nI (ix (gi M 8 0 44)) ∧ ix (gi M 8 0 44) ≤ 300) ∧ (∀ i, i < 300 → isB (gi M 11 132 i)) ∧
  (∀ k, k < ix (gi M 8 0 44) → vp_in (gi M 9 133 k) 7 ∧ vp_in (gi M 9 134 k) 4 ∧ b16 (gi M 9 141 k) ∧ gi M 9 142 k < 16) ∧
  (∀ c, c < 4 → b16 (gi M 9 114 c) ∧ gi M 9 115 c < 16 ∧ (¬ gi M 9 111 c < 0 → vp_in (gi M 9 111 c) 201 ∧ ix (gi M 9 127 (ix (gi M 9 111 c))) < 16 ∧ (gi M 9 112 c = 3 → gi M 9 127 (ix (gi M 9 111 c)) - 1 < 16) ∧ (¬ gi M 9 112 c = 1 → ¬ gi M 9 112 c = 2 → ¬ gi M 9 112 c = 3 → b16 (gi M 9 127 (ix (gi M 9 111 c)))))) ∧
  (gi M 8 0 29 = nI (ix (gi M 8 0 29)) ∧ ix (gi M 8 0 29) ≤ 200) ∧ (gi M 8 0 10 = nI (ix (gi M 8 0 10)) ∧ 1 ≤ ix (gi M 8 0 10) ∧ ix (gi M 8 0 10) ≤ 16)
theorem mI.O {n : Nat} {Z : zZ} {M : zS} (h : mI n Z M) : mOK Z M.2.2 := h.1
theorem mI.n {n : Nat} {Z : zZ} {M : zS} (h : mI n Z M) : gi M 8 0 0 = nI n := h.2.1.2.2
theorem mI.n7 {n : Nat} {Z : zZ} {M : zS} (h : mI n Z M) : n ≤ 7 := h.2.1.2.1
theorem mI.cn {n : Nat} {Z : zZ} {M : zS} (h : mI n Z M) : gi M 8 0 44 = nI (ix (gi M 8 0 44)) := h.2.2.1.1
theorem mI.cm {n : Nat} {Z : zZ} {M : zS} (h : mI n Z M) : ix (gi M 8 0 44) ≤ 300 := h.2.2.1.2
theorem mI.b {n : Nat} {Z : zZ} {M : zS} (h : mI n Z M) : ∀ i, i < 300 → isB (gi M 11 132 i) := h.2.2.2.1
theorem mI.msg {n : Nat} {Z : zZ} {M : zS} (h : mI n Z M) {k : Nat} (hk : k < ix (gi M 8 0 44)) : vp_in (gi M 9 133 k) 7 ∧ vp_in (gi M 9 134 k) 4 ∧ b16 (gi M 9 141 k) ∧ gi M 9 142 k < 16 := h.2.2.2.2.1 k hk
theorem mI.cl {n : Nat} {Z : zZ} {M : zS} (h : mI n Z M) {x : Int32} (hx : vp_in x 4) : b16 (gi M 9 114 (ix x)) ∧ gi M 9 115 (ix x) < 16 ∧ (¬ gi M 9 111 (ix x) < 0 → vp_in (gi M 9 111 (ix x)) 201 ∧ ix (gi M 9 127 (ix (gi M 9 111 (ix x)))) < 16 ∧ (gi M 9 112 (ix x) = 3 → gi M 9 127 (ix (gi M 9 111 (ix x))) - 1 < 16) ∧ (¬ gi M 9 112 (ix x) = 1 → ¬ gi M 9 112 (ix x) = 2 → ¬ gi M 9 112 (ix x) = 3 → b16 (gi M 9 127 (ix (gi M 9 111 (ix x)))))) := h.2.2.2.2.2.1 (ix x) (vin_lt hx rfl)
theorem mI.ac {n : Nat} {Z : zZ} {M : zS} (h : mI n Z M) : gi M 8 0 29 = nI (ix (gi M 8 0 29)) := h.2.2.2.2.2.2.1.1
theorem mI.am {n : Nat} {Z : zZ} {M : zS} (h : mI n Z M) : ix (gi M 8 0 29) ≤ 200 := h.2.2.2.2.2.2.1.2
theorem mI.tc {n : Nat} {Z : zZ} {M : zS} (h : mI n Z M) : gi M 8 0 10 = nI (ix (gi M 8 0 10)) := h.2.2.2.2.2.2.2.1
theorem mI.t1 {n : Nat} {Z : zZ} {M : zS} (h : mI n Z M) : 1 ≤ ix (gi M 8 0 10) := h.2.2.2.2.2.2.2.2.1
theorem mI.tm {n : Nat} {Z : zZ} {M : zS} (h : mI n Z M) : ix (gi M 8 0 10) ≤ 16 := h.2.2.2.2.2.2.2.2.2
noncomputable def s_X8_request (S : zS) (n k : Nat) : zS := 
  (pif ((gi S 9 (136) (k)) = (2)) 
    (pif ((r_X8_isGreater S (gi S 9 (138) (k)) (gi S 9 (139) (k)) (gi S 9 (102) (ix (gi S 9 (133) (k)))) (gi S 9 (103) (ix (gi S 9 (133) (k))))) = (0)) ((s_X8_put (s_X8_take S (ix (gi S 8 0 44)) k) ((ix (gi S 8 0 44)) - 1) (1) (gi S 9 (133) (k)) (gi S 9 (134) (k)) (gi S 9 (135) (k)) (gi S 9 (136) (k)) (gi S 9 (137) (k)) (gi (s_X8_take S (ix (gi S 8 0 44)) k) 9 (102) (ix (gi S 9 (133) (k)))) (gi (s_X8_take S (ix (gi S 8 0 44)) k) 9 (103) (ix (gi S 9 (133) (k)))) (gj (s_X8_take S (ix (gi S 8 0 44)) k) 10 (101) (ix (gi S 9 (133) (k)))) ((-1)) (gi (s_X8_take S (ix (gi S 8 0 44)) k) 9 (104) (ix (gi S 9 (133) (k)))) (gi (s_X8_take S (ix (gi S 8 0 44)) k) 9 (105) (ix (gi S 9 (133) (k)))))) ((s_X8_put (s_X8_take (sj (si (si S 9 (102) (ix (gi S 9 (133) (k))) (gi S 9 (138) (k))) 9 (103) (ix (gi S 9 (133) (k))) (gi S 9 (139) (k))) 10 (101) (ix (gi S 9 (133) (k))) (gj S 10 (143) (k))) (ix (gi S 8 0 44)) k) ((ix (gi S 8 0 44)) - 1) (1) (gi S 9 (133) (k)) (gi S 9 (134) (k)) (gi S 9 (135) (k)) (gi S 9 (136) (k)) (gi S 9 (137) (k)) (gi (s_X8_take (sj (si (si S 9 (102) (ix (gi S 9 (133) (k))) (gi S 9 (138) (k))) 9 (103) (ix (gi S 9 (133) (k))) (gi S 9 (139) (k))) 10 (101) (ix (gi S 9 (133) (k))) (gj S 10 (143) (k))) (ix (gi S 8 0 44)) k) 9 (102) (ix (gi S 9 (133) (k)))) (gi (s_X8_take (sj (si (si S 9 (102) (ix (gi S 9 (133) (k))) (gi S 9 (138) (k))) 9 (103) (ix (gi S 9 (133) (k))) (gi S 9 (139) (k))) 10 (101) (ix (gi S 9 (133) (k))) (gj S 10 (143) (k))) (ix (gi S 8 0 44)) k) 9 (103) (ix (gi S 9 (133) (k)))) (gj (s_X8_take (sj (si (si S 9 (102) (ix (gi S 9 (133) (k))) (gi S 9 (138) (k))) 9 (103) (ix (gi S 9 (133) (k))) (gi S 9 (139) (k))) 10 (101) (ix (gi S 9 (133) (k))) (gj S 10 (143) (k))) (ix (gi S 8 0 44)) k) 10 (101) (ix (gi S 9 (133) (k)))) ((-1)) (gi (s_X8_take (sj (si (si S 9 (102) (ix (gi S 9 (133) (k))) (gi S 9 (138) (k))) 9 (103) (ix (gi S 9 (133) (k))) (gi S 9 (139) (k))) 10 (101) (ix (gi S 9 (133) (k))) (gj S 10 (143) (k))) (ix (gi S 8 0 44)) k) 9 (104) (ix (gi S 9 (133) (k)))) (gi (s_X8_take (sj (si (si S 9 (102) (ix (gi S 9 (133) (k))) (gi S 9 (138) (k))) 9 (103) (ix (gi S 9 (133) (k))) (gi S 9 (139) (k))) 10 (101) (ix (gi S 9 (133) (k))) (gj S 10 (143) (k))) (ix (gi S 8 0 44)) k) 9 (105) (ix (gi S 9 (133) (k))))))) 
    (pif ((gi S 9 (136) (k)) = (4)) 
      (pif ((r_X8_isGreater S (gi S 9 (138) (k)) (gi S 9 (139) (k)) (gi S 9 (102) (ix (gi S 9 (133) (k)))) (gi S 9 (103) (ix (gi S 9 (133) (k))))) = (0)) ((s_X8_put (s_X8_take S (ix (gi S 8 0 44)) k) ((ix (gi S 8 0 44)) - 1) (1) (gi S 9 (133) (k)) (gi S 9 (134) (k)) (gi S 9 (135) (k)) (gi S 9 (136) (k)) (gi S 9 (137) (k)) (gi (s_X8_take S (ix (gi S 8 0 44)) k) 9 (102) (ix (gi S 9 (133) (k)))) (gi (s_X8_take S (ix (gi S 8 0 44)) k) 9 (103) (ix (gi S 9 (133) (k)))) (gj (s_X8_take S (ix (gi S 8 0 44)) k) 10 (101) (ix (gi S 9 (133) (k)))) ((-1)) (gi (s_X8_take S (ix (gi S 8 0 44)) k) 9 (104) (ix (gi S 9 (133) (k)))) (gi (s_X8_take S (ix (gi S 8 0 44)) k) 9 (105) (ix (gi S 9 (133) (k)))))) ((s_X8_put (s_X8_take (sj (si (si S 9 (102) (ix (gi S 9 (133) (k))) (gi S 9 (138) (k))) 9 (103) (ix (gi S 9 (133) (k))) (gi S 9 (139) (k))) 10 (101) (ix (gi S 9 (133) (k))) (gj S 10 (143) (k))) (ix (gi S 8 0 44)) k) ((ix (gi S 8 0 44)) - 1) (1) (gi S 9 (133) (k)) (gi S 9 (134) (k)) (gi S 9 (135) (k)) (gi S 9 (136) (k)) (gi S 9 (137) (k)) (gi (s_X8_take (sj (si (si S 9 (102) (ix (gi S 9 (133) (k))) (gi S 9 (138) (k))) 9 (103) (ix (gi S 9 (133) (k))) (gi S 9 (139) (k))) 10 (101) (ix (gi S 9 (133) (k))) (gj S 10 (143) (k))) (ix (gi S 8 0 44)) k) 9 (102) (ix (gi S 9 (133) (k)))) (gi (s_X8_take (sj (si (si S 9 (102) (ix (gi S 9 (133) (k))) (gi S 9 (138) (k))) 9 (103) (ix (gi S 9 (133) (k))) (gi S 9 (139) (k))) 10 (101) (ix (gi S 9 (133) (k))) (gj S 10 (143) (k))) (ix (gi S 8 0 44)) k) 9 (103) (ix (gi S 9 (133) (k)))) (gj (s_X8_take (sj (si (si S 9 (102) (ix (gi S 9 (133) (k))) (gi S 9 (138) (k))) 9 (103) (ix (gi S 9 (133) (k))) (gi S 9 (139) (k))) 10 (101) (ix (gi S 9 (133) (k))) (gj S 10 (143) (k))) (ix (gi S 8 0 44)) k) 10 (101) (ix (gi S 9 (133) (k)))) ((-1)) (gi (s_X8_take (sj (si (si S 9 (102) (ix (gi S 9 (133) (k))) (gi S 9 (138) (k))) 9 (103) (ix (gi S 9 (133) (k))) (gi S 9 (139) (k))) 10 (101) (ix (gi S 9 (133) (k))) (gj S 10 (143) (k))) (ix (gi S 8 0 44)) k) 9 (104) (ix (gi S 9 (133) (k)))) (gi (s_X8_take (sj (si (si S 9 (102) (ix (gi S 9 (133) (k))) (gi S 9 (138) (k))) 9 (103) (ix (gi S 9 (133) (k))) (gi S 9 (139) (k))) 10 (101) (ix (gi S 9 (133) (k))) (gj S 10 (143) (k))) (ix (gi S 8 0 44)) k) 9 (105) (ix (gi S 9 (133) (k))))))) 
      (pif ((gi S 9 (136) (k)) = (3)) 
        (pif ((gi S 9 (140) (k)) ≤ (gi S 9 (105) (ix (gi S 9 (133) (k))))) ((s_X8_put (s_X8_take S (ix (gi S 8 0 44)) k) ((ix (gi S 8 0 44)) - 1) (1) (gi S 9 (133) (k)) (gi S 9 (134) (k)) (gi S 9 (135) (k)) (gi S 9 (136) (k)) (gi S 9 (137) (k)) (gi (s_X8_take S (ix (gi S 8 0 44)) k) 9 (102) (ix (gi S 9 (133) (k)))) (gi (s_X8_take S (ix (gi S 8 0 44)) k) 9 (103) (ix (gi S 9 (133) (k)))) (gj (s_X8_take S (ix (gi S 8 0 44)) k) 10 (101) (ix (gi S 9 (133) (k)))) ((-1)) (gi (s_X8_take S (ix (gi S 8 0 44)) k) 9 (104) (ix (gi S 9 (133) (k)))) (gi (s_X8_take S (ix (gi S 8 0 44)) k) 9 (105) (ix (gi S 9 (133) (k)))))) ((s_X8_put (s_X8_take (si S 9 (105) (ix (gi S 9 (133) (k))) (gi S 9 (140) (k))) (ix (gi S 8 0 44)) k) ((ix (gi S 8 0 44)) - 1) (1) (gi S 9 (133) (k)) (gi S 9 (134) (k)) (gi S 9 (135) (k)) (gi S 9 (136) (k)) (gi S 9 (137) (k)) (gi (s_X8_take (si S 9 (105) (ix (gi S 9 (133) (k))) (gi S 9 (140) (k))) (ix (gi S 8 0 44)) k) 9 (102) (ix (gi S 9 (133) (k)))) (gi (s_X8_take (si S 9 (105) (ix (gi S 9 (133) (k))) (gi S 9 (140) (k))) (ix (gi S 8 0 44)) k) 9 (103) (ix (gi S 9 (133) (k)))) (gj (s_X8_take (si S 9 (105) (ix (gi S 9 (133) (k))) (gi S 9 (140) (k))) (ix (gi S 8 0 44)) k) 10 (101) (ix (gi S 9 (133) (k)))) ((-1)) (gi (s_X8_take (si S 9 (105) (ix (gi S 9 (133) (k))) (gi S 9 (140) (k))) (ix (gi S 8 0 44)) k) 9 (104) (ix (gi S 9 (133) (k)))) (gi (s_X8_take (si S 9 (105) (ix (gi S 9 (133) (k))) (gi S 9 (140) (k))) (ix (gi S 8 0 44)) k) 9 (105) (ix (gi S 9 (133) (k))))))) 
        (pif ((gi S 9 (136) (k)) = (5)) 
          (pif ((gi S 9 (140) (k)) ≤ (gi S 9 (105) (ix (gi S 9 (133) (k))))) 
            (pif ((gi S 9 (140) (k)) ≤ (gi S 9 (104) (ix (gi S 9 (133) (k))))) ((s_X8_put (s_X8_take S (ix (gi S 8 0 44)) k) ((ix (gi S 8 0 44)) - 1) (1) (gi S 9 (133) (k)) (gi S 9 (134) (k)) (gi S 9 (135) (k)) (gi S 9 (136) (k)) (gi S 9 (137) (k)) (gi (s_X8_take S (ix (gi S 8 0 44)) k) 9 (102) (ix (gi S 9 (133) (k)))) (gi (s_X8_take S (ix (gi S 8 0 44)) k) 9 (103) (ix (gi S 9 (133) (k)))) (gj (s_X8_take S (ix (gi S 8 0 44)) k) 10 (101) (ix (gi S 9 (133) (k)))) ((-1)) (gi (s_X8_take S (ix (gi S 8 0 44)) k) 9 (104) (ix (gi S 9 (133) (k)))) (gi (s_X8_take S (ix (gi S 8 0 44)) k) 9 (105) (ix (gi S 9 (133) (k)))))) ((s_X8_put (s_X8_take (si S 9 (104) (ix (gi S 9 (133) (k))) (gi S 9 (140) (k))) (ix (gi S 8 0 44)) k) ((ix (gi S 8 0 44)) - 1) (1) (gi S 9 (133) (k)) (gi S 9 (134) (k)) (gi S 9 (135) (k)) (gi S 9 (136) (k)) (gi S 9 (137) (k)) (gi (s_X8_take (si S 9 (104) (ix (gi S 9 (133) (k))) (gi S 9 (140) (k))) (ix (gi S 8 0 44)) k) 9 (102) (ix (gi S 9 (133) (k)))) (gi (s_X8_take (si S 9 (104) (ix (gi S 9 (133) (k))) (gi S 9 (140) (k))) (ix (gi S 8 0 44)) k) 9 (103) (ix (gi S 9 (133) (k)))) (gj (s_X8_take (si S 9 (104) (ix (gi S 9 (133) (k))) (gi S 9 (140) (k))) (ix (gi S 8 0 44)) k) 10 (101) (ix (gi S 9 (133) (k)))) ((-1)) (gi (s_X8_take (si S 9 (104) (ix (gi S 9 (133) (k))) (gi S 9 (140) (k))) (ix (gi S 8 0 44)) k) 9 (104) (ix (gi S 9 (133) (k)))) (gi (s_X8_take (si S 9 (104) (ix (gi S 9 (133) (k))) (gi S 9 (140) (k))) (ix (gi S 8 0 44)) k) 9 (105) (ix (gi S 9 (133) (k))))))) 
            (pif ((gi S 9 (140) (k)) ≤ (gi S 9 (104) (ix (gi S 9 (133) (k))))) ((s_X8_put (s_X8_take (si S 9 (105) (ix (gi S 9 (133) (k))) (gi S 9 (140) (k))) (ix (gi S 8 0 44)) k) ((ix (gi S 8 0 44)) - 1) (1) (gi S 9 (133) (k)) (gi S 9 (134) (k)) (gi S 9 (135) (k)) (gi S 9 (136) (k)) (gi S 9 (137) (k)) (gi (s_X8_take (si S 9 (105) (ix (gi S 9 (133) (k))) (gi S 9 (140) (k))) (ix (gi S 8 0 44)) k) 9 (102) (ix (gi S 9 (133) (k)))) (gi (s_X8_take (si S 9 (105) (ix (gi S 9 (133) (k))) (gi S 9 (140) (k))) (ix (gi S 8 0 44)) k) 9 (103) (ix (gi S 9 (133) (k)))) (gj (s_X8_take (si S 9 (105) (ix (gi S 9 (133) (k))) (gi S 9 (140) (k))) (ix (gi S 8 0 44)) k) 10 (101) (ix (gi S 9 (133) (k)))) ((-1)) (gi (s_X8_take (si S 9 (105) (ix (gi S 9 (133) (k))) (gi S 9 (140) (k))) (ix (gi S 8 0 44)) k) 9 (104) (ix (gi S 9 (133) (k)))) (gi (s_X8_take (si S 9 (105) (ix (gi S 9 (133) (k))) (gi S 9 (140) (k))) (ix (gi S 8 0 44)) k) 9 (105) (ix (gi S 9 (133) (k)))))) ((s_X8_put (s_X8_take (si (si S 9 (105) (ix (gi S 9 (133) (k))) (gi S 9 (140) (k))) 9 (104) (ix (gi S 9 (133) (k))) (gi S 9 (140) (k))) (ix (gi S 8 0 44)) k) ((ix (gi S 8 0 44)) - 1) (1) (gi S 9 (133) (k)) (gi S 9 (134) (k)) (gi S 9 (135) (k)) (gi S 9 (136) (k)) (gi S 9 (137) (k)) (gi (s_X8_take (si (si S 9 (105) (ix (gi S 9 (133) (k))) (gi S 9 (140) (k))) 9 (104) (ix (gi S 9 (133) (k))) (gi S 9 (140) (k))) (ix (gi S 8 0 44)) k) 9 (102) (ix (gi S 9 (133) (k)))) (gi (s_X8_take (si (si S 9 (105) (ix (gi S 9 (133) (k))) (gi S 9 (140) (k))) 9 (104) (ix (gi S 9 (133) (k))) (gi S 9 (140) (k))) (ix (gi S 8 0 44)) k) 9 (103) (ix (gi S 9 (133) (k)))) (gj (s_X8_take (si (si S 9 (105) (ix (gi S 9 (133) (k))) (gi S 9 (140) (k))) 9 (104) (ix (gi S 9 (133) (k))) (gi S 9 (140) (k))) (ix (gi S 8 0 44)) k) 10 (101) (ix (gi S 9 (133) (k)))) ((-1)) (gi (s_X8_take (si (si S 9 (105) (ix (gi S 9 (133) (k))) (gi S 9 (140) (k))) 9 (104) (ix (gi S 9 (133) (k))) (gi S 9 (140) (k))) (ix (gi S 8 0 44)) k) 9 (104) (ix (gi S 9 (133) (k)))) (gi (s_X8_take (si (si S 9 (105) (ix (gi S 9 (133) (k))) (gi S 9 (140) (k))) 9 (104) (ix (gi S 9 (133) (k))) (gi S 9 (140) (k))) (ix (gi S 8 0 44)) k) 9 (105) (ix (gi S 9 (133) (k)))))))) ((s_X8_put (s_X8_take S (ix (gi S 8 0 44)) k) ((ix (gi S 8 0 44)) - 1) (1) (gi S 9 (133) (k)) (gi S 9 (134) (k)) (gi S 9 (135) (k)) (gi S 9 (136) (k)) (gi S 9 (137) (k)) (gi (s_X8_take S (ix (gi S 8 0 44)) k) 9 (102) (ix (gi S 9 (133) (k)))) (gi (s_X8_take S (ix (gi S 8 0 44)) k) 9 (103) (ix (gi S 9 (133) (k)))) (gj (s_X8_take S (ix (gi S 8 0 44)) k) 10 (101) (ix (gi S 9 (133) (k)))) ((-1)) (gi (s_X8_take S (ix (gi S 8 0 44)) k) 9 (104) (ix (gi S 9 (133) (k)))) (gi (s_X8_take S (ix (gi S 8 0 44)) k) 9 (105) (ix (gi S 9 (133) (k))))))))))
set_option maxHeartbeats 400000 in
set_option maxRecDepth 100000 in
theorem c_X8_request {l : Launch} {D : va_G} {ar : Nat → ClassId} {A : Nat → Prop} {Z : zZ} {S : zS} {n k : Nat} (hI : mI n Z S) (hk : k < ix (gi S 8 0 44)) : zMet l yX8_request prog_10_method_23_code 8 none ({ frames := 1, cells := 0, slots := 0, locals := 33 } : Room) D ar A Z S [.ref (Z.1 8 (0)), .int (nI k)] rvV (zF () Z (s_X8_request S n k)) := by
  refine z_body (by decide +kernel) (Nat.le_of_ble_eq_true rfl) ?_
  intro pX eX sX mX bX methX cX ls hM hr hlk hml hin hl hW hlo
  have hM : zM pX cX mX _ sX prog_10_method_23_code RX8 D ar := hM
  have hS : va_S A sX.heap sX.heap [] := va_S.rf
  have hl : lv_has ls 8 [(0, .ref (Z.1 8 (0))), (1, .int (nI k))] := hl
  have hO := hI.O
  have hn := hI.n
  have h7 := hI.n7
  have hcm9 := hI.cm
  refine lv_aload_n hM.1 hM.2.1 dX8_request_0 rfl (lv_at hl 0 rfl) ?_
  refine z_getr hM hW zc8 hI.O.1 rfl 33 (by decide) lf_X8_96 (t := 9) (j := 133) rfl (hO.r 33 (by decide) (by decide)) dX8_request_1 (fun hd1_1 => ?_)
  refine lv_iload_n hM.1 hM.2.1 dX8_request_4 rfl (lv_at hl 1 rfl) ?_
  refine z_iald hM hW hd1_1 rfl (vin_nI (hO.l 33 (by decide) (by decide)) (by have : mlen 33 = 300 := rfl; omega) (by decide)) (v := gi S 9 (133) (k)) ((congrArg (gi S 9 (133)) (nI_clamp (by omega))).trans rfl) dX8_request_5 ?_
  refine lv_istore_n hM.1 hM.2.1 dX8_request_6 rfl hl (by decide) (lv' := [(2, .int (gi S 9 (133) (k))), (0, .ref (Z.1 8 (0))), (1, .int (nI k))]) rfl (fun ls hl => ?_)
  refine lv_aload_n hM.1 hM.2.1 dX8_request_7 rfl (lv_at hl 1 rfl) ?_
  refine z_getr hM hW zc8 hI.O.1 rfl 34 (by decide) lf_X8_99 (t := 9) (j := 134) rfl (hO.r 34 (by decide) (by decide)) dX8_request_8 (fun hd2_8 => ?_)
  refine lv_iload_n hM.1 hM.2.1 dX8_request_11 rfl (lv_at hl 2 rfl) ?_
  refine z_iald hM hW hd2_8 rfl (vin_nI (hO.l 34 (by decide) (by decide)) (by have : mlen 34 = 300 := rfl; omega) (by decide)) (v := gi S 9 (134) (k)) ((congrArg (gi S 9 (134)) (nI_clamp (by omega))).trans rfl) dX8_request_12 ?_
  refine lv_istore_n hM.1 hM.2.1 dX8_request_13 rfl hl (by decide) (lv' := [(3, .int (gi S 9 (134) (k))), (2, .int (gi S 9 (133) (k))), (0, .ref (Z.1 8 (0))), (1, .int (nI k))]) rfl (fun ls hl => ?_)
  refine lv_aload_n hM.1 hM.2.1 dX8_request_14 rfl (lv_at hl 2 rfl) ?_
  refine z_getr hM hW zc8 hI.O.1 rfl 35 (by decide) lf_X8_102 (t := 9) (j := 135) rfl (hO.r 35 (by decide) (by decide)) dX8_request_15 (fun hd3_15 => ?_)
  refine lv_iload_n hM.1 hM.2.1 dX8_request_18 rfl (lv_at hl 3 rfl) ?_
  refine z_iald hM hW hd3_15 rfl (vin_nI (hO.l 35 (by decide) (by decide)) (by have : mlen 35 = 300 := rfl; omega) (by decide)) (v := gi S 9 (135) (k)) ((congrArg (gi S 9 (135)) (nI_clamp (by omega))).trans rfl) dX8_request_19 ?_
  refine lv_istore hM.1 hM.2.1 dX8_request_20 hl (by decide) (lv' := [(4, .int (gi S 9 (135) (k))), (3, .int (gi S 9 (134) (k))), (2, .int (gi S 9 (133) (k))), (0, .ref (Z.1 8 (0))), (1, .int (nI k))]) rfl (fun ls hl => ?_)
  refine lv_aload_n hM.1 hM.2.1 dX8_request_22 rfl (lv_at hl 3 rfl) ?_
  refine z_getr hM hW zc8 hI.O.1 rfl 36 (by decide) lf_X8_105 (t := 9) (j := 136) rfl (hO.r 36 (by decide) (by decide)) dX8_request_23 (fun hd4_23 => ?_)
  refine lv_iload_n hM.1 hM.2.1 dX8_request_26 rfl (lv_at hl 4 rfl) ?_
  refine z_iald hM hW hd4_23 rfl (vin_nI (hO.l 36 (by decide) (by decide)) (by have : mlen 36 = 300 := rfl; omega) (by decide)) (v := gi S 9 (136) (k)) ((congrArg (gi S 9 (136)) (nI_clamp (by omega))).trans rfl) dX8_request_27 ?_
  refine lv_istore hM.1 hM.2.1 dX8_request_28 hl (by decide) (lv' := [(5, .int (gi S 9 (136) (k))), (4, .int (gi S 9 (135) (k))), (3, .int (gi S 9 (134) (k))), (2, .int (gi S 9 (133) (k))), (0, .ref (Z.1 8 (0))), (1, .int (nI k))]) rfl (fun ls hl => ?_)
  refine lv_aload_n hM.1 hM.2.1 dX8_request_30 rfl (lv_at hl 4 rfl) ?_
  refine z_getr hM hW zc8 hI.O.1 rfl 37 (by decide) lf_X8_108 (t := 9) (j := 137) rfl (hO.r 37 (by decide) (by decide)) dX8_request_31 (fun hd5_31 => ?_)
  refine lv_iload_n hM.1 hM.2.1 dX8_request_34 rfl (lv_at hl 5 rfl) ?_
  refine z_iald hM hW hd5_31 rfl (vin_nI (hO.l 37 (by decide) (by decide)) (by have : mlen 37 = 300 := rfl; omega) (by decide)) (v := gi S 9 (137) (k)) ((congrArg (gi S 9 (137)) (nI_clamp (by omega))).trans rfl) dX8_request_35 ?_
  refine lv_istore hM.1 hM.2.1 dX8_request_36 hl (by decide) (lv' := [(6, .int (gi S 9 (137) (k))), (5, .int (gi S 9 (136) (k))), (4, .int (gi S 9 (135) (k))), (3, .int (gi S 9 (134) (k))), (2, .int (gi S 9 (133) (k))), (0, .ref (Z.1 8 (0))), (1, .int (nI k))]) rfl (fun ls hl => ?_)
  refine lv_aload_n hM.1 hM.2.1 dX8_request_38 rfl (lv_at hl 5 rfl) ?_
  refine z_getr hM hW zc8 hI.O.1 rfl 40 (by decide) lf_X8_117 (t := 9) (j := 140) rfl (hO.r 40 (by decide) (by decide)) dX8_request_39 (fun hd6_39 => ?_)
  refine lv_iload_n hM.1 hM.2.1 dX8_request_42 rfl (lv_at hl 6 rfl) ?_
  refine z_iald hM hW hd6_39 rfl (vin_nI (hO.l 40 (by decide) (by decide)) (by have : mlen 40 = 300 := rfl; omega) (by decide)) (v := gi S 9 (140) (k)) ((congrArg (gi S 9 (140)) (nI_clamp (by omega))).trans rfl) dX8_request_43 ?_
  refine lv_istore hM.1 hM.2.1 dX8_request_44 hl (by decide) (lv' := [(7, .int (gi S 9 (140) (k))), (6, .int (gi S 9 (137) (k))), (5, .int (gi S 9 (136) (k))), (4, .int (gi S 9 (135) (k))), (3, .int (gi S 9 (134) (k))), (2, .int (gi S 9 (133) (k))), (0, .ref (Z.1 8 (0))), (1, .int (nI k))]) rfl (fun ls hl => ?_)
  refine lv_iload hM.1 hM.2.1 dX8_request_46 (lv_at hl 2 rfl) ?_
  refine lv_iconst (v := 2) hM.1 hM.2.1 dX8_request_48 (by decide) ?_
  refine lv_icmp_eq hM.1 hM.2.1 dX8_request_49 (tgt := 58) (by decide) (fun h_49 => ?_) (fun h_49 => ?_)
  ·
    refine lv_aload_n hM.1 hM.2.1 dX8_request_58 rfl (lv_at hl 6 rfl) ?_
    refine z_getr hM hW zc8 hI.O.1 rfl 38 (by decide) lf_X8_111 (t := 9) (j := 138) rfl (hO.r 38 (by decide) (by decide)) dX8_request_59 (fun hd7_59 => ?_)
    refine lv_iload_n hM.1 hM.2.1 dX8_request_62 rfl (lv_at hl 7 rfl) ?_
    refine z_iald hM hW hd7_59 rfl (vin_nI (hO.l 38 (by decide) (by decide)) (by have : mlen 38 = 300 := rfl; omega) (by decide)) (v := gi S 9 (138) (k)) ((congrArg (gi S 9 (138)) (nI_clamp (by omega))).trans rfl) dX8_request_63 ?_
    refine lv_aload_n hM.1 hM.2.1 dX8_request_64 rfl (lv_at hl 6 rfl) ?_
    refine z_getr hM hW zc8 hI.O.1 rfl 39 (by decide) lf_X8_114 (t := 9) (j := 139) rfl (hO.r 39 (by decide) (by decide)) dX8_request_65 (fun hd8_65 => ?_)
    refine lv_iload_n hM.1 hM.2.1 dX8_request_68 rfl (lv_at hl 7 rfl) ?_
    refine z_iald hM hW hd8_65 rfl (vin_nI (hO.l 39 (by decide) (by decide)) (by have : mlen 39 = 300 := rfl; omega) (by decide)) (v := gi S 9 (139) (k)) ((congrArg (gi S 9 (139)) (nI_clamp (by omega))).trans rfl) dX8_request_69 ?_
    refine lv_aload_n hM.1 hM.2.1 dX8_request_70 rfl (lv_at hl 6 rfl) ?_
    refine z_getr hM hW zc8 hI.O.1 rfl 2 (by decide) lf_X8_13 (t := 9) (j := 102) rfl (hO.r 2 (by decide) (by decide)) dX8_request_71 (fun hd9_71 => ?_)
    refine lv_iload_n hM.1 hM.2.1 dX8_request_74 rfl (lv_at hl 5 rfl) ?_
    refine z_iald hM hW hd9_71 rfl (vin_L (hO.l 2 (by decide) (by decide)) (hI.msg hk).1) (v := gi S 9 (102) (ix (gi S 9 (133) (k)))) rfl dX8_request_75 ?_
    refine lv_aload_n hM.1 hM.2.1 dX8_request_76 rfl (lv_at hl 6 rfl) ?_
    refine z_getr hM hW zc8 hI.O.1 rfl 3 (by decide) lf_X8_17 (t := 9) (j := 103) rfl (hO.r 3 (by decide) (by decide)) dX8_request_77 (fun hd10_77 => ?_)
    refine lv_iload_n hM.1 hM.2.1 dX8_request_80 rfl (lv_at hl 5 rfl) ?_
    refine z_iald hM hW hd10_77 rfl (vin_L (hO.l 3 (by decide) (by decide)) (hI.msg hk).1) (v := gi S 9 (103) (ix (gi S 9 (133) (k)))) rfl dX8_request_81 ?_
    refine z_Si hM (hml.trans hl.1.symm) hW hS hlo zyX8_isGreater lm_X8_188 ls_yX8_isGreater (As := [.int (gi S 9 (138) (k)), .int (gi S 9 (139) (k)), .int (gi S 9 (102) (ix (gi S 9 (133) (k)))), .int (gi S 9 (103) (ix (gi S 9 (133) (k))))]) (rest := []) (c_X8_isGreater (S := S)) rfl rfl (Nat.le_of_ble_eq_true rfl) ⟨Nat.le_of_ble_eq_true rfl, Nat.le_of_ble_eq_true rfl⟩ ⟨Nat.le_of_ble_eq_true rfl, Nat.le_of_ble_eq_true rfl⟩ dX8_request_82 (fun H locs hW hS => ?_)
    refine lv_if_eq hM.1 hM.2.1 dX8_request_85 (tgt := 124) (by decide) (fun h_85 => ?_) (fun h_85 => ?_)
    ·
      refine lv_iload hM.1 hM.2.1 dX8_request_124 (lv_at hl 2 rfl) ?_
      refine lv_iconst (v := 3) hM.1 hM.2.1 dX8_request_126 (by decide) ?_
      refine lv_icmp_eq hM.1 hM.2.1 dX8_request_127 (tgt := 136) (by decide) (fun h => absurd h (fun q => absurd (h_49.symm.trans q) (by decide))) (fun _ => ?_)
      refine lv_iload hM.1 hM.2.1 dX8_request_130 (lv_at hl 2 rfl) ?_
      refine lv_iconst (v := 5) hM.1 hM.2.1 dX8_request_132 (by decide) ?_
      refine lv_icmp_ne hM.1 hM.2.1 dX8_request_133 (tgt := 155) (by decide) (fun _ => ?_) (fun h => absurd h (fun q => absurd (h_49.symm.trans q) (by decide)))
      refine lv_iload hM.1 hM.2.1 dX8_request_155 (lv_at hl 2 rfl) ?_
      refine lv_iconst (v := 5) hM.1 hM.2.1 dX8_request_157 (by decide) ?_
      refine lv_icmp_ne hM.1 hM.2.1 dX8_request_158 (tgt := 180) (by decide) (fun _ => ?_) (fun h => absurd h (fun q => absurd (h_49.symm.trans q) (by decide)))
      refine lv_aload_n hM.1 hM.2.1 dX8_request_180 rfl (lv_at hl 6 rfl) ?_
      refine lv_iload_n hM.1 hM.2.1 dX8_request_181 rfl (lv_at hl 7 rfl) ?_
      refine z_Vv hM (hml.trans hl.1.symm) hW hS hlo zc8 hI.O.1 rfl zyX8_take lm_X8_185 li_yX8_take le_yX8_take (As := [.int (nI k)]) (rest := []) (c_X8_take hI.O hI.cn hI.cm hk (by first | exact hI.b | exact hI.b)) rfl rfl (Nat.le_of_ble_eq_true rfl) ⟨Nat.le_of_ble_eq_true rfl, Nat.le_of_ble_eq_true rfl⟩ ⟨Nat.le_of_ble_eq_true rfl, Nat.le_of_ble_eq_true rfl⟩ dX8_request_182 (fun H locs hW hS => ?_)
      obtain ⟨B1, hB1⟩ : ∃ B, B = (s_X8_take S (ix (gi S 8 0 44)) k) := ⟨_, rfl⟩
      rw [← hB1] at hW
      have ke_B1 : B1.2.2 = S.2.2 := by rw [hB1]; simp only [pif_22, oel_22, k_si, k_sj, pif_same, oel_same, k_X6_set, k_X6_put, k_X0_showTag, k_X4_repeat, k_X7_sendRequest, k_X7_sendRequests, k_X7_beginPhase, k_X7_endPhase, k_X7_again, k_X3_obey, k_X7_serve, k_X7_twice, k_X2_learn, k_X8_votes, k_X8_silent, k_X8_side, k_X8_put, k_X8_ask, k_X8_end, k_X8_finish, k_X8_halt, k_X8_take]
      have hcB : gi B1 8 0 44 = nI ((ix (gi S 8 0 44)) - 1) := by rw [hB1, mtk_gi hk]; simp
      refine lv_aload_n hM.1 hM.2.1 dX8_request_185 rfl (lv_at hl 6 rfl) ?_
      refine lv_iconst (v := 1) hM.1 hM.2.1 dX8_request_186 (by decide) ?_
      refine lv_iload_n hM.1 hM.2.1 dX8_request_187 rfl (lv_at hl 5 rfl) ?_
      refine lv_iload_n hM.1 hM.2.1 dX8_request_188 rfl (lv_at hl 4 rfl) ?_
      refine lv_iload hM.1 hM.2.1 dX8_request_189 (lv_at hl 3 rfl) ?_
      refine lv_iload hM.1 hM.2.1 dX8_request_191 (lv_at hl 2 rfl) ?_
      refine lv_iload hM.1 hM.2.1 dX8_request_193 (lv_at hl 1 rfl) ?_
      refine lv_aload_n hM.1 hM.2.1 dX8_request_195 rfl (lv_at hl 6 rfl) ?_
      refine z_getr hM hW zc8 hI.O.1 rfl 2 (by decide) lf_X8_13 (t := 9) (j := 102) rfl ((gr_of ke_B1).trans (hO.r 2 (by decide) (by decide))) dX8_request_196 (fun hd11_196 => ?_)
      refine lv_iload_n hM.1 hM.2.1 dX8_request_199 rfl (lv_at hl 5 rfl) ?_
      refine z_iald hM hW hd11_196 rfl (vin_L (hO.l 2 (by decide) (by decide)) (hI.msg hk).1) (v := gi B1 9 (102) (ix (gi S 9 (133) (k)))) rfl dX8_request_200 ?_
      refine lv_aload_n hM.1 hM.2.1 dX8_request_201 rfl (lv_at hl 6 rfl) ?_
      refine z_getr hM hW zc8 hI.O.1 rfl 3 (by decide) lf_X8_17 (t := 9) (j := 103) rfl ((gr_of ke_B1).trans (hO.r 3 (by decide) (by decide))) dX8_request_202 (fun hd12_202 => ?_)
      refine lv_iload_n hM.1 hM.2.1 dX8_request_205 rfl (lv_at hl 5 rfl) ?_
      refine z_iald hM hW hd12_202 rfl (vin_L (hO.l 3 (by decide) (by decide)) (hI.msg hk).1) (v := gi B1 9 (103) (ix (gi S 9 (133) (k)))) rfl dX8_request_206 ?_
      refine lv_aload_n hM.1 hM.2.1 dX8_request_207 rfl (lv_at hl 6 rfl) ?_
      refine z_getr hM hW zc8 hI.O.1 rfl 1 (by decide) lf_X8_7 (t := 10) (j := 101) rfl ((gr_of ke_B1).trans (hO.r 1 (by decide) (by decide))) dX8_request_208 (fun hd13_208 => ?_)
      refine lv_iload_n hM.1 hM.2.1 dX8_request_211 rfl (lv_at hl 5 rfl) ?_
      refine z_lald hM hW hd13_208 rfl (vin_L (hO.l 1 (by decide) (by decide)) (hI.msg hk).1) (v := gj B1 10 (101) (ix (gi S 9 (133) (k)))) rfl dX8_request_212 ?_
      refine lv_iconst (v := (-1)) hM.1 hM.2.1 dX8_request_213 (by decide) ?_
      refine lv_aload_n hM.1 hM.2.1 dX8_request_214 rfl (lv_at hl 6 rfl) ?_
      refine z_getr hM hW zc8 hI.O.1 rfl 4 (by decide) lf_X8_20 (t := 9) (j := 104) rfl ((gr_of ke_B1).trans (hO.r 4 (by decide) (by decide))) dX8_request_215 (fun hd14_215 => ?_)
      refine lv_iload_n hM.1 hM.2.1 dX8_request_218 rfl (lv_at hl 5 rfl) ?_
      refine z_iald hM hW hd14_215 rfl (vin_L (hO.l 4 (by decide) (by decide)) (hI.msg hk).1) (v := gi B1 9 (104) (ix (gi S 9 (133) (k)))) rfl dX8_request_219 ?_
      refine lv_aload_n hM.1 hM.2.1 dX8_request_220 rfl (lv_at hl 6 rfl) ?_
      refine z_getr hM hW zc8 hI.O.1 rfl 5 (by decide) lf_X8_23 (t := 9) (j := 105) rfl ((gr_of ke_B1).trans (hO.r 5 (by decide) (by decide))) dX8_request_221 (fun hd15_221 => ?_)
      refine lv_iload_n hM.1 hM.2.1 dX8_request_224 rfl (lv_at hl 5 rfl) ?_
      refine z_iald hM hW hd15_221 rfl (vin_L (hO.l 5 (by decide) (by decide)) (hI.msg hk).1) (v := gi B1 9 (105) (ix (gi S 9 (133) (k)))) rfl dX8_request_225 ?_
      refine z_Vv hM (hml.trans hl.1.symm) hW hS hlo zc8 hI.O.1 rfl zyX8_put lm_X8_146 li_yX8_put le_yX8_put (As := [.int (1), .int (gi S 9 (133) (k)), .int (gi S 9 (134) (k)), .int (gi S 9 (135) (k)), .int (gi S 9 (136) (k)), .int (gi S 9 (137) (k)), .int (gi B1 9 (102) (ix (gi S 9 (133) (k)))), .int (gi B1 9 (103) (ix (gi S 9 (133) (k)))), .long (gj B1 10 (101) (ix (gi S 9 (133) (k)))), .int ((-1)), .int (gi B1 9 (104) (ix (gi S 9 (133) (k)))), .int (gi B1 9 (105) (ix (gi S 9 (133) (k))))]) (rest := []) (c_X8_put (cn := (ix (gi S 8 0 44)) - 1) (hO.of ke_B1) hcB (by have := hI.cm; omega) isB_1) rfl rfl (Nat.le_of_ble_eq_true rfl) ⟨Nat.le_of_ble_eq_true rfl, Nat.le_of_ble_eq_true rfl⟩ ⟨Nat.le_of_ble_eq_true rfl, Nat.le_of_ble_eq_true rfl⟩ dX8_request_226 (fun H locs hW hS => ?_)
      exact z_vret hM hlk hr hW hS (zF.of rfl (by subst hB1; unfold s_X8_request; rw [pif_pos h_49, pif_pos h_85]; first | done | rfl)) dX8_request_229
    ·
      refine lv_aload_n hM.1 hM.2.1 dX8_request_88 rfl (lv_at hl 6 rfl) ?_
      refine z_getr hM hW zc8 hI.O.1 rfl 2 (by decide) lf_X8_13 (t := 9) (j := 102) rfl (hO.r 2 (by decide) (by decide)) dX8_request_89 (fun hd16_89 => ?_)
      refine lv_iload_n hM.1 hM.2.1 dX8_request_92 rfl (lv_at hl 5 rfl) ?_
      refine lv_aload_n hM.1 hM.2.1 dX8_request_93 rfl (lv_at hl 6 rfl) ?_
      refine z_getr hM hW zc8 hI.O.1 rfl 38 (by decide) lf_X8_111 (t := 9) (j := 138) rfl (hO.r 38 (by decide) (by decide)) dX8_request_94 (fun hd17_94 => ?_)
      refine lv_iload_n hM.1 hM.2.1 dX8_request_97 rfl (lv_at hl 7 rfl) ?_
      refine z_iald hM hW hd17_94 rfl (vin_nI (hO.l 38 (by decide) (by decide)) (by have : mlen 38 = 300 := rfl; omega) (by decide)) (v := gi S 9 (138) (k)) ((congrArg (gi S 9 (138)) (nI_clamp (by omega))).trans rfl) dX8_request_98 ?_
      refine z_iast hM hW hS hd16_89 rfl (vin_L (hO.l 2 (by decide) (by decide)) (hI.msg hk).1) dX8_request_99 (fun H locs hW hS => ?_)
      refine lv_aload_n hM.1 hM.2.1 dX8_request_100 rfl (lv_at hl 6 rfl) ?_
      refine z_getr hM hW zc8 hI.O.1 rfl 3 (by decide) lf_X8_17 (t := 9) (j := 103) rfl (hO.r 3 (by decide) (by decide)) dX8_request_101 (fun hd18_101 => ?_)
      refine lv_iload_n hM.1 hM.2.1 dX8_request_104 rfl (lv_at hl 5 rfl) ?_
      refine lv_aload_n hM.1 hM.2.1 dX8_request_105 rfl (lv_at hl 6 rfl) ?_
      refine z_getr hM hW zc8 hI.O.1 rfl 39 (by decide) lf_X8_114 (t := 9) (j := 139) rfl (hO.r 39 (by decide) (by decide)) dX8_request_106 (fun hd19_106 => ?_)
      refine lv_iload_n hM.1 hM.2.1 dX8_request_109 rfl (lv_at hl 7 rfl) ?_
      refine z_iald hM hW hd19_106 rfl (vin_nI (hO.l 39 (by decide) (by decide)) (by have : mlen 39 = 300 := rfl; omega) (by decide)) (v := gi S 9 (139) (k)) ((congrArg (gi (si S 9 (102) (ix (gi S 9 (133) (k))) (gi S 9 (138) (k))) 9 (139)) (nI_clamp (by omega))).trans rfl) dX8_request_110 ?_
      refine z_iast hM hW hS hd18_101 rfl (vin_L (hO.l 3 (by decide) (by decide)) (hI.msg hk).1) dX8_request_111 (fun H locs hW hS => ?_)
      refine lv_aload_n hM.1 hM.2.1 dX8_request_112 rfl (lv_at hl 6 rfl) ?_
      refine z_getr hM hW zc8 hI.O.1 rfl 1 (by decide) lf_X8_7 (t := 10) (j := 101) rfl (hO.r 1 (by decide) (by decide)) dX8_request_113 (fun hd20_113 => ?_)
      refine lv_iload_n hM.1 hM.2.1 dX8_request_116 rfl (lv_at hl 5 rfl) ?_
      refine lv_aload_n hM.1 hM.2.1 dX8_request_117 rfl (lv_at hl 6 rfl) ?_
      refine z_getr hM hW zc8 hI.O.1 rfl 43 (by decide) lf_X8_126 (t := 10) (j := 143) rfl (hO.r 43 (by decide) (by decide)) dX8_request_118 (fun hd21_118 => ?_)
      refine lv_iload_n hM.1 hM.2.1 dX8_request_121 rfl (lv_at hl 7 rfl) ?_
      refine z_lald hM hW hd21_118 rfl (vin_nI (hO.l 43 (by decide) (by decide)) (by have : mlen 43 = 300 := rfl; omega) (by decide)) (v := gj S 10 (143) (k)) ((congrArg (gj (si (si S 9 (102) (ix (gi S 9 (133) (k))) (gi S 9 (138) (k))) 9 (103) (ix (gi S 9 (133) (k))) (gi S 9 (139) (k))) 10 (143)) (nI_clamp (by omega))).trans rfl) dX8_request_122 ?_
      refine z_last hM hW hS hd20_113 rfl (vin_L (hO.l 1 (by decide) (by decide)) (hI.msg hk).1) dX8_request_123 (fun H locs hW hS => ?_)
      refine lv_iload hM.1 hM.2.1 dX8_request_124 (lv_at hl 2 rfl) ?_
      refine lv_iconst (v := 3) hM.1 hM.2.1 dX8_request_126 (by decide) ?_
      refine lv_icmp_eq hM.1 hM.2.1 dX8_request_127 (tgt := 136) (by decide) (fun h => absurd h (fun q => absurd (h_49.symm.trans q) (by decide))) (fun _ => ?_)
      refine lv_iload hM.1 hM.2.1 dX8_request_130 (lv_at hl 2 rfl) ?_
      refine lv_iconst (v := 5) hM.1 hM.2.1 dX8_request_132 (by decide) ?_
      refine lv_icmp_ne hM.1 hM.2.1 dX8_request_133 (tgt := 155) (by decide) (fun _ => ?_) (fun h => absurd h (fun q => absurd (h_49.symm.trans q) (by decide)))
      refine lv_iload hM.1 hM.2.1 dX8_request_155 (lv_at hl 2 rfl) ?_
      refine lv_iconst (v := 5) hM.1 hM.2.1 dX8_request_157 (by decide) ?_
      refine lv_icmp_ne hM.1 hM.2.1 dX8_request_158 (tgt := 180) (by decide) (fun _ => ?_) (fun h => absurd h (fun q => absurd (h_49.symm.trans q) (by decide)))
      refine lv_aload_n hM.1 hM.2.1 dX8_request_180 rfl (lv_at hl 6 rfl) ?_
      refine lv_iload_n hM.1 hM.2.1 dX8_request_181 rfl (lv_at hl 7 rfl) ?_
      refine z_Vv hM (hml.trans hl.1.symm) hW hS hlo zc8 hI.O.1 rfl zyX8_take lm_X8_185 li_yX8_take le_yX8_take (As := [.int (nI k)]) (rest := []) (c_X8_take hI.O hI.cn hI.cm hk (by first | exact hI.b | exact hI.b)) rfl rfl (Nat.le_of_ble_eq_true rfl) ⟨Nat.le_of_ble_eq_true rfl, Nat.le_of_ble_eq_true rfl⟩ ⟨Nat.le_of_ble_eq_true rfl, Nat.le_of_ble_eq_true rfl⟩ dX8_request_182 (fun H locs hW hS => ?_)
      obtain ⟨B2, hB2⟩ : ∃ B, B = (s_X8_take (sj (si (si S 9 (102) (ix (gi S 9 (133) (k))) (gi S 9 (138) (k))) 9 (103) (ix (gi S 9 (133) (k))) (gi S 9 (139) (k))) 10 (101) (ix (gi S 9 (133) (k))) (gj S 10 (143) (k))) (ix (gi S 8 0 44)) k) := ⟨_, rfl⟩
      rw [← hB2] at hW
      have ke_B2 : B2.2.2 = S.2.2 := by rw [hB2]; simp only [pif_22, oel_22, k_si, k_sj, pif_same, oel_same, k_X6_set, k_X6_put, k_X0_showTag, k_X4_repeat, k_X7_sendRequest, k_X7_sendRequests, k_X7_beginPhase, k_X7_endPhase, k_X7_again, k_X3_obey, k_X7_serve, k_X7_twice, k_X2_learn, k_X8_votes, k_X8_silent, k_X8_side, k_X8_put, k_X8_ask, k_X8_end, k_X8_finish, k_X8_halt, k_X8_take]
      have hcB : gi B2 8 0 44 = nI ((ix (gi S 8 0 44)) - 1) := by rw [hB2, mtk_gi hk]; simp
      refine lv_aload_n hM.1 hM.2.1 dX8_request_185 rfl (lv_at hl 6 rfl) ?_
      refine lv_iconst (v := 1) hM.1 hM.2.1 dX8_request_186 (by decide) ?_
      refine lv_iload_n hM.1 hM.2.1 dX8_request_187 rfl (lv_at hl 5 rfl) ?_
      refine lv_iload_n hM.1 hM.2.1 dX8_request_188 rfl (lv_at hl 4 rfl) ?_
      refine lv_iload hM.1 hM.2.1 dX8_request_189 (lv_at hl 3 rfl) ?_
      refine lv_iload hM.1 hM.2.1 dX8_request_191 (lv_at hl 2 rfl) ?_
      refine lv_iload hM.1 hM.2.1 dX8_request_193 (lv_at hl 1 rfl) ?_
      refine lv_aload_n hM.1 hM.2.1 dX8_request_195 rfl (lv_at hl 6 rfl) ?_
      refine z_getr hM hW zc8 hI.O.1 rfl 2 (by decide) lf_X8_13 (t := 9) (j := 102) rfl ((gr_of ke_B2).trans (hO.r 2 (by decide) (by decide))) dX8_request_196 (fun hd22_196 => ?_)
      refine lv_iload_n hM.1 hM.2.1 dX8_request_199 rfl (lv_at hl 5 rfl) ?_
      refine z_iald hM hW hd22_196 rfl (vin_L (hO.l 2 (by decide) (by decide)) (hI.msg hk).1) (v := gi B2 9 (102) (ix (gi S 9 (133) (k)))) rfl dX8_request_200 ?_
      refine lv_aload_n hM.1 hM.2.1 dX8_request_201 rfl (lv_at hl 6 rfl) ?_
      refine z_getr hM hW zc8 hI.O.1 rfl 3 (by decide) lf_X8_17 (t := 9) (j := 103) rfl ((gr_of ke_B2).trans (hO.r 3 (by decide) (by decide))) dX8_request_202 (fun hd23_202 => ?_)
      refine lv_iload_n hM.1 hM.2.1 dX8_request_205 rfl (lv_at hl 5 rfl) ?_
      refine z_iald hM hW hd23_202 rfl (vin_L (hO.l 3 (by decide) (by decide)) (hI.msg hk).1) (v := gi B2 9 (103) (ix (gi S 9 (133) (k)))) rfl dX8_request_206 ?_
      refine lv_aload_n hM.1 hM.2.1 dX8_request_207 rfl (lv_at hl 6 rfl) ?_
      refine z_getr hM hW zc8 hI.O.1 rfl 1 (by decide) lf_X8_7 (t := 10) (j := 101) rfl ((gr_of ke_B2).trans (hO.r 1 (by decide) (by decide))) dX8_request_208 (fun hd24_208 => ?_)
      refine lv_iload_n hM.1 hM.2.1 dX8_request_211 rfl (lv_at hl 5 rfl) ?_
      refine z_lald hM hW hd24_208 rfl (vin_L (hO.l 1 (by decide) (by decide)) (hI.msg hk).1) (v := gj B2 10 (101) (ix (gi S 9 (133) (k)))) rfl dX8_request_212 ?_
      refine lv_iconst (v := (-1)) hM.1 hM.2.1 dX8_request_213 (by decide) ?_
      refine lv_aload_n hM.1 hM.2.1 dX8_request_214 rfl (lv_at hl 6 rfl) ?_
      refine z_getr hM hW zc8 hI.O.1 rfl 4 (by decide) lf_X8_20 (t := 9) (j := 104) rfl ((gr_of ke_B2).trans (hO.r 4 (by decide) (by decide))) dX8_request_215 (fun hd25_215 => ?_)
      refine lv_iload_n hM.1 hM.2.1 dX8_request_218 rfl (lv_at hl 5 rfl) ?_
      refine z_iald hM hW hd25_215 rfl (vin_L (hO.l 4 (by decide) (by decide)) (hI.msg hk).1) (v := gi B2 9 (104) (ix (gi S 9 (133) (k)))) rfl dX8_request_219 ?_
      refine lv_aload_n hM.1 hM.2.1 dX8_request_220 rfl (lv_at hl 6 rfl) ?_
      refine z_getr hM hW zc8 hI.O.1 rfl 5 (by decide) lf_X8_23 (t := 9) (j := 105) rfl ((gr_of ke_B2).trans (hO.r 5 (by decide) (by decide))) dX8_request_221 (fun hd26_221 => ?_)
      refine lv_iload_n hM.1 hM.2.1 dX8_request_224 rfl (lv_at hl 5 rfl) ?_
      refine z_iald hM hW hd26_221 rfl (vin_L (hO.l 5 (by decide) (by decide)) (hI.msg hk).1) (v := gi B2 9 (105) (ix (gi S 9 (133) (k)))) rfl dX8_request_225 ?_
      refine z_Vv hM (hml.trans hl.1.symm) hW hS hlo zc8 hI.O.1 rfl zyX8_put lm_X8_146 li_yX8_put le_yX8_put (As := [.int (1), .int (gi S 9 (133) (k)), .int (gi S 9 (134) (k)), .int (gi S 9 (135) (k)), .int (gi S 9 (136) (k)), .int (gi S 9 (137) (k)), .int (gi B2 9 (102) (ix (gi S 9 (133) (k)))), .int (gi B2 9 (103) (ix (gi S 9 (133) (k)))), .long (gj B2 10 (101) (ix (gi S 9 (133) (k)))), .int ((-1)), .int (gi B2 9 (104) (ix (gi S 9 (133) (k)))), .int (gi B2 9 (105) (ix (gi S 9 (133) (k))))]) (rest := []) (c_X8_put (cn := (ix (gi S 8 0 44)) - 1) (hO.of ke_B2) hcB (by have := hI.cm; omega) isB_1) rfl rfl (Nat.le_of_ble_eq_true rfl) ⟨Nat.le_of_ble_eq_true rfl, Nat.le_of_ble_eq_true rfl⟩ ⟨Nat.le_of_ble_eq_true rfl, Nat.le_of_ble_eq_true rfl⟩ dX8_request_226 (fun H locs hW hS => ?_)
      exact z_vret hM hlk hr hW hS (zF.of rfl (by subst hB2; unfold s_X8_request; rw [pif_pos h_49, pif_neg h_85]; first | done | rfl)) dX8_request_229
  ·
    refine lv_iload hM.1 hM.2.1 dX8_request_52 (lv_at hl 2 rfl) ?_
    refine lv_iconst (v := 4) hM.1 hM.2.1 dX8_request_54 (by decide) ?_
    refine lv_icmp_ne hM.1 hM.2.1 dX8_request_55 (tgt := 124) (by decide) (fun h_55 => ?_) (fun h_55 => ?_)
    ·
      refine lv_iload hM.1 hM.2.1 dX8_request_124 (lv_at hl 2 rfl) ?_
      refine lv_iconst (v := 3) hM.1 hM.2.1 dX8_request_126 (by decide) ?_
      refine lv_icmp_eq hM.1 hM.2.1 dX8_request_127 (tgt := 136) (by decide) (fun h_127 => ?_) (fun h_127 => ?_)
      ·
        refine lv_aload_n hM.1 hM.2.1 dX8_request_136 rfl (lv_at hl 6 rfl) ?_
        refine z_getr hM hW zc8 hI.O.1 rfl 5 (by decide) lf_X8_23 (t := 9) (j := 105) rfl (hO.r 5 (by decide) (by decide)) dX8_request_137 (fun hd27_137 => ?_)
        refine lv_iload_n hM.1 hM.2.1 dX8_request_140 rfl (lv_at hl 5 rfl) ?_
        refine z_iald hM hW hd27_137 rfl (vin_L (hO.l 5 (by decide) (by decide)) (hI.msg hk).1) (v := gi S 9 (105) (ix (gi S 9 (133) (k)))) rfl dX8_request_141 ?_
        refine lv_iload hM.1 hM.2.1 dX8_request_142 (lv_at hl 0 rfl) ?_
        refine lv_icmp_ge hM.1 hM.2.1 dX8_request_144 (tgt := 155) (by decide) (fun h_144 => ?_) (fun h_144 => ?_)
        ·
          refine lv_iload hM.1 hM.2.1 dX8_request_155 (lv_at hl 2 rfl) ?_
          refine lv_iconst (v := 5) hM.1 hM.2.1 dX8_request_157 (by decide) ?_
          refine lv_icmp_ne hM.1 hM.2.1 dX8_request_158 (tgt := 180) (by decide) (fun _ => ?_) (fun h => absurd h (fun q => absurd (h_127.symm.trans q) (by decide)))
          refine lv_aload_n hM.1 hM.2.1 dX8_request_180 rfl (lv_at hl 6 rfl) ?_
          refine lv_iload_n hM.1 hM.2.1 dX8_request_181 rfl (lv_at hl 7 rfl) ?_
          refine z_Vv hM (hml.trans hl.1.symm) hW hS hlo zc8 hI.O.1 rfl zyX8_take lm_X8_185 li_yX8_take le_yX8_take (As := [.int (nI k)]) (rest := []) (c_X8_take hI.O hI.cn hI.cm hk (by first | exact hI.b | exact hI.b)) rfl rfl (Nat.le_of_ble_eq_true rfl) ⟨Nat.le_of_ble_eq_true rfl, Nat.le_of_ble_eq_true rfl⟩ ⟨Nat.le_of_ble_eq_true rfl, Nat.le_of_ble_eq_true rfl⟩ dX8_request_182 (fun H locs hW hS => ?_)
          obtain ⟨B3, hB3⟩ : ∃ B, B = (s_X8_take S (ix (gi S 8 0 44)) k) := ⟨_, rfl⟩
          rw [← hB3] at hW
          have ke_B3 : B3.2.2 = S.2.2 := by rw [hB3]; simp only [pif_22, oel_22, k_si, k_sj, pif_same, oel_same, k_X6_set, k_X6_put, k_X0_showTag, k_X4_repeat, k_X7_sendRequest, k_X7_sendRequests, k_X7_beginPhase, k_X7_endPhase, k_X7_again, k_X3_obey, k_X7_serve, k_X7_twice, k_X2_learn, k_X8_votes, k_X8_silent, k_X8_side, k_X8_put, k_X8_ask, k_X8_end, k_X8_finish, k_X8_halt, k_X8_take]
          have hcB : gi B3 8 0 44 = nI ((ix (gi S 8 0 44)) - 1) := by rw [hB3, mtk_gi hk]; simp
          refine lv_aload_n hM.1 hM.2.1 dX8_request_185 rfl (lv_at hl 6 rfl) ?_
          refine lv_iconst (v := 1) hM.1 hM.2.1 dX8_request_186 (by decide) ?_
          refine lv_iload_n hM.1 hM.2.1 dX8_request_187 rfl (lv_at hl 5 rfl) ?_
          refine lv_iload_n hM.1 hM.2.1 dX8_request_188 rfl (lv_at hl 4 rfl) ?_
          refine lv_iload hM.1 hM.2.1 dX8_request_189 (lv_at hl 3 rfl) ?_
          refine lv_iload hM.1 hM.2.1 dX8_request_191 (lv_at hl 2 rfl) ?_
          refine lv_iload hM.1 hM.2.1 dX8_request_193 (lv_at hl 1 rfl) ?_
          refine lv_aload_n hM.1 hM.2.1 dX8_request_195 rfl (lv_at hl 6 rfl) ?_
          refine z_getr hM hW zc8 hI.O.1 rfl 2 (by decide) lf_X8_13 (t := 9) (j := 102) rfl ((gr_of ke_B3).trans (hO.r 2 (by decide) (by decide))) dX8_request_196 (fun hd28_196 => ?_)
          refine lv_iload_n hM.1 hM.2.1 dX8_request_199 rfl (lv_at hl 5 rfl) ?_
          refine z_iald hM hW hd28_196 rfl (vin_L (hO.l 2 (by decide) (by decide)) (hI.msg hk).1) (v := gi B3 9 (102) (ix (gi S 9 (133) (k)))) rfl dX8_request_200 ?_
          refine lv_aload_n hM.1 hM.2.1 dX8_request_201 rfl (lv_at hl 6 rfl) ?_
          refine z_getr hM hW zc8 hI.O.1 rfl 3 (by decide) lf_X8_17 (t := 9) (j := 103) rfl ((gr_of ke_B3).trans (hO.r 3 (by decide) (by decide))) dX8_request_202 (fun hd29_202 => ?_)
          refine lv_iload_n hM.1 hM.2.1 dX8_request_205 rfl (lv_at hl 5 rfl) ?_
          refine z_iald hM hW hd29_202 rfl (vin_L (hO.l 3 (by decide) (by decide)) (hI.msg hk).1) (v := gi B3 9 (103) (ix (gi S 9 (133) (k)))) rfl dX8_request_206 ?_
          refine lv_aload_n hM.1 hM.2.1 dX8_request_207 rfl (lv_at hl 6 rfl) ?_
          refine z_getr hM hW zc8 hI.O.1 rfl 1 (by decide) lf_X8_7 (t := 10) (j := 101) rfl ((gr_of ke_B3).trans (hO.r 1 (by decide) (by decide))) dX8_request_208 (fun hd30_208 => ?_)
          refine lv_iload_n hM.1 hM.2.1 dX8_request_211 rfl (lv_at hl 5 rfl) ?_
          refine z_lald hM hW hd30_208 rfl (vin_L (hO.l 1 (by decide) (by decide)) (hI.msg hk).1) (v := gj B3 10 (101) (ix (gi S 9 (133) (k)))) rfl dX8_request_212 ?_
          refine lv_iconst (v := (-1)) hM.1 hM.2.1 dX8_request_213 (by decide) ?_
          refine lv_aload_n hM.1 hM.2.1 dX8_request_214 rfl (lv_at hl 6 rfl) ?_
          refine z_getr hM hW zc8 hI.O.1 rfl 4 (by decide) lf_X8_20 (t := 9) (j := 104) rfl ((gr_of ke_B3).trans (hO.r 4 (by decide) (by decide))) dX8_request_215 (fun hd31_215 => ?_)
          refine lv_iload_n hM.1 hM.2.1 dX8_request_218 rfl (lv_at hl 5 rfl) ?_
          refine z_iald hM hW hd31_215 rfl (vin_L (hO.l 4 (by decide) (by decide)) (hI.msg hk).1) (v := gi B3 9 (104) (ix (gi S 9 (133) (k)))) rfl dX8_request_219 ?_
          refine lv_aload_n hM.1 hM.2.1 dX8_request_220 rfl (lv_at hl 6 rfl) ?_
          refine z_getr hM hW zc8 hI.O.1 rfl 5 (by decide) lf_X8_23 (t := 9) (j := 105) rfl ((gr_of ke_B3).trans (hO.r 5 (by decide) (by decide))) dX8_request_221 (fun hd32_221 => ?_)
          refine lv_iload_n hM.1 hM.2.1 dX8_request_224 rfl (lv_at hl 5 rfl) ?_
          refine z_iald hM hW hd32_221 rfl (vin_L (hO.l 5 (by decide) (by decide)) (hI.msg hk).1) (v := gi B3 9 (105) (ix (gi S 9 (133) (k)))) rfl dX8_request_225 ?_
          refine z_Vv hM (hml.trans hl.1.symm) hW hS hlo zc8 hI.O.1 rfl zyX8_put lm_X8_146 li_yX8_put le_yX8_put (As := [.int (1), .int (gi S 9 (133) (k)), .int (gi S 9 (134) (k)), .int (gi S 9 (135) (k)), .int (gi S 9 (136) (k)), .int (gi S 9 (137) (k)), .int (gi B3 9 (102) (ix (gi S 9 (133) (k)))), .int (gi B3 9 (103) (ix (gi S 9 (133) (k)))), .long (gj B3 10 (101) (ix (gi S 9 (133) (k)))), .int ((-1)), .int (gi B3 9 (104) (ix (gi S 9 (133) (k)))), .int (gi B3 9 (105) (ix (gi S 9 (133) (k))))]) (rest := []) (c_X8_put (cn := (ix (gi S 8 0 44)) - 1) (hO.of ke_B3) hcB (by have := hI.cm; omega) isB_1) rfl rfl (Nat.le_of_ble_eq_true rfl) ⟨Nat.le_of_ble_eq_true rfl, Nat.le_of_ble_eq_true rfl⟩ ⟨Nat.le_of_ble_eq_true rfl, Nat.le_of_ble_eq_true rfl⟩ dX8_request_226 (fun H locs hW hS => ?_)
          exact z_vret hM hlk hr hW hS (zF.of rfl (by subst hB3; unfold s_X8_request; rw [pif_neg h_49, pif_neg h_55, pif_pos h_127, pif_pos h_144]; first | done | rfl)) dX8_request_229
        ·
          refine lv_aload_n hM.1 hM.2.1 dX8_request_147 rfl (lv_at hl 6 rfl) ?_
          refine z_getr hM hW zc8 hI.O.1 rfl 5 (by decide) lf_X8_23 (t := 9) (j := 105) rfl (hO.r 5 (by decide) (by decide)) dX8_request_148 (fun hd33_148 => ?_)
          refine lv_iload_n hM.1 hM.2.1 dX8_request_151 rfl (lv_at hl 5 rfl) ?_
          refine lv_iload hM.1 hM.2.1 dX8_request_152 (lv_at hl 0 rfl) ?_
          refine z_iast hM hW hS hd33_148 rfl (vin_L (hO.l 5 (by decide) (by decide)) (hI.msg hk).1) dX8_request_154 (fun H locs hW hS => ?_)
          refine lv_iload hM.1 hM.2.1 dX8_request_155 (lv_at hl 2 rfl) ?_
          refine lv_iconst (v := 5) hM.1 hM.2.1 dX8_request_157 (by decide) ?_
          refine lv_icmp_ne hM.1 hM.2.1 dX8_request_158 (tgt := 180) (by decide) (fun _ => ?_) (fun h => absurd h (fun q => absurd (h_127.symm.trans q) (by decide)))
          refine lv_aload_n hM.1 hM.2.1 dX8_request_180 rfl (lv_at hl 6 rfl) ?_
          refine lv_iload_n hM.1 hM.2.1 dX8_request_181 rfl (lv_at hl 7 rfl) ?_
          refine z_Vv hM (hml.trans hl.1.symm) hW hS hlo zc8 hI.O.1 rfl zyX8_take lm_X8_185 li_yX8_take le_yX8_take (As := [.int (nI k)]) (rest := []) (c_X8_take hI.O hI.cn hI.cm hk (by first | exact hI.b | exact hI.b)) rfl rfl (Nat.le_of_ble_eq_true rfl) ⟨Nat.le_of_ble_eq_true rfl, Nat.le_of_ble_eq_true rfl⟩ ⟨Nat.le_of_ble_eq_true rfl, Nat.le_of_ble_eq_true rfl⟩ dX8_request_182 (fun H locs hW hS => ?_)
          obtain ⟨B4, hB4⟩ : ∃ B, B = (s_X8_take (si S 9 (105) (ix (gi S 9 (133) (k))) (gi S 9 (140) (k))) (ix (gi S 8 0 44)) k) := ⟨_, rfl⟩
          rw [← hB4] at hW
          have ke_B4 : B4.2.2 = S.2.2 := by rw [hB4]; simp only [pif_22, oel_22, k_si, k_sj, pif_same, oel_same, k_X6_set, k_X6_put, k_X0_showTag, k_X4_repeat, k_X7_sendRequest, k_X7_sendRequests, k_X7_beginPhase, k_X7_endPhase, k_X7_again, k_X3_obey, k_X7_serve, k_X7_twice, k_X2_learn, k_X8_votes, k_X8_silent, k_X8_side, k_X8_put, k_X8_ask, k_X8_end, k_X8_finish, k_X8_halt, k_X8_take]
          have hcB : gi B4 8 0 44 = nI ((ix (gi S 8 0 44)) - 1) := by rw [hB4, mtk_gi hk]; simp
          refine lv_aload_n hM.1 hM.2.1 dX8_request_185 rfl (lv_at hl 6 rfl) ?_
          refine lv_iconst (v := 1) hM.1 hM.2.1 dX8_request_186 (by decide) ?_
          refine lv_iload_n hM.1 hM.2.1 dX8_request_187 rfl (lv_at hl 5 rfl) ?_
          refine lv_iload_n hM.1 hM.2.1 dX8_request_188 rfl (lv_at hl 4 rfl) ?_
          refine lv_iload hM.1 hM.2.1 dX8_request_189 (lv_at hl 3 rfl) ?_
          refine lv_iload hM.1 hM.2.1 dX8_request_191 (lv_at hl 2 rfl) ?_
          refine lv_iload hM.1 hM.2.1 dX8_request_193 (lv_at hl 1 rfl) ?_
          refine lv_aload_n hM.1 hM.2.1 dX8_request_195 rfl (lv_at hl 6 rfl) ?_
          refine z_getr hM hW zc8 hI.O.1 rfl 2 (by decide) lf_X8_13 (t := 9) (j := 102) rfl ((gr_of ke_B4).trans (hO.r 2 (by decide) (by decide))) dX8_request_196 (fun hd34_196 => ?_)
          refine lv_iload_n hM.1 hM.2.1 dX8_request_199 rfl (lv_at hl 5 rfl) ?_
          refine z_iald hM hW hd34_196 rfl (vin_L (hO.l 2 (by decide) (by decide)) (hI.msg hk).1) (v := gi B4 9 (102) (ix (gi S 9 (133) (k)))) rfl dX8_request_200 ?_
          refine lv_aload_n hM.1 hM.2.1 dX8_request_201 rfl (lv_at hl 6 rfl) ?_
          refine z_getr hM hW zc8 hI.O.1 rfl 3 (by decide) lf_X8_17 (t := 9) (j := 103) rfl ((gr_of ke_B4).trans (hO.r 3 (by decide) (by decide))) dX8_request_202 (fun hd35_202 => ?_)
          refine lv_iload_n hM.1 hM.2.1 dX8_request_205 rfl (lv_at hl 5 rfl) ?_
          refine z_iald hM hW hd35_202 rfl (vin_L (hO.l 3 (by decide) (by decide)) (hI.msg hk).1) (v := gi B4 9 (103) (ix (gi S 9 (133) (k)))) rfl dX8_request_206 ?_
          refine lv_aload_n hM.1 hM.2.1 dX8_request_207 rfl (lv_at hl 6 rfl) ?_
          refine z_getr hM hW zc8 hI.O.1 rfl 1 (by decide) lf_X8_7 (t := 10) (j := 101) rfl ((gr_of ke_B4).trans (hO.r 1 (by decide) (by decide))) dX8_request_208 (fun hd36_208 => ?_)
          refine lv_iload_n hM.1 hM.2.1 dX8_request_211 rfl (lv_at hl 5 rfl) ?_
          refine z_lald hM hW hd36_208 rfl (vin_L (hO.l 1 (by decide) (by decide)) (hI.msg hk).1) (v := gj B4 10 (101) (ix (gi S 9 (133) (k)))) rfl dX8_request_212 ?_
          refine lv_iconst (v := (-1)) hM.1 hM.2.1 dX8_request_213 (by decide) ?_
          refine lv_aload_n hM.1 hM.2.1 dX8_request_214 rfl (lv_at hl 6 rfl) ?_
          refine z_getr hM hW zc8 hI.O.1 rfl 4 (by decide) lf_X8_20 (t := 9) (j := 104) rfl ((gr_of ke_B4).trans (hO.r 4 (by decide) (by decide))) dX8_request_215 (fun hd37_215 => ?_)
          refine lv_iload_n hM.1 hM.2.1 dX8_request_218 rfl (lv_at hl 5 rfl) ?_
          refine z_iald hM hW hd37_215 rfl (vin_L (hO.l 4 (by decide) (by decide)) (hI.msg hk).1) (v := gi B4 9 (104) (ix (gi S 9 (133) (k)))) rfl dX8_request_219 ?_
          refine lv_aload_n hM.1 hM.2.1 dX8_request_220 rfl (lv_at hl 6 rfl) ?_
          refine z_getr hM hW zc8 hI.O.1 rfl 5 (by decide) lf_X8_23 (t := 9) (j := 105) rfl ((gr_of ke_B4).trans (hO.r 5 (by decide) (by decide))) dX8_request_221 (fun hd38_221 => ?_)
          refine lv_iload_n hM.1 hM.2.1 dX8_request_224 rfl (lv_at hl 5 rfl) ?_
          refine z_iald hM hW hd38_221 rfl (vin_L (hO.l 5 (by decide) (by decide)) (hI.msg hk).1) (v := gi B4 9 (105) (ix (gi S 9 (133) (k)))) rfl dX8_request_225 ?_
          refine z_Vv hM (hml.trans hl.1.symm) hW hS hlo zc8 hI.O.1 rfl zyX8_put lm_X8_146 li_yX8_put le_yX8_put (As := [.int (1), .int (gi S 9 (133) (k)), .int (gi S 9 (134) (k)), .int (gi S 9 (135) (k)), .int (gi S 9 (136) (k)), .int (gi S 9 (137) (k)), .int (gi B4 9 (102) (ix (gi S 9 (133) (k)))), .int (gi B4 9 (103) (ix (gi S 9 (133) (k)))), .long (gj B4 10 (101) (ix (gi S 9 (133) (k)))), .int ((-1)), .int (gi B4 9 (104) (ix (gi S 9 (133) (k)))), .int (gi B4 9 (105) (ix (gi S 9 (133) (k))))]) (rest := []) (c_X8_put (cn := (ix (gi S 8 0 44)) - 1) (hO.of ke_B4) hcB (by have := hI.cm; omega) isB_1) rfl rfl (Nat.le_of_ble_eq_true rfl) ⟨Nat.le_of_ble_eq_true rfl, Nat.le_of_ble_eq_true rfl⟩ ⟨Nat.le_of_ble_eq_true rfl, Nat.le_of_ble_eq_true rfl⟩ dX8_request_226 (fun H locs hW hS => ?_)
          exact z_vret hM hlk hr hW hS (zF.of rfl (by subst hB4; unfold s_X8_request; rw [pif_neg h_49, pif_neg h_55, pif_pos h_127, pif_neg h_144]; first | done | rfl)) dX8_request_229
      ·
        refine lv_iload hM.1 hM.2.1 dX8_request_130 (lv_at hl 2 rfl) ?_
        refine lv_iconst (v := 5) hM.1 hM.2.1 dX8_request_132 (by decide) ?_
        refine lv_icmp_ne hM.1 hM.2.1 dX8_request_133 (tgt := 155) (by decide) (fun h_133 => ?_) (fun h_133 => ?_)
        ·
          refine lv_iload hM.1 hM.2.1 dX8_request_155 (lv_at hl 2 rfl) ?_
          refine lv_iconst (v := 5) hM.1 hM.2.1 dX8_request_157 (by decide) ?_
          refine lv_icmp_ne hM.1 hM.2.1 dX8_request_158 (tgt := 180) (by decide) (fun _ => ?_) (fun h => absurd h h_133)
          refine lv_aload_n hM.1 hM.2.1 dX8_request_180 rfl (lv_at hl 6 rfl) ?_
          refine lv_iload_n hM.1 hM.2.1 dX8_request_181 rfl (lv_at hl 7 rfl) ?_
          refine z_Vv hM (hml.trans hl.1.symm) hW hS hlo zc8 hI.O.1 rfl zyX8_take lm_X8_185 li_yX8_take le_yX8_take (As := [.int (nI k)]) (rest := []) (c_X8_take hI.O hI.cn hI.cm hk (by first | exact hI.b | exact hI.b)) rfl rfl (Nat.le_of_ble_eq_true rfl) ⟨Nat.le_of_ble_eq_true rfl, Nat.le_of_ble_eq_true rfl⟩ ⟨Nat.le_of_ble_eq_true rfl, Nat.le_of_ble_eq_true rfl⟩ dX8_request_182 (fun H locs hW hS => ?_)
          obtain ⟨B5, hB5⟩ : ∃ B, B = (s_X8_take S (ix (gi S 8 0 44)) k) := ⟨_, rfl⟩
          rw [← hB5] at hW
          have ke_B5 : B5.2.2 = S.2.2 := by rw [hB5]; simp only [pif_22, oel_22, k_si, k_sj, pif_same, oel_same, k_X6_set, k_X6_put, k_X0_showTag, k_X4_repeat, k_X7_sendRequest, k_X7_sendRequests, k_X7_beginPhase, k_X7_endPhase, k_X7_again, k_X3_obey, k_X7_serve, k_X7_twice, k_X2_learn, k_X8_votes, k_X8_silent, k_X8_side, k_X8_put, k_X8_ask, k_X8_end, k_X8_finish, k_X8_halt, k_X8_take]
          have hcB : gi B5 8 0 44 = nI ((ix (gi S 8 0 44)) - 1) := by rw [hB5, mtk_gi hk]; simp
          refine lv_aload_n hM.1 hM.2.1 dX8_request_185 rfl (lv_at hl 6 rfl) ?_
          refine lv_iconst (v := 1) hM.1 hM.2.1 dX8_request_186 (by decide) ?_
          refine lv_iload_n hM.1 hM.2.1 dX8_request_187 rfl (lv_at hl 5 rfl) ?_
          refine lv_iload_n hM.1 hM.2.1 dX8_request_188 rfl (lv_at hl 4 rfl) ?_
          refine lv_iload hM.1 hM.2.1 dX8_request_189 (lv_at hl 3 rfl) ?_
          refine lv_iload hM.1 hM.2.1 dX8_request_191 (lv_at hl 2 rfl) ?_
          refine lv_iload hM.1 hM.2.1 dX8_request_193 (lv_at hl 1 rfl) ?_
          refine lv_aload_n hM.1 hM.2.1 dX8_request_195 rfl (lv_at hl 6 rfl) ?_
          refine z_getr hM hW zc8 hI.O.1 rfl 2 (by decide) lf_X8_13 (t := 9) (j := 102) rfl ((gr_of ke_B5).trans (hO.r 2 (by decide) (by decide))) dX8_request_196 (fun hd39_196 => ?_)
          refine lv_iload_n hM.1 hM.2.1 dX8_request_199 rfl (lv_at hl 5 rfl) ?_
          refine z_iald hM hW hd39_196 rfl (vin_L (hO.l 2 (by decide) (by decide)) (hI.msg hk).1) (v := gi B5 9 (102) (ix (gi S 9 (133) (k)))) rfl dX8_request_200 ?_
          refine lv_aload_n hM.1 hM.2.1 dX8_request_201 rfl (lv_at hl 6 rfl) ?_
          refine z_getr hM hW zc8 hI.O.1 rfl 3 (by decide) lf_X8_17 (t := 9) (j := 103) rfl ((gr_of ke_B5).trans (hO.r 3 (by decide) (by decide))) dX8_request_202 (fun hd40_202 => ?_)
          refine lv_iload_n hM.1 hM.2.1 dX8_request_205 rfl (lv_at hl 5 rfl) ?_
          refine z_iald hM hW hd40_202 rfl (vin_L (hO.l 3 (by decide) (by decide)) (hI.msg hk).1) (v := gi B5 9 (103) (ix (gi S 9 (133) (k)))) rfl dX8_request_206 ?_
          refine lv_aload_n hM.1 hM.2.1 dX8_request_207 rfl (lv_at hl 6 rfl) ?_
          refine z_getr hM hW zc8 hI.O.1 rfl 1 (by decide) lf_X8_7 (t := 10) (j := 101) rfl ((gr_of ke_B5).trans (hO.r 1 (by decide) (by decide))) dX8_request_208 (fun hd41_208 => ?_)
          refine lv_iload_n hM.1 hM.2.1 dX8_request_211 rfl (lv_at hl 5 rfl) ?_
          refine z_lald hM hW hd41_208 rfl (vin_L (hO.l 1 (by decide) (by decide)) (hI.msg hk).1) (v := gj B5 10 (101) (ix (gi S 9 (133) (k)))) rfl dX8_request_212 ?_
          refine lv_iconst (v := (-1)) hM.1 hM.2.1 dX8_request_213 (by decide) ?_
          refine lv_aload_n hM.1 hM.2.1 dX8_request_214 rfl (lv_at hl 6 rfl) ?_
          refine z_getr hM hW zc8 hI.O.1 rfl 4 (by decide) lf_X8_20 (t := 9) (j := 104) rfl ((gr_of ke_B5).trans (hO.r 4 (by decide) (by decide))) dX8_request_215 (fun hd42_215 => ?_)
          refine lv_iload_n hM.1 hM.2.1 dX8_request_218 rfl (lv_at hl 5 rfl) ?_
          refine z_iald hM hW hd42_215 rfl (vin_L (hO.l 4 (by decide) (by decide)) (hI.msg hk).1) (v := gi B5 9 (104) (ix (gi S 9 (133) (k)))) rfl dX8_request_219 ?_
          refine lv_aload_n hM.1 hM.2.1 dX8_request_220 rfl (lv_at hl 6 rfl) ?_
          refine z_getr hM hW zc8 hI.O.1 rfl 5 (by decide) lf_X8_23 (t := 9) (j := 105) rfl ((gr_of ke_B5).trans (hO.r 5 (by decide) (by decide))) dX8_request_221 (fun hd43_221 => ?_)
          refine lv_iload_n hM.1 hM.2.1 dX8_request_224 rfl (lv_at hl 5 rfl) ?_
          refine z_iald hM hW hd43_221 rfl (vin_L (hO.l 5 (by decide) (by decide)) (hI.msg hk).1) (v := gi B5 9 (105) (ix (gi S 9 (133) (k)))) rfl dX8_request_225 ?_
          refine z_Vv hM (hml.trans hl.1.symm) hW hS hlo zc8 hI.O.1 rfl zyX8_put lm_X8_146 li_yX8_put le_yX8_put (As := [.int (1), .int (gi S 9 (133) (k)), .int (gi S 9 (134) (k)), .int (gi S 9 (135) (k)), .int (gi S 9 (136) (k)), .int (gi S 9 (137) (k)), .int (gi B5 9 (102) (ix (gi S 9 (133) (k)))), .int (gi B5 9 (103) (ix (gi S 9 (133) (k)))), .long (gj B5 10 (101) (ix (gi S 9 (133) (k)))), .int ((-1)), .int (gi B5 9 (104) (ix (gi S 9 (133) (k)))), .int (gi B5 9 (105) (ix (gi S 9 (133) (k))))]) (rest := []) (c_X8_put (cn := (ix (gi S 8 0 44)) - 1) (hO.of ke_B5) hcB (by have := hI.cm; omega) isB_1) rfl rfl (Nat.le_of_ble_eq_true rfl) ⟨Nat.le_of_ble_eq_true rfl, Nat.le_of_ble_eq_true rfl⟩ ⟨Nat.le_of_ble_eq_true rfl, Nat.le_of_ble_eq_true rfl⟩ dX8_request_226 (fun H locs hW hS => ?_)
          exact z_vret hM hlk hr hW hS (zF.of rfl (by subst hB5; unfold s_X8_request; rw [pif_neg h_49, pif_neg h_55, pif_neg h_127, pif_neg h_133]; first | done | rfl)) dX8_request_229
        ·
          refine lv_aload_n hM.1 hM.2.1 dX8_request_136 rfl (lv_at hl 6 rfl) ?_
          refine z_getr hM hW zc8 hI.O.1 rfl 5 (by decide) lf_X8_23 (t := 9) (j := 105) rfl (hO.r 5 (by decide) (by decide)) dX8_request_137 (fun hd44_137 => ?_)
          refine lv_iload_n hM.1 hM.2.1 dX8_request_140 rfl (lv_at hl 5 rfl) ?_
          refine z_iald hM hW hd44_137 rfl (vin_L (hO.l 5 (by decide) (by decide)) (hI.msg hk).1) (v := gi S 9 (105) (ix (gi S 9 (133) (k)))) rfl dX8_request_141 ?_
          refine lv_iload hM.1 hM.2.1 dX8_request_142 (lv_at hl 0 rfl) ?_
          refine lv_icmp_ge hM.1 hM.2.1 dX8_request_144 (tgt := 155) (by decide) (fun h_144 => ?_) (fun h_144 => ?_)
          ·
            refine lv_iload hM.1 hM.2.1 dX8_request_155 (lv_at hl 2 rfl) ?_
            refine lv_iconst (v := 5) hM.1 hM.2.1 dX8_request_157 (by decide) ?_
            refine lv_icmp_ne hM.1 hM.2.1 dX8_request_158 (tgt := 180) (by decide) (fun h => absurd h_133 h) (fun _ => ?_)
            refine lv_aload_n hM.1 hM.2.1 dX8_request_161 rfl (lv_at hl 6 rfl) ?_
            refine z_getr hM hW zc8 hI.O.1 rfl 4 (by decide) lf_X8_20 (t := 9) (j := 104) rfl (hO.r 4 (by decide) (by decide)) dX8_request_162 (fun hd45_162 => ?_)
            refine lv_iload_n hM.1 hM.2.1 dX8_request_165 rfl (lv_at hl 5 rfl) ?_
            refine z_iald hM hW hd45_162 rfl (vin_L (hO.l 4 (by decide) (by decide)) (hI.msg hk).1) (v := gi S 9 (104) (ix (gi S 9 (133) (k)))) rfl dX8_request_166 ?_
            refine lv_iload hM.1 hM.2.1 dX8_request_167 (lv_at hl 0 rfl) ?_
            refine lv_icmp_ge hM.1 hM.2.1 dX8_request_169 (tgt := 180) (by decide) (fun h_169 => ?_) (fun h_169 => ?_)
            ·
              refine lv_aload_n hM.1 hM.2.1 dX8_request_180 rfl (lv_at hl 6 rfl) ?_
              refine lv_iload_n hM.1 hM.2.1 dX8_request_181 rfl (lv_at hl 7 rfl) ?_
              refine z_Vv hM (hml.trans hl.1.symm) hW hS hlo zc8 hI.O.1 rfl zyX8_take lm_X8_185 li_yX8_take le_yX8_take (As := [.int (nI k)]) (rest := []) (c_X8_take hI.O hI.cn hI.cm hk (by first | exact hI.b | exact hI.b)) rfl rfl (Nat.le_of_ble_eq_true rfl) ⟨Nat.le_of_ble_eq_true rfl, Nat.le_of_ble_eq_true rfl⟩ ⟨Nat.le_of_ble_eq_true rfl, Nat.le_of_ble_eq_true rfl⟩ dX8_request_182 (fun H locs hW hS => ?_)
              obtain ⟨B6, hB6⟩ : ∃ B, B = (s_X8_take S (ix (gi S 8 0 44)) k) := ⟨_, rfl⟩
              rw [← hB6] at hW
              have ke_B6 : B6.2.2 = S.2.2 := by rw [hB6]; simp only [pif_22, oel_22, k_si, k_sj, pif_same, oel_same, k_X6_set, k_X6_put, k_X0_showTag, k_X4_repeat, k_X7_sendRequest, k_X7_sendRequests, k_X7_beginPhase, k_X7_endPhase, k_X7_again, k_X3_obey, k_X7_serve, k_X7_twice, k_X2_learn, k_X8_votes, k_X8_silent, k_X8_side, k_X8_put, k_X8_ask, k_X8_end, k_X8_finish, k_X8_halt, k_X8_take]
              have hcB : gi B6 8 0 44 = nI ((ix (gi S 8 0 44)) - 1) := by rw [hB6, mtk_gi hk]; simp
              refine lv_aload_n hM.1 hM.2.1 dX8_request_185 rfl (lv_at hl 6 rfl) ?_
              refine lv_iconst (v := 1) hM.1 hM.2.1 dX8_request_186 (by decide) ?_
              refine lv_iload_n hM.1 hM.2.1 dX8_request_187 rfl (lv_at hl 5 rfl) ?_
              refine lv_iload_n hM.1 hM.2.1 dX8_request_188 rfl (lv_at hl 4 rfl) ?_
              refine lv_iload hM.1 hM.2.1 dX8_request_189 (lv_at hl 3 rfl) ?_
              refine lv_iload hM.1 hM.2.1 dX8_request_191 (lv_at hl 2 rfl) ?_
              refine lv_iload hM.1 hM.2.1 dX8_request_193 (lv_at hl 1 rfl) ?_
              refine lv_aload_n hM.1 hM.2.1 dX8_request_195 rfl (lv_at hl 6 rfl) ?_
              refine z_getr hM hW zc8 hI.O.1 rfl 2 (by decide) lf_X8_13 (t := 9) (j := 102) rfl ((gr_of ke_B6).trans (hO.r 2 (by decide) (by decide))) dX8_request_196 (fun hd46_196 => ?_)
              refine lv_iload_n hM.1 hM.2.1 dX8_request_199 rfl (lv_at hl 5 rfl) ?_
              refine z_iald hM hW hd46_196 rfl (vin_L (hO.l 2 (by decide) (by decide)) (hI.msg hk).1) (v := gi B6 9 (102) (ix (gi S 9 (133) (k)))) rfl dX8_request_200 ?_
              refine lv_aload_n hM.1 hM.2.1 dX8_request_201 rfl (lv_at hl 6 rfl) ?_
              refine z_getr hM hW zc8 hI.O.1 rfl 3 (by decide) lf_X8_17 (t := 9) (j := 103) rfl ((gr_of ke_B6).trans (hO.r 3 (by decide) (by decide))) dX8_request_202 (fun hd47_202 => ?_)
              refine lv_iload_n hM.1 hM.2.1 dX8_request_205 rfl (lv_at hl 5 rfl) ?_
              refine z_iald hM hW hd47_202 rfl (vin_L (hO.l 3 (by decide) (by decide)) (hI.msg hk).1) (v := gi B6 9 (103) (ix (gi S 9 (133) (k)))) rfl dX8_request_206 ?_
              refine lv_aload_n hM.1 hM.2.1 dX8_request_207 rfl (lv_at hl 6 rfl) ?_
              refine z_getr hM hW zc8 hI.O.1 rfl 1 (by decide) lf_X8_7 (t := 10) (j := 101) rfl ((gr_of ke_B6).trans (hO.r 1 (by decide) (by decide))) dX8_request_208 (fun hd48_208 => ?_)
              refine lv_iload_n hM.1 hM.2.1 dX8_request_211 rfl (lv_at hl 5 rfl) ?_
              refine z_lald hM hW hd48_208 rfl (vin_L (hO.l 1 (by decide) (by decide)) (hI.msg hk).1) (v := gj B6 10 (101) (ix (gi S 9 (133) (k)))) rfl dX8_request_212 ?_
              refine lv_iconst (v := (-1)) hM.1 hM.2.1 dX8_request_213 (by decide) ?_
              refine lv_aload_n hM.1 hM.2.1 dX8_request_214 rfl (lv_at hl 6 rfl) ?_
              refine z_getr hM hW zc8 hI.O.1 rfl 4 (by decide) lf_X8_20 (t := 9) (j := 104) rfl ((gr_of ke_B6).trans (hO.r 4 (by decide) (by decide))) dX8_request_215 (fun hd49_215 => ?_)
              refine lv_iload_n hM.1 hM.2.1 dX8_request_218 rfl (lv_at hl 5 rfl) ?_
              refine z_iald hM hW hd49_215 rfl (vin_L (hO.l 4 (by decide) (by decide)) (hI.msg hk).1) (v := gi B6 9 (104) (ix (gi S 9 (133) (k)))) rfl dX8_request_219 ?_
              refine lv_aload_n hM.1 hM.2.1 dX8_request_220 rfl (lv_at hl 6 rfl) ?_
              refine z_getr hM hW zc8 hI.O.1 rfl 5 (by decide) lf_X8_23 (t := 9) (j := 105) rfl ((gr_of ke_B6).trans (hO.r 5 (by decide) (by decide))) dX8_request_221 (fun hd50_221 => ?_)
              refine lv_iload_n hM.1 hM.2.1 dX8_request_224 rfl (lv_at hl 5 rfl) ?_
              refine z_iald hM hW hd50_221 rfl (vin_L (hO.l 5 (by decide) (by decide)) (hI.msg hk).1) (v := gi B6 9 (105) (ix (gi S 9 (133) (k)))) rfl dX8_request_225 ?_
              refine z_Vv hM (hml.trans hl.1.symm) hW hS hlo zc8 hI.O.1 rfl zyX8_put lm_X8_146 li_yX8_put le_yX8_put (As := [.int (1), .int (gi S 9 (133) (k)), .int (gi S 9 (134) (k)), .int (gi S 9 (135) (k)), .int (gi S 9 (136) (k)), .int (gi S 9 (137) (k)), .int (gi B6 9 (102) (ix (gi S 9 (133) (k)))), .int (gi B6 9 (103) (ix (gi S 9 (133) (k)))), .long (gj B6 10 (101) (ix (gi S 9 (133) (k)))), .int ((-1)), .int (gi B6 9 (104) (ix (gi S 9 (133) (k)))), .int (gi B6 9 (105) (ix (gi S 9 (133) (k))))]) (rest := []) (c_X8_put (cn := (ix (gi S 8 0 44)) - 1) (hO.of ke_B6) hcB (by have := hI.cm; omega) isB_1) rfl rfl (Nat.le_of_ble_eq_true rfl) ⟨Nat.le_of_ble_eq_true rfl, Nat.le_of_ble_eq_true rfl⟩ ⟨Nat.le_of_ble_eq_true rfl, Nat.le_of_ble_eq_true rfl⟩ dX8_request_226 (fun H locs hW hS => ?_)
              exact z_vret hM hlk hr hW hS (zF.of rfl (by subst hB6; unfold s_X8_request; rw [pif_neg h_49, pif_neg h_55, pif_neg h_127, pif_pos h_133, pif_pos h_144, pif_pos h_169]; first | done | rfl)) dX8_request_229
            ·
              refine lv_aload_n hM.1 hM.2.1 dX8_request_172 rfl (lv_at hl 6 rfl) ?_
              refine z_getr hM hW zc8 hI.O.1 rfl 4 (by decide) lf_X8_20 (t := 9) (j := 104) rfl (hO.r 4 (by decide) (by decide)) dX8_request_173 (fun hd51_173 => ?_)
              refine lv_iload_n hM.1 hM.2.1 dX8_request_176 rfl (lv_at hl 5 rfl) ?_
              refine lv_iload hM.1 hM.2.1 dX8_request_177 (lv_at hl 0 rfl) ?_
              refine z_iast hM hW hS hd51_173 rfl (vin_L (hO.l 4 (by decide) (by decide)) (hI.msg hk).1) dX8_request_179 (fun H locs hW hS => ?_)
              refine lv_aload_n hM.1 hM.2.1 dX8_request_180 rfl (lv_at hl 6 rfl) ?_
              refine lv_iload_n hM.1 hM.2.1 dX8_request_181 rfl (lv_at hl 7 rfl) ?_
              refine z_Vv hM (hml.trans hl.1.symm) hW hS hlo zc8 hI.O.1 rfl zyX8_take lm_X8_185 li_yX8_take le_yX8_take (As := [.int (nI k)]) (rest := []) (c_X8_take hI.O hI.cn hI.cm hk (by first | exact hI.b | exact hI.b)) rfl rfl (Nat.le_of_ble_eq_true rfl) ⟨Nat.le_of_ble_eq_true rfl, Nat.le_of_ble_eq_true rfl⟩ ⟨Nat.le_of_ble_eq_true rfl, Nat.le_of_ble_eq_true rfl⟩ dX8_request_182 (fun H locs hW hS => ?_)
              obtain ⟨B7, hB7⟩ : ∃ B, B = (s_X8_take (si S 9 (104) (ix (gi S 9 (133) (k))) (gi S 9 (140) (k))) (ix (gi S 8 0 44)) k) := ⟨_, rfl⟩
              rw [← hB7] at hW
              have ke_B7 : B7.2.2 = S.2.2 := by rw [hB7]; simp only [pif_22, oel_22, k_si, k_sj, pif_same, oel_same, k_X6_set, k_X6_put, k_X0_showTag, k_X4_repeat, k_X7_sendRequest, k_X7_sendRequests, k_X7_beginPhase, k_X7_endPhase, k_X7_again, k_X3_obey, k_X7_serve, k_X7_twice, k_X2_learn, k_X8_votes, k_X8_silent, k_X8_side, k_X8_put, k_X8_ask, k_X8_end, k_X8_finish, k_X8_halt, k_X8_take]
              have hcB : gi B7 8 0 44 = nI ((ix (gi S 8 0 44)) - 1) := by rw [hB7, mtk_gi hk]; simp
              refine lv_aload_n hM.1 hM.2.1 dX8_request_185 rfl (lv_at hl 6 rfl) ?_
              refine lv_iconst (v := 1) hM.1 hM.2.1 dX8_request_186 (by decide) ?_
              refine lv_iload_n hM.1 hM.2.1 dX8_request_187 rfl (lv_at hl 5 rfl) ?_
              refine lv_iload_n hM.1 hM.2.1 dX8_request_188 rfl (lv_at hl 4 rfl) ?_
              refine lv_iload hM.1 hM.2.1 dX8_request_189 (lv_at hl 3 rfl) ?_
              refine lv_iload hM.1 hM.2.1 dX8_request_191 (lv_at hl 2 rfl) ?_
              refine lv_iload hM.1 hM.2.1 dX8_request_193 (lv_at hl 1 rfl) ?_
              refine lv_aload_n hM.1 hM.2.1 dX8_request_195 rfl (lv_at hl 6 rfl) ?_
              refine z_getr hM hW zc8 hI.O.1 rfl 2 (by decide) lf_X8_13 (t := 9) (j := 102) rfl ((gr_of ke_B7).trans (hO.r 2 (by decide) (by decide))) dX8_request_196 (fun hd52_196 => ?_)
              refine lv_iload_n hM.1 hM.2.1 dX8_request_199 rfl (lv_at hl 5 rfl) ?_
              refine z_iald hM hW hd52_196 rfl (vin_L (hO.l 2 (by decide) (by decide)) (hI.msg hk).1) (v := gi B7 9 (102) (ix (gi S 9 (133) (k)))) rfl dX8_request_200 ?_
              refine lv_aload_n hM.1 hM.2.1 dX8_request_201 rfl (lv_at hl 6 rfl) ?_
              refine z_getr hM hW zc8 hI.O.1 rfl 3 (by decide) lf_X8_17 (t := 9) (j := 103) rfl ((gr_of ke_B7).trans (hO.r 3 (by decide) (by decide))) dX8_request_202 (fun hd53_202 => ?_)
              refine lv_iload_n hM.1 hM.2.1 dX8_request_205 rfl (lv_at hl 5 rfl) ?_
              refine z_iald hM hW hd53_202 rfl (vin_L (hO.l 3 (by decide) (by decide)) (hI.msg hk).1) (v := gi B7 9 (103) (ix (gi S 9 (133) (k)))) rfl dX8_request_206 ?_
              refine lv_aload_n hM.1 hM.2.1 dX8_request_207 rfl (lv_at hl 6 rfl) ?_
              refine z_getr hM hW zc8 hI.O.1 rfl 1 (by decide) lf_X8_7 (t := 10) (j := 101) rfl ((gr_of ke_B7).trans (hO.r 1 (by decide) (by decide))) dX8_request_208 (fun hd54_208 => ?_)
              refine lv_iload_n hM.1 hM.2.1 dX8_request_211 rfl (lv_at hl 5 rfl) ?_
              refine z_lald hM hW hd54_208 rfl (vin_L (hO.l 1 (by decide) (by decide)) (hI.msg hk).1) (v := gj B7 10 (101) (ix (gi S 9 (133) (k)))) rfl dX8_request_212 ?_
              refine lv_iconst (v := (-1)) hM.1 hM.2.1 dX8_request_213 (by decide) ?_
              refine lv_aload_n hM.1 hM.2.1 dX8_request_214 rfl (lv_at hl 6 rfl) ?_
              refine z_getr hM hW zc8 hI.O.1 rfl 4 (by decide) lf_X8_20 (t := 9) (j := 104) rfl ((gr_of ke_B7).trans (hO.r 4 (by decide) (by decide))) dX8_request_215 (fun hd55_215 => ?_)
              refine lv_iload_n hM.1 hM.2.1 dX8_request_218 rfl (lv_at hl 5 rfl) ?_
              refine z_iald hM hW hd55_215 rfl (vin_L (hO.l 4 (by decide) (by decide)) (hI.msg hk).1) (v := gi B7 9 (104) (ix (gi S 9 (133) (k)))) rfl dX8_request_219 ?_
              refine lv_aload_n hM.1 hM.2.1 dX8_request_220 rfl (lv_at hl 6 rfl) ?_
              refine z_getr hM hW zc8 hI.O.1 rfl 5 (by decide) lf_X8_23 (t := 9) (j := 105) rfl ((gr_of ke_B7).trans (hO.r 5 (by decide) (by decide))) dX8_request_221 (fun hd56_221 => ?_)
              refine lv_iload_n hM.1 hM.2.1 dX8_request_224 rfl (lv_at hl 5 rfl) ?_
              refine z_iald hM hW hd56_221 rfl (vin_L (hO.l 5 (by decide) (by decide)) (hI.msg hk).1) (v := gi B7 9 (105) (ix (gi S 9 (133) (k)))) rfl dX8_request_225 ?_
              refine z_Vv hM (hml.trans hl.1.symm) hW hS hlo zc8 hI.O.1 rfl zyX8_put lm_X8_146 li_yX8_put le_yX8_put (As := [.int (1), .int (gi S 9 (133) (k)), .int (gi S 9 (134) (k)), .int (gi S 9 (135) (k)), .int (gi S 9 (136) (k)), .int (gi S 9 (137) (k)), .int (gi B7 9 (102) (ix (gi S 9 (133) (k)))), .int (gi B7 9 (103) (ix (gi S 9 (133) (k)))), .long (gj B7 10 (101) (ix (gi S 9 (133) (k)))), .int ((-1)), .int (gi B7 9 (104) (ix (gi S 9 (133) (k)))), .int (gi B7 9 (105) (ix (gi S 9 (133) (k))))]) (rest := []) (c_X8_put (cn := (ix (gi S 8 0 44)) - 1) (hO.of ke_B7) hcB (by have := hI.cm; omega) isB_1) rfl rfl (Nat.le_of_ble_eq_true rfl) ⟨Nat.le_of_ble_eq_true rfl, Nat.le_of_ble_eq_true rfl⟩ ⟨Nat.le_of_ble_eq_true rfl, Nat.le_of_ble_eq_true rfl⟩ dX8_request_226 (fun H locs hW hS => ?_)
              exact z_vret hM hlk hr hW hS (zF.of rfl (by subst hB7; unfold s_X8_request; rw [pif_neg h_49, pif_neg h_55, pif_neg h_127, pif_pos h_133, pif_pos h_144, pif_neg h_169]; first | done | rfl)) dX8_request_229
          ·
            refine lv_aload_n hM.1 hM.2.1 dX8_request_147 rfl (lv_at hl 6 rfl) ?_
            refine z_getr hM hW zc8 hI.O.1 rfl 5 (by decide) lf_X8_23 (t := 9) (j := 105) rfl (hO.r 5 (by decide) (by decide)) dX8_request_148 (fun hd57_148 => ?_)
            refine lv_iload_n hM.1 hM.2.1 dX8_request_151 rfl (lv_at hl 5 rfl) ?_
            refine lv_iload hM.1 hM.2.1 dX8_request_152 (lv_at hl 0 rfl) ?_
            refine z_iast hM hW hS hd57_148 rfl (vin_L (hO.l 5 (by decide) (by decide)) (hI.msg hk).1) dX8_request_154 (fun H locs hW hS => ?_)
            refine lv_iload hM.1 hM.2.1 dX8_request_155 (lv_at hl 2 rfl) ?_
            refine lv_iconst (v := 5) hM.1 hM.2.1 dX8_request_157 (by decide) ?_
            refine lv_icmp_ne hM.1 hM.2.1 dX8_request_158 (tgt := 180) (by decide) (fun h => absurd h_133 h) (fun _ => ?_)
            refine lv_aload_n hM.1 hM.2.1 dX8_request_161 rfl (lv_at hl 6 rfl) ?_
            refine z_getr hM hW zc8 hI.O.1 rfl 4 (by decide) lf_X8_20 (t := 9) (j := 104) rfl (hO.r 4 (by decide) (by decide)) dX8_request_162 (fun hd58_162 => ?_)
            refine lv_iload_n hM.1 hM.2.1 dX8_request_165 rfl (lv_at hl 5 rfl) ?_
            refine z_iald hM hW hd58_162 rfl (vin_L (hO.l 4 (by decide) (by decide)) (hI.msg hk).1) (v := gi S 9 (104) (ix (gi S 9 (133) (k)))) rfl dX8_request_166 ?_
            refine lv_iload hM.1 hM.2.1 dX8_request_167 (lv_at hl 0 rfl) ?_
            refine lv_icmp_ge hM.1 hM.2.1 dX8_request_169 (tgt := 180) (by decide) (fun h_169 => ?_) (fun h_169 => ?_)
            ·
              refine lv_aload_n hM.1 hM.2.1 dX8_request_180 rfl (lv_at hl 6 rfl) ?_
              refine lv_iload_n hM.1 hM.2.1 dX8_request_181 rfl (lv_at hl 7 rfl) ?_
              refine z_Vv hM (hml.trans hl.1.symm) hW hS hlo zc8 hI.O.1 rfl zyX8_take lm_X8_185 li_yX8_take le_yX8_take (As := [.int (nI k)]) (rest := []) (c_X8_take hI.O hI.cn hI.cm hk (by first | exact hI.b | exact hI.b)) rfl rfl (Nat.le_of_ble_eq_true rfl) ⟨Nat.le_of_ble_eq_true rfl, Nat.le_of_ble_eq_true rfl⟩ ⟨Nat.le_of_ble_eq_true rfl, Nat.le_of_ble_eq_true rfl⟩ dX8_request_182 (fun H locs hW hS => ?_)
              obtain ⟨B8, hB8⟩ : ∃ B, B = (s_X8_take (si S 9 (105) (ix (gi S 9 (133) (k))) (gi S 9 (140) (k))) (ix (gi S 8 0 44)) k) := ⟨_, rfl⟩
              rw [← hB8] at hW
              have ke_B8 : B8.2.2 = S.2.2 := by rw [hB8]; simp only [pif_22, oel_22, k_si, k_sj, pif_same, oel_same, k_X6_set, k_X6_put, k_X0_showTag, k_X4_repeat, k_X7_sendRequest, k_X7_sendRequests, k_X7_beginPhase, k_X7_endPhase, k_X7_again, k_X3_obey, k_X7_serve, k_X7_twice, k_X2_learn, k_X8_votes, k_X8_silent, k_X8_side, k_X8_put, k_X8_ask, k_X8_end, k_X8_finish, k_X8_halt, k_X8_take]
              have hcB : gi B8 8 0 44 = nI ((ix (gi S 8 0 44)) - 1) := by rw [hB8, mtk_gi hk]; simp
              refine lv_aload_n hM.1 hM.2.1 dX8_request_185 rfl (lv_at hl 6 rfl) ?_
              refine lv_iconst (v := 1) hM.1 hM.2.1 dX8_request_186 (by decide) ?_
              refine lv_iload_n hM.1 hM.2.1 dX8_request_187 rfl (lv_at hl 5 rfl) ?_
              refine lv_iload_n hM.1 hM.2.1 dX8_request_188 rfl (lv_at hl 4 rfl) ?_
              refine lv_iload hM.1 hM.2.1 dX8_request_189 (lv_at hl 3 rfl) ?_
              refine lv_iload hM.1 hM.2.1 dX8_request_191 (lv_at hl 2 rfl) ?_
              refine lv_iload hM.1 hM.2.1 dX8_request_193 (lv_at hl 1 rfl) ?_
              refine lv_aload_n hM.1 hM.2.1 dX8_request_195 rfl (lv_at hl 6 rfl) ?_
              refine z_getr hM hW zc8 hI.O.1 rfl 2 (by decide) lf_X8_13 (t := 9) (j := 102) rfl ((gr_of ke_B8).trans (hO.r 2 (by decide) (by decide))) dX8_request_196 (fun hd59_196 => ?_)
              refine lv_iload_n hM.1 hM.2.1 dX8_request_199 rfl (lv_at hl 5 rfl) ?_
              refine z_iald hM hW hd59_196 rfl (vin_L (hO.l 2 (by decide) (by decide)) (hI.msg hk).1) (v := gi B8 9 (102) (ix (gi S 9 (133) (k)))) rfl dX8_request_200 ?_
              refine lv_aload_n hM.1 hM.2.1 dX8_request_201 rfl (lv_at hl 6 rfl) ?_
              refine z_getr hM hW zc8 hI.O.1 rfl 3 (by decide) lf_X8_17 (t := 9) (j := 103) rfl ((gr_of ke_B8).trans (hO.r 3 (by decide) (by decide))) dX8_request_202 (fun hd60_202 => ?_)
              refine lv_iload_n hM.1 hM.2.1 dX8_request_205 rfl (lv_at hl 5 rfl) ?_
              refine z_iald hM hW hd60_202 rfl (vin_L (hO.l 3 (by decide) (by decide)) (hI.msg hk).1) (v := gi B8 9 (103) (ix (gi S 9 (133) (k)))) rfl dX8_request_206 ?_
              refine lv_aload_n hM.1 hM.2.1 dX8_request_207 rfl (lv_at hl 6 rfl) ?_
              refine z_getr hM hW zc8 hI.O.1 rfl 1 (by decide) lf_X8_7 (t := 10) (j := 101) rfl ((gr_of ke_B8).trans (hO.r 1 (by decide) (by decide))) dX8_request_208 (fun hd61_208 => ?_)
              refine lv_iload_n hM.1 hM.2.1 dX8_request_211 rfl (lv_at hl 5 rfl) ?_
              refine z_lald hM hW hd61_208 rfl (vin_L (hO.l 1 (by decide) (by decide)) (hI.msg hk).1) (v := gj B8 10 (101) (ix (gi S 9 (133) (k)))) rfl dX8_request_212 ?_
              refine lv_iconst (v := (-1)) hM.1 hM.2.1 dX8_request_213 (by decide) ?_
              refine lv_aload_n hM.1 hM.2.1 dX8_request_214 rfl (lv_at hl 6 rfl) ?_
              refine z_getr hM hW zc8 hI.O.1 rfl 4 (by decide) lf_X8_20 (t := 9) (j := 104) rfl ((gr_of ke_B8).trans (hO.r 4 (by decide) (by decide))) dX8_request_215 (fun hd62_215 => ?_)
              refine lv_iload_n hM.1 hM.2.1 dX8_request_218 rfl (lv_at hl 5 rfl) ?_
              refine z_iald hM hW hd62_215 rfl (vin_L (hO.l 4 (by decide) (by decide)) (hI.msg hk).1) (v := gi B8 9 (104) (ix (gi S 9 (133) (k)))) rfl dX8_request_219 ?_
              refine lv_aload_n hM.1 hM.2.1 dX8_request_220 rfl (lv_at hl 6 rfl) ?_
              refine z_getr hM hW zc8 hI.O.1 rfl 5 (by decide) lf_X8_23 (t := 9) (j := 105) rfl ((gr_of ke_B8).trans (hO.r 5 (by decide) (by decide))) dX8_request_221 (fun hd63_221 => ?_)
              refine lv_iload_n hM.1 hM.2.1 dX8_request_224 rfl (lv_at hl 5 rfl) ?_
              refine z_iald hM hW hd63_221 rfl (vin_L (hO.l 5 (by decide) (by decide)) (hI.msg hk).1) (v := gi B8 9 (105) (ix (gi S 9 (133) (k)))) rfl dX8_request_225 ?_
              refine z_Vv hM (hml.trans hl.1.symm) hW hS hlo zc8 hI.O.1 rfl zyX8_put lm_X8_146 li_yX8_put le_yX8_put (As := [.int (1), .int (gi S 9 (133) (k)), .int (gi S 9 (134) (k)), .int (gi S 9 (135) (k)), .int (gi S 9 (136) (k)), .int (gi S 9 (137) (k)), .int (gi B8 9 (102) (ix (gi S 9 (133) (k)))), .int (gi B8 9 (103) (ix (gi S 9 (133) (k)))), .long (gj B8 10 (101) (ix (gi S 9 (133) (k)))), .int ((-1)), .int (gi B8 9 (104) (ix (gi S 9 (133) (k)))), .int (gi B8 9 (105) (ix (gi S 9 (133) (k))))]) (rest := []) (c_X8_put (cn := (ix (gi S 8 0 44)) - 1) (hO.of ke_B8) hcB (by have := hI.cm; omega) isB_1) rfl rfl (Nat.le_of_ble_eq_true rfl) ⟨Nat.le_of_ble_eq_true rfl, Nat.le_of_ble_eq_true rfl⟩ ⟨Nat.le_of_ble_eq_true rfl, Nat.le_of_ble_eq_true rfl⟩ dX8_request_226 (fun H locs hW hS => ?_)
              exact z_vret hM hlk hr hW hS (zF.of rfl (by subst hB8; unfold s_X8_request; rw [pif_neg h_49, pif_neg h_55, pif_neg h_127, pif_pos h_133, pif_neg h_144, pif_pos h_169]; first | done | rfl)) dX8_request_229
            ·
              refine lv_aload_n hM.1 hM.2.1 dX8_request_172 rfl (lv_at hl 6 rfl) ?_
              refine z_getr hM hW zc8 hI.O.1 rfl 4 (by decide) lf_X8_20 (t := 9) (j := 104) rfl (hO.r 4 (by decide) (by decide)) dX8_request_173 (fun hd64_173 => ?_)
              refine lv_iload_n hM.1 hM.2.1 dX8_request_176 rfl (lv_at hl 5 rfl) ?_
              refine lv_iload hM.1 hM.2.1 dX8_request_177 (lv_at hl 0 rfl) ?_
              refine z_iast hM hW hS hd64_173 rfl (vin_L (hO.l 4 (by decide) (by decide)) (hI.msg hk).1) dX8_request_179 (fun H locs hW hS => ?_)
              refine lv_aload_n hM.1 hM.2.1 dX8_request_180 rfl (lv_at hl 6 rfl) ?_
              refine lv_iload_n hM.1 hM.2.1 dX8_request_181 rfl (lv_at hl 7 rfl) ?_
              refine z_Vv hM (hml.trans hl.1.symm) hW hS hlo zc8 hI.O.1 rfl zyX8_take lm_X8_185 li_yX8_take le_yX8_take (As := [.int (nI k)]) (rest := []) (c_X8_take hI.O hI.cn hI.cm hk (by first | exact hI.b | exact hI.b)) rfl rfl (Nat.le_of_ble_eq_true rfl) ⟨Nat.le_of_ble_eq_true rfl, Nat.le_of_ble_eq_true rfl⟩ ⟨Nat.le_of_ble_eq_true rfl, Nat.le_of_ble_eq_true rfl⟩ dX8_request_182 (fun H locs hW hS => ?_)
              obtain ⟨B9, hB9⟩ : ∃ B, B = (s_X8_take (si (si S 9 (105) (ix (gi S 9 (133) (k))) (gi S 9 (140) (k))) 9 (104) (ix (gi S 9 (133) (k))) (gi S 9 (140) (k))) (ix (gi S 8 0 44)) k) := ⟨_, rfl⟩
              rw [← hB9] at hW
              have ke_B9 : B9.2.2 = S.2.2 := by rw [hB9]; simp only [pif_22, oel_22, k_si, k_sj, pif_same, oel_same, k_X6_set, k_X6_put, k_X0_showTag, k_X4_repeat, k_X7_sendRequest, k_X7_sendRequests, k_X7_beginPhase, k_X7_endPhase, k_X7_again, k_X3_obey, k_X7_serve, k_X7_twice, k_X2_learn, k_X8_votes, k_X8_silent, k_X8_side, k_X8_put, k_X8_ask, k_X8_end, k_X8_finish, k_X8_halt, k_X8_take]
              have hcB : gi B9 8 0 44 = nI ((ix (gi S 8 0 44)) - 1) := by rw [hB9, mtk_gi hk]; simp
              refine lv_aload_n hM.1 hM.2.1 dX8_request_185 rfl (lv_at hl 6 rfl) ?_
              refine lv_iconst (v := 1) hM.1 hM.2.1 dX8_request_186 (by decide) ?_
              refine lv_iload_n hM.1 hM.2.1 dX8_request_187 rfl (lv_at hl 5 rfl) ?_
              refine lv_iload_n hM.1 hM.2.1 dX8_request_188 rfl (lv_at hl 4 rfl) ?_
              refine lv_iload hM.1 hM.2.1 dX8_request_189 (lv_at hl 3 rfl) ?_
              refine lv_iload hM.1 hM.2.1 dX8_request_191 (lv_at hl 2 rfl) ?_
              refine lv_iload hM.1 hM.2.1 dX8_request_193 (lv_at hl 1 rfl) ?_
              refine lv_aload_n hM.1 hM.2.1 dX8_request_195 rfl (lv_at hl 6 rfl) ?_
              refine z_getr hM hW zc8 hI.O.1 rfl 2 (by decide) lf_X8_13 (t := 9) (j := 102) rfl ((gr_of ke_B9).trans (hO.r 2 (by decide) (by decide))) dX8_request_196 (fun hd65_196 => ?_)
              refine lv_iload_n hM.1 hM.2.1 dX8_request_199 rfl (lv_at hl 5 rfl) ?_
              refine z_iald hM hW hd65_196 rfl (vin_L (hO.l 2 (by decide) (by decide)) (hI.msg hk).1) (v := gi B9 9 (102) (ix (gi S 9 (133) (k)))) rfl dX8_request_200 ?_
              refine lv_aload_n hM.1 hM.2.1 dX8_request_201 rfl (lv_at hl 6 rfl) ?_
              refine z_getr hM hW zc8 hI.O.1 rfl 3 (by decide) lf_X8_17 (t := 9) (j := 103) rfl ((gr_of ke_B9).trans (hO.r 3 (by decide) (by decide))) dX8_request_202 (fun hd66_202 => ?_)
              refine lv_iload_n hM.1 hM.2.1 dX8_request_205 rfl (lv_at hl 5 rfl) ?_
              refine z_iald hM hW hd66_202 rfl (vin_L (hO.l 3 (by decide) (by decide)) (hI.msg hk).1) (v := gi B9 9 (103) (ix (gi S 9 (133) (k)))) rfl dX8_request_206 ?_
              refine lv_aload_n hM.1 hM.2.1 dX8_request_207 rfl (lv_at hl 6 rfl) ?_
              refine z_getr hM hW zc8 hI.O.1 rfl 1 (by decide) lf_X8_7 (t := 10) (j := 101) rfl ((gr_of ke_B9).trans (hO.r 1 (by decide) (by decide))) dX8_request_208 (fun hd67_208 => ?_)
              refine lv_iload_n hM.1 hM.2.1 dX8_request_211 rfl (lv_at hl 5 rfl) ?_
              refine z_lald hM hW hd67_208 rfl (vin_L (hO.l 1 (by decide) (by decide)) (hI.msg hk).1) (v := gj B9 10 (101) (ix (gi S 9 (133) (k)))) rfl dX8_request_212 ?_
              refine lv_iconst (v := (-1)) hM.1 hM.2.1 dX8_request_213 (by decide) ?_
              refine lv_aload_n hM.1 hM.2.1 dX8_request_214 rfl (lv_at hl 6 rfl) ?_
              refine z_getr hM hW zc8 hI.O.1 rfl 4 (by decide) lf_X8_20 (t := 9) (j := 104) rfl ((gr_of ke_B9).trans (hO.r 4 (by decide) (by decide))) dX8_request_215 (fun hd68_215 => ?_)
              refine lv_iload_n hM.1 hM.2.1 dX8_request_218 rfl (lv_at hl 5 rfl) ?_
              refine z_iald hM hW hd68_215 rfl (vin_L (hO.l 4 (by decide) (by decide)) (hI.msg hk).1) (v := gi B9 9 (104) (ix (gi S 9 (133) (k)))) rfl dX8_request_219 ?_
              refine lv_aload_n hM.1 hM.2.1 dX8_request_220 rfl (lv_at hl 6 rfl) ?_
              refine z_getr hM hW zc8 hI.O.1 rfl 5 (by decide) lf_X8_23 (t := 9) (j := 105) rfl ((gr_of ke_B9).trans (hO.r 5 (by decide) (by decide))) dX8_request_221 (fun hd69_221 => ?_)
              refine lv_iload_n hM.1 hM.2.1 dX8_request_224 rfl (lv_at hl 5 rfl) ?_
              refine z_iald hM hW hd69_221 rfl (vin_L (hO.l 5 (by decide) (by decide)) (hI.msg hk).1) (v := gi B9 9 (105) (ix (gi S 9 (133) (k)))) rfl dX8_request_225 ?_
              refine z_Vv hM (hml.trans hl.1.symm) hW hS hlo zc8 hI.O.1 rfl zyX8_put lm_X8_146 li_yX8_put le_yX8_put (As := [.int (1), .int (gi S 9 (133) (k)), .int (gi S 9 (134) (k)), .int (gi S 9 (135) (k)), .int (gi S 9 (136) (k)), .int (gi S 9 (137) (k)), .int (gi B9 9 (102) (ix (gi S 9 (133) (k)))), .int (gi B9 9 (103) (ix (gi S 9 (133) (k)))), .long (gj B9 10 (101) (ix (gi S 9 (133) (k)))), .int ((-1)), .int (gi B9 9 (104) (ix (gi S 9 (133) (k)))), .int (gi B9 9 (105) (ix (gi S 9 (133) (k))))]) (rest := []) (c_X8_put (cn := (ix (gi S 8 0 44)) - 1) (hO.of ke_B9) hcB (by have := hI.cm; omega) isB_1) rfl rfl (Nat.le_of_ble_eq_true rfl) ⟨Nat.le_of_ble_eq_true rfl, Nat.le_of_ble_eq_true rfl⟩ ⟨Nat.le_of_ble_eq_true rfl, Nat.le_of_ble_eq_true rfl⟩ dX8_request_226 (fun H locs hW hS => ?_)
              exact z_vret hM hlk hr hW hS (zF.of rfl (by subst hB9; unfold s_X8_request; rw [pif_neg h_49, pif_neg h_55, pif_neg h_127, pif_pos h_133, pif_neg h_144, pif_neg h_169]; first | done | rfl)) dX8_request_229
    ·
      refine lv_aload_n hM.1 hM.2.1 dX8_request_58 rfl (lv_at hl 6 rfl) ?_
      refine z_getr hM hW zc8 hI.O.1 rfl 38 (by decide) lf_X8_111 (t := 9) (j := 138) rfl (hO.r 38 (by decide) (by decide)) dX8_request_59 (fun hd70_59 => ?_)
      refine lv_iload_n hM.1 hM.2.1 dX8_request_62 rfl (lv_at hl 7 rfl) ?_
      refine z_iald hM hW hd70_59 rfl (vin_nI (hO.l 38 (by decide) (by decide)) (by have : mlen 38 = 300 := rfl; omega) (by decide)) (v := gi S 9 (138) (k)) ((congrArg (gi S 9 (138)) (nI_clamp (by omega))).trans rfl) dX8_request_63 ?_
      refine lv_aload_n hM.1 hM.2.1 dX8_request_64 rfl (lv_at hl 6 rfl) ?_
      refine z_getr hM hW zc8 hI.O.1 rfl 39 (by decide) lf_X8_114 (t := 9) (j := 139) rfl (hO.r 39 (by decide) (by decide)) dX8_request_65 (fun hd71_65 => ?_)
      refine lv_iload_n hM.1 hM.2.1 dX8_request_68 rfl (lv_at hl 7 rfl) ?_
      refine z_iald hM hW hd71_65 rfl (vin_nI (hO.l 39 (by decide) (by decide)) (by have : mlen 39 = 300 := rfl; omega) (by decide)) (v := gi S 9 (139) (k)) ((congrArg (gi S 9 (139)) (nI_clamp (by omega))).trans rfl) dX8_request_69 ?_
      refine lv_aload_n hM.1 hM.2.1 dX8_request_70 rfl (lv_at hl 6 rfl) ?_
      refine z_getr hM hW zc8 hI.O.1 rfl 2 (by decide) lf_X8_13 (t := 9) (j := 102) rfl (hO.r 2 (by decide) (by decide)) dX8_request_71 (fun hd72_71 => ?_)
      refine lv_iload_n hM.1 hM.2.1 dX8_request_74 rfl (lv_at hl 5 rfl) ?_
      refine z_iald hM hW hd72_71 rfl (vin_L (hO.l 2 (by decide) (by decide)) (hI.msg hk).1) (v := gi S 9 (102) (ix (gi S 9 (133) (k)))) rfl dX8_request_75 ?_
      refine lv_aload_n hM.1 hM.2.1 dX8_request_76 rfl (lv_at hl 6 rfl) ?_
      refine z_getr hM hW zc8 hI.O.1 rfl 3 (by decide) lf_X8_17 (t := 9) (j := 103) rfl (hO.r 3 (by decide) (by decide)) dX8_request_77 (fun hd73_77 => ?_)
      refine lv_iload_n hM.1 hM.2.1 dX8_request_80 rfl (lv_at hl 5 rfl) ?_
      refine z_iald hM hW hd73_77 rfl (vin_L (hO.l 3 (by decide) (by decide)) (hI.msg hk).1) (v := gi S 9 (103) (ix (gi S 9 (133) (k)))) rfl dX8_request_81 ?_
      refine z_Si hM (hml.trans hl.1.symm) hW hS hlo zyX8_isGreater lm_X8_188 ls_yX8_isGreater (As := [.int (gi S 9 (138) (k)), .int (gi S 9 (139) (k)), .int (gi S 9 (102) (ix (gi S 9 (133) (k)))), .int (gi S 9 (103) (ix (gi S 9 (133) (k))))]) (rest := []) (c_X8_isGreater (S := S)) rfl rfl (Nat.le_of_ble_eq_true rfl) ⟨Nat.le_of_ble_eq_true rfl, Nat.le_of_ble_eq_true rfl⟩ ⟨Nat.le_of_ble_eq_true rfl, Nat.le_of_ble_eq_true rfl⟩ dX8_request_82 (fun H locs hW hS => ?_)
      refine lv_if_eq hM.1 hM.2.1 dX8_request_85 (tgt := 124) (by decide) (fun h_85 => ?_) (fun h_85 => ?_)
      ·
        refine lv_iload hM.1 hM.2.1 dX8_request_124 (lv_at hl 2 rfl) ?_
        refine lv_iconst (v := 3) hM.1 hM.2.1 dX8_request_126 (by decide) ?_
        refine lv_icmp_eq hM.1 hM.2.1 dX8_request_127 (tgt := 136) (by decide) (fun h => absurd h (fun q => absurd (h_55.symm.trans q) (by decide))) (fun _ => ?_)
        refine lv_iload hM.1 hM.2.1 dX8_request_130 (lv_at hl 2 rfl) ?_
        refine lv_iconst (v := 5) hM.1 hM.2.1 dX8_request_132 (by decide) ?_
        refine lv_icmp_ne hM.1 hM.2.1 dX8_request_133 (tgt := 155) (by decide) (fun _ => ?_) (fun h => absurd h (fun q => absurd (h_55.symm.trans q) (by decide)))
        refine lv_iload hM.1 hM.2.1 dX8_request_155 (lv_at hl 2 rfl) ?_
        refine lv_iconst (v := 5) hM.1 hM.2.1 dX8_request_157 (by decide) ?_
        refine lv_icmp_ne hM.1 hM.2.1 dX8_request_158 (tgt := 180) (by decide) (fun _ => ?_) (fun h => absurd h (fun q => absurd (h_55.symm.trans q) (by decide)))
        refine lv_aload_n hM.1 hM.2.1 dX8_request_180 rfl (lv_at hl 6 rfl) ?_
        refine lv_iload_n hM.1 hM.2.1 dX8_request_181 rfl (lv_at hl 7 rfl) ?_
        refine z_Vv hM (hml.trans hl.1.symm) hW hS hlo zc8 hI.O.1 rfl zyX8_take lm_X8_185 li_yX8_take le_yX8_take (As := [.int (nI k)]) (rest := []) (c_X8_take hI.O hI.cn hI.cm hk (by first | exact hI.b | exact hI.b)) rfl rfl (Nat.le_of_ble_eq_true rfl) ⟨Nat.le_of_ble_eq_true rfl, Nat.le_of_ble_eq_true rfl⟩ ⟨Nat.le_of_ble_eq_true rfl, Nat.le_of_ble_eq_true rfl⟩ dX8_request_182 (fun H locs hW hS => ?_)
        obtain ⟨B10, hB10⟩ : ∃ B, B = (s_X8_take S (ix (gi S 8 0 44)) k) := ⟨_, rfl⟩
        rw [← hB10] at hW
        have ke_B10 : B10.2.2 = S.2.2 := by rw [hB10]; simp only [pif_22, oel_22, k_si, k_sj, pif_same, oel_same, k_X6_set, k_X6_put, k_X0_showTag, k_X4_repeat, k_X7_sendRequest, k_X7_sendRequests, k_X7_beginPhase, k_X7_endPhase, k_X7_again, k_X3_obey, k_X7_serve, k_X7_twice, k_X2_learn, k_X8_votes, k_X8_silent, k_X8_side, k_X8_put, k_X8_ask, k_X8_end, k_X8_finish, k_X8_halt, k_X8_take]
        have hcB : gi B10 8 0 44 = nI ((ix (gi S 8 0 44)) - 1) := by rw [hB10, mtk_gi hk]; simp
        refine lv_aload_n hM.1 hM.2.1 dX8_request_185 rfl (lv_at hl 6 rfl) ?_
        refine lv_iconst (v := 1) hM.1 hM.2.1 dX8_request_186 (by decide) ?_
        refine lv_iload_n hM.1 hM.2.1 dX8_request_187 rfl (lv_at hl 5 rfl) ?_
        refine lv_iload_n hM.1 hM.2.1 dX8_request_188 rfl (lv_at hl 4 rfl) ?_
        refine lv_iload hM.1 hM.2.1 dX8_request_189 (lv_at hl 3 rfl) ?_
        refine lv_iload hM.1 hM.2.1 dX8_request_191 (lv_at hl 2 rfl) ?_
        refine lv_iload hM.1 hM.2.1 dX8_request_193 (lv_at hl 1 rfl) ?_
        refine lv_aload_n hM.1 hM.2.1 dX8_request_195 rfl (lv_at hl 6 rfl) ?_
        refine z_getr hM hW zc8 hI.O.1 rfl 2 (by decide) lf_X8_13 (t := 9) (j := 102) rfl ((gr_of ke_B10).trans (hO.r 2 (by decide) (by decide))) dX8_request_196 (fun hd74_196 => ?_)
        refine lv_iload_n hM.1 hM.2.1 dX8_request_199 rfl (lv_at hl 5 rfl) ?_
        refine z_iald hM hW hd74_196 rfl (vin_L (hO.l 2 (by decide) (by decide)) (hI.msg hk).1) (v := gi B10 9 (102) (ix (gi S 9 (133) (k)))) rfl dX8_request_200 ?_
        refine lv_aload_n hM.1 hM.2.1 dX8_request_201 rfl (lv_at hl 6 rfl) ?_
        refine z_getr hM hW zc8 hI.O.1 rfl 3 (by decide) lf_X8_17 (t := 9) (j := 103) rfl ((gr_of ke_B10).trans (hO.r 3 (by decide) (by decide))) dX8_request_202 (fun hd75_202 => ?_)
        refine lv_iload_n hM.1 hM.2.1 dX8_request_205 rfl (lv_at hl 5 rfl) ?_
        refine z_iald hM hW hd75_202 rfl (vin_L (hO.l 3 (by decide) (by decide)) (hI.msg hk).1) (v := gi B10 9 (103) (ix (gi S 9 (133) (k)))) rfl dX8_request_206 ?_
        refine lv_aload_n hM.1 hM.2.1 dX8_request_207 rfl (lv_at hl 6 rfl) ?_
        refine z_getr hM hW zc8 hI.O.1 rfl 1 (by decide) lf_X8_7 (t := 10) (j := 101) rfl ((gr_of ke_B10).trans (hO.r 1 (by decide) (by decide))) dX8_request_208 (fun hd76_208 => ?_)
        refine lv_iload_n hM.1 hM.2.1 dX8_request_211 rfl (lv_at hl 5 rfl) ?_
        refine z_lald hM hW hd76_208 rfl (vin_L (hO.l 1 (by decide) (by decide)) (hI.msg hk).1) (v := gj B10 10 (101) (ix (gi S 9 (133) (k)))) rfl dX8_request_212 ?_
        refine lv_iconst (v := (-1)) hM.1 hM.2.1 dX8_request_213 (by decide) ?_
        refine lv_aload_n hM.1 hM.2.1 dX8_request_214 rfl (lv_at hl 6 rfl) ?_
        refine z_getr hM hW zc8 hI.O.1 rfl 4 (by decide) lf_X8_20 (t := 9) (j := 104) rfl ((gr_of ke_B10).trans (hO.r 4 (by decide) (by decide))) dX8_request_215 (fun hd77_215 => ?_)
        refine lv_iload_n hM.1 hM.2.1 dX8_request_218 rfl (lv_at hl 5 rfl) ?_
        refine z_iald hM hW hd77_215 rfl (vin_L (hO.l 4 (by decide) (by decide)) (hI.msg hk).1) (v := gi B10 9 (104) (ix (gi S 9 (133) (k)))) rfl dX8_request_219 ?_
        refine lv_aload_n hM.1 hM.2.1 dX8_request_220 rfl (lv_at hl 6 rfl) ?_
        refine z_getr hM hW zc8 hI.O.1 rfl 5 (by decide) lf_X8_23 (t := 9) (j := 105) rfl ((gr_of ke_B10).trans (hO.r 5 (by decide) (by decide))) dX8_request_221 (fun hd78_221 => ?_)
        refine lv_iload_n hM.1 hM.2.1 dX8_request_224 rfl (lv_at hl 5 rfl) ?_
        refine z_iald hM hW hd78_221 rfl (vin_L (hO.l 5 (by decide) (by decide)) (hI.msg hk).1) (v := gi B10 9 (105) (ix (gi S 9 (133) (k)))) rfl dX8_request_225 ?_
        refine z_Vv hM (hml.trans hl.1.symm) hW hS hlo zc8 hI.O.1 rfl zyX8_put lm_X8_146 li_yX8_put le_yX8_put (As := [.int (1), .int (gi S 9 (133) (k)), .int (gi S 9 (134) (k)), .int (gi S 9 (135) (k)), .int (gi S 9 (136) (k)), .int (gi S 9 (137) (k)), .int (gi B10 9 (102) (ix (gi S 9 (133) (k)))), .int (gi B10 9 (103) (ix (gi S 9 (133) (k)))), .long (gj B10 10 (101) (ix (gi S 9 (133) (k)))), .int ((-1)), .int (gi B10 9 (104) (ix (gi S 9 (133) (k)))), .int (gi B10 9 (105) (ix (gi S 9 (133) (k))))]) (rest := []) (c_X8_put (cn := (ix (gi S 8 0 44)) - 1) (hO.of ke_B10) hcB (by have := hI.cm; omega) isB_1) rfl rfl (Nat.le_of_ble_eq_true rfl) ⟨Nat.le_of_ble_eq_true rfl, Nat.le_of_ble_eq_true rfl⟩ ⟨Nat.le_of_ble_eq_true rfl, Nat.le_of_ble_eq_true rfl⟩ dX8_request_226 (fun H locs hW hS => ?_)
        exact z_vret hM hlk hr hW hS (zF.of rfl (by subst hB10; unfold s_X8_request; rw [pif_neg h_49, pif_pos h_55, pif_pos h_85]; first | done | rfl)) dX8_request_229
      ·
        refine lv_aload_n hM.1 hM.2.1 dX8_request_88 rfl (lv_at hl 6 rfl) ?_
        refine z_getr hM hW zc8 hI.O.1 rfl 2 (by decide) lf_X8_13 (t := 9) (j := 102) rfl (hO.r 2 (by decide) (by decide)) dX8_request_89 (fun hd79_89 => ?_)
        refine lv_iload_n hM.1 hM.2.1 dX8_request_92 rfl (lv_at hl 5 rfl) ?_
        refine lv_aload_n hM.1 hM.2.1 dX8_request_93 rfl (lv_at hl 6 rfl) ?_
        refine z_getr hM hW zc8 hI.O.1 rfl 38 (by decide) lf_X8_111 (t := 9) (j := 138) rfl (hO.r 38 (by decide) (by decide)) dX8_request_94 (fun hd80_94 => ?_)
        refine lv_iload_n hM.1 hM.2.1 dX8_request_97 rfl (lv_at hl 7 rfl) ?_
        refine z_iald hM hW hd80_94 rfl (vin_nI (hO.l 38 (by decide) (by decide)) (by have : mlen 38 = 300 := rfl; omega) (by decide)) (v := gi S 9 (138) (k)) ((congrArg (gi S 9 (138)) (nI_clamp (by omega))).trans rfl) dX8_request_98 ?_
        refine z_iast hM hW hS hd79_89 rfl (vin_L (hO.l 2 (by decide) (by decide)) (hI.msg hk).1) dX8_request_99 (fun H locs hW hS => ?_)
        refine lv_aload_n hM.1 hM.2.1 dX8_request_100 rfl (lv_at hl 6 rfl) ?_
        refine z_getr hM hW zc8 hI.O.1 rfl 3 (by decide) lf_X8_17 (t := 9) (j := 103) rfl (hO.r 3 (by decide) (by decide)) dX8_request_101 (fun hd81_101 => ?_)
        refine lv_iload_n hM.1 hM.2.1 dX8_request_104 rfl (lv_at hl 5 rfl) ?_
        refine lv_aload_n hM.1 hM.2.1 dX8_request_105 rfl (lv_at hl 6 rfl) ?_
        refine z_getr hM hW zc8 hI.O.1 rfl 39 (by decide) lf_X8_114 (t := 9) (j := 139) rfl (hO.r 39 (by decide) (by decide)) dX8_request_106 (fun hd82_106 => ?_)
        refine lv_iload_n hM.1 hM.2.1 dX8_request_109 rfl (lv_at hl 7 rfl) ?_
        refine z_iald hM hW hd82_106 rfl (vin_nI (hO.l 39 (by decide) (by decide)) (by have : mlen 39 = 300 := rfl; omega) (by decide)) (v := gi S 9 (139) (k)) ((congrArg (gi (si S 9 (102) (ix (gi S 9 (133) (k))) (gi S 9 (138) (k))) 9 (139)) (nI_clamp (by omega))).trans rfl) dX8_request_110 ?_
        refine z_iast hM hW hS hd81_101 rfl (vin_L (hO.l 3 (by decide) (by decide)) (hI.msg hk).1) dX8_request_111 (fun H locs hW hS => ?_)
        refine lv_aload_n hM.1 hM.2.1 dX8_request_112 rfl (lv_at hl 6 rfl) ?_
        refine z_getr hM hW zc8 hI.O.1 rfl 1 (by decide) lf_X8_7 (t := 10) (j := 101) rfl (hO.r 1 (by decide) (by decide)) dX8_request_113 (fun hd83_113 => ?_)
        refine lv_iload_n hM.1 hM.2.1 dX8_request_116 rfl (lv_at hl 5 rfl) ?_
        refine lv_aload_n hM.1 hM.2.1 dX8_request_117 rfl (lv_at hl 6 rfl) ?_
        refine z_getr hM hW zc8 hI.O.1 rfl 43 (by decide) lf_X8_126 (t := 10) (j := 143) rfl (hO.r 43 (by decide) (by decide)) dX8_request_118 (fun hd84_118 => ?_)
        refine lv_iload_n hM.1 hM.2.1 dX8_request_121 rfl (lv_at hl 7 rfl) ?_
        refine z_lald hM hW hd84_118 rfl (vin_nI (hO.l 43 (by decide) (by decide)) (by have : mlen 43 = 300 := rfl; omega) (by decide)) (v := gj S 10 (143) (k)) ((congrArg (gj (si (si S 9 (102) (ix (gi S 9 (133) (k))) (gi S 9 (138) (k))) 9 (103) (ix (gi S 9 (133) (k))) (gi S 9 (139) (k))) 10 (143)) (nI_clamp (by omega))).trans rfl) dX8_request_122 ?_
        refine z_last hM hW hS hd83_113 rfl (vin_L (hO.l 1 (by decide) (by decide)) (hI.msg hk).1) dX8_request_123 (fun H locs hW hS => ?_)
        refine lv_iload hM.1 hM.2.1 dX8_request_124 (lv_at hl 2 rfl) ?_
        refine lv_iconst (v := 3) hM.1 hM.2.1 dX8_request_126 (by decide) ?_
        refine lv_icmp_eq hM.1 hM.2.1 dX8_request_127 (tgt := 136) (by decide) (fun h => absurd h (fun q => absurd (h_55.symm.trans q) (by decide))) (fun _ => ?_)
        refine lv_iload hM.1 hM.2.1 dX8_request_130 (lv_at hl 2 rfl) ?_
        refine lv_iconst (v := 5) hM.1 hM.2.1 dX8_request_132 (by decide) ?_
        refine lv_icmp_ne hM.1 hM.2.1 dX8_request_133 (tgt := 155) (by decide) (fun _ => ?_) (fun h => absurd h (fun q => absurd (h_55.symm.trans q) (by decide)))
        refine lv_iload hM.1 hM.2.1 dX8_request_155 (lv_at hl 2 rfl) ?_
        refine lv_iconst (v := 5) hM.1 hM.2.1 dX8_request_157 (by decide) ?_
        refine lv_icmp_ne hM.1 hM.2.1 dX8_request_158 (tgt := 180) (by decide) (fun _ => ?_) (fun h => absurd h (fun q => absurd (h_55.symm.trans q) (by decide)))
        refine lv_aload_n hM.1 hM.2.1 dX8_request_180 rfl (lv_at hl 6 rfl) ?_
        refine lv_iload_n hM.1 hM.2.1 dX8_request_181 rfl (lv_at hl 7 rfl) ?_
        refine z_Vv hM (hml.trans hl.1.symm) hW hS hlo zc8 hI.O.1 rfl zyX8_take lm_X8_185 li_yX8_take le_yX8_take (As := [.int (nI k)]) (rest := []) (c_X8_take hI.O hI.cn hI.cm hk (by first | exact hI.b | exact hI.b)) rfl rfl (Nat.le_of_ble_eq_true rfl) ⟨Nat.le_of_ble_eq_true rfl, Nat.le_of_ble_eq_true rfl⟩ ⟨Nat.le_of_ble_eq_true rfl, Nat.le_of_ble_eq_true rfl⟩ dX8_request_182 (fun H locs hW hS => ?_)
        obtain ⟨B11, hB11⟩ : ∃ B, B = (s_X8_take (sj (si (si S 9 (102) (ix (gi S 9 (133) (k))) (gi S 9 (138) (k))) 9 (103) (ix (gi S 9 (133) (k))) (gi S 9 (139) (k))) 10 (101) (ix (gi S 9 (133) (k))) (gj S 10 (143) (k))) (ix (gi S 8 0 44)) k) := ⟨_, rfl⟩
        rw [← hB11] at hW
        have ke_B11 : B11.2.2 = S.2.2 := by rw [hB11]; simp only [pif_22, oel_22, k_si, k_sj, pif_same, oel_same, k_X6_set, k_X6_put, k_X0_showTag, k_X4_repeat, k_X7_sendRequest, k_X7_sendRequests, k_X7_beginPhase, k_X7_endPhase, k_X7_again, k_X3_obey, k_X7_serve, k_X7_twice, k_X2_learn, k_X8_votes, k_X8_silent, k_X8_side, k_X8_put, k_X8_ask, k_X8_end, k_X8_finish, k_X8_halt, k_X8_take]
        have hcB : gi B11 8 0 44 = nI ((ix (gi S 8 0 44)) - 1) := by rw [hB11, mtk_gi hk]; simp
        refine lv_aload_n hM.1 hM.2.1 dX8_request_185 rfl (lv_at hl 6 rfl) ?_
        refine lv_iconst (v := 1) hM.1 hM.2.1 dX8_request_186 (by decide) ?_
        refine lv_iload_n hM.1 hM.2.1 dX8_request_187 rfl (lv_at hl 5 rfl) ?_
        refine lv_iload_n hM.1 hM.2.1 dX8_request_188 rfl (lv_at hl 4 rfl) ?_
        refine lv_iload hM.1 hM.2.1 dX8_request_189 (lv_at hl 3 rfl) ?_
        refine lv_iload hM.1 hM.2.1 dX8_request_191 (lv_at hl 2 rfl) ?_
        refine lv_iload hM.1 hM.2.1 dX8_request_193 (lv_at hl 1 rfl) ?_
        refine lv_aload_n hM.1 hM.2.1 dX8_request_195 rfl (lv_at hl 6 rfl) ?_
        refine z_getr hM hW zc8 hI.O.1 rfl 2 (by decide) lf_X8_13 (t := 9) (j := 102) rfl ((gr_of ke_B11).trans (hO.r 2 (by decide) (by decide))) dX8_request_196 (fun hd85_196 => ?_)
        refine lv_iload_n hM.1 hM.2.1 dX8_request_199 rfl (lv_at hl 5 rfl) ?_
        refine z_iald hM hW hd85_196 rfl (vin_L (hO.l 2 (by decide) (by decide)) (hI.msg hk).1) (v := gi B11 9 (102) (ix (gi S 9 (133) (k)))) rfl dX8_request_200 ?_
        refine lv_aload_n hM.1 hM.2.1 dX8_request_201 rfl (lv_at hl 6 rfl) ?_
        refine z_getr hM hW zc8 hI.O.1 rfl 3 (by decide) lf_X8_17 (t := 9) (j := 103) rfl ((gr_of ke_B11).trans (hO.r 3 (by decide) (by decide))) dX8_request_202 (fun hd86_202 => ?_)
        refine lv_iload_n hM.1 hM.2.1 dX8_request_205 rfl (lv_at hl 5 rfl) ?_
        refine z_iald hM hW hd86_202 rfl (vin_L (hO.l 3 (by decide) (by decide)) (hI.msg hk).1) (v := gi B11 9 (103) (ix (gi S 9 (133) (k)))) rfl dX8_request_206 ?_
        refine lv_aload_n hM.1 hM.2.1 dX8_request_207 rfl (lv_at hl 6 rfl) ?_
        refine z_getr hM hW zc8 hI.O.1 rfl 1 (by decide) lf_X8_7 (t := 10) (j := 101) rfl ((gr_of ke_B11).trans (hO.r 1 (by decide) (by decide))) dX8_request_208 (fun hd87_208 => ?_)
        refine lv_iload_n hM.1 hM.2.1 dX8_request_211 rfl (lv_at hl 5 rfl) ?_
        refine z_lald hM hW hd87_208 rfl (vin_L (hO.l 1 (by decide) (by decide)) (hI.msg hk).1) (v := gj B11 10 (101) (ix (gi S 9 (133) (k)))) rfl dX8_request_212 ?_
        refine lv_iconst (v := (-1)) hM.1 hM.2.1 dX8_request_213 (by decide) ?_
        refine lv_aload_n hM.1 hM.2.1 dX8_request_214 rfl (lv_at hl 6 rfl) ?_
        refine z_getr hM hW zc8 hI.O.1 rfl 4 (by decide) lf_X8_20 (t := 9) (j := 104) rfl ((gr_of ke_B11).trans (hO.r 4 (by decide) (by decide))) dX8_request_215 (fun hd88_215 => ?_)
        refine lv_iload_n hM.1 hM.2.1 dX8_request_218 rfl (lv_at hl 5 rfl) ?_
        refine z_iald hM hW hd88_215 rfl (vin_L (hO.l 4 (by decide) (by decide)) (hI.msg hk).1) (v := gi B11 9 (104) (ix (gi S 9 (133) (k)))) rfl dX8_request_219 ?_
        refine lv_aload_n hM.1 hM.2.1 dX8_request_220 rfl (lv_at hl 6 rfl) ?_
        refine z_getr hM hW zc8 hI.O.1 rfl 5 (by decide) lf_X8_23 (t := 9) (j := 105) rfl ((gr_of ke_B11).trans (hO.r 5 (by decide) (by decide))) dX8_request_221 (fun hd89_221 => ?_)
        refine lv_iload_n hM.1 hM.2.1 dX8_request_224 rfl (lv_at hl 5 rfl) ?_
        refine z_iald hM hW hd89_221 rfl (vin_L (hO.l 5 (by decide) (by decide)) (hI.msg hk).1) (v := gi B11 9 (105) (ix (gi S 9 (133) (k)))) rfl dX8_request_225 ?_
        refine z_Vv hM (hml.trans hl.1.symm) hW hS hlo zc8 hI.O.1 rfl zyX8_put lm_X8_146 li_yX8_put le_yX8_put (As := [.int (1), .int (gi S 9 (133) (k)), .int (gi S 9 (134) (k)), .int (gi S 9 (135) (k)), .int (gi S 9 (136) (k)), .int (gi S 9 (137) (k)), .int (gi B11 9 (102) (ix (gi S 9 (133) (k)))), .int (gi B11 9 (103) (ix (gi S 9 (133) (k)))), .long (gj B11 10 (101) (ix (gi S 9 (133) (k)))), .int ((-1)), .int (gi B11 9 (104) (ix (gi S 9 (133) (k)))), .int (gi B11 9 (105) (ix (gi S 9 (133) (k))))]) (rest := []) (c_X8_put (cn := (ix (gi S 8 0 44)) - 1) (hO.of ke_B11) hcB (by have := hI.cm; omega) isB_1) rfl rfl (Nat.le_of_ble_eq_true rfl) ⟨Nat.le_of_ble_eq_true rfl, Nat.le_of_ble_eq_true rfl⟩ ⟨Nat.le_of_ble_eq_true rfl, Nat.le_of_ble_eq_true rfl⟩ dX8_request_226 (fun H locs hW hS => ?_)
        exact z_vret hM hlk hr hW hS (zF.of rfl (by subst hB11; unfold s_X8_request; rw [pif_neg h_49, pif_pos h_55, pif_neg h_85]; first | done | rfl)) dX8_request_229
