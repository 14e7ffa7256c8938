-- the field of both sides: turning, going off, coming on
theorem sh_v {b : Sg_} {s : Int} : ∀ (n : Nat) (J : Int), shR_ b s n 471 J = if 6 * s ≤ J ∧ J < 6 * s + (n : Int) then b 471 (J + 1) else b 471 J := sorry
theorem sh_k {b : Sg_} {s : Int} {k : Nat} (h : k ≠ 471) (J : Int) : ∀ (n : Nat), shR_ b s n k J = b k J := sorry
theorem wbp_e {n : Int} {r : Int → Int} {a a' : Sg_} (h : WBP_ n r a) (e : ∀ (K : Nat) (J : Int), K ≠ 470 → K ≠ 471 → K ≠ 472 → a' K J = a K J) : WBP_ n r a' := sorry
/-- a's cells but 470, 471, 472, and b's but 470, 471, 472, 474, stay: what is left to show -/
theorem eqp_e {m : Int} {b a b' a' : Sg_} (h : EQP_ m b a) (eb : ∀ (K : Nat) (J : Int), K ≠ 470 → K ≠ 471 → K ≠ 472 → K ≠ 474 → b' K J = b K J) (ea : ∀ (K : Nat) (J : Int), K ≠ 470 → K ≠ 471 → K ≠ 472 → a' K J = a K J)
    (g0 : b' 470 0 = a' 470 0 ∧ b' 470 1 = a' 470 1) (g1 : ∀ s x, 0 ≤ s → s ≤ 1 → s * 6 ≤ x → x < s * 6 + a' 470 s → b' 471 x = 20 * m + a' 471 x)
    (g2 : ∀ s x, 0 ≤ s → s ≤ 1 → s * 10 ≤ x → x < s * 10 + a 449 s → (a' 472 x = 3 ∧ b' 472 x = 2 ∧ b' 474 x = 1) ∨ (a' 472 x ≠ 3 ∧ b' 472 x = a' 472 x ∧ b' 474 x = 0)) : EQP_ m b' a' := sorry
/-- the turned field -/
theorem rt_v {a : Sg_} {s x : Int} : rt9_ a s 471 x = (if x = s * 6 + a 470 s - 1 then a 471 (s * 6) else if s * 6 ≤ x ∧ x < s * 6 + a 470 s - 1 then a 471 (x + 1) else a 471 x) := sorry
theorem rt_w {b : Sg_} {s x : Int} (h : 1 ≤ b 470 s) : rtR_ b s 471 x = (if x = s * 6 + b 470 s - 1 then b 471 (s * 6) else if s * 6 ≤ x ∧ x < s * 6 + b 470 s - 1 then b 471 (x + 1) else b 471 x) := sorry
theorem rt_k {a : Sg_} {s : Int} {K : Nat} (h : K ≠ 471) (J : Int) : rt9_ a s K J = a K J := sorry
theorem rt_j {b : Sg_} {s : Int} {K : Nat} (h : K ≠ 471) (J : Int) : rtR_ b s K J = b K J := sorry
theorem si_rt {m n : Int} {r : Int → Int} {b a : Sg_} {s : Int} (h : SI_ m n r b a) (h0 : 0 ≤ s) (h1 : s ≤ 1) (hf : 1 ≤ a 470 s) : SI_ m n r (rtR_ b s) (rt9_ a s) := sorry
/-- those that stay close up: one goes -/
theorem cp_v {c : Sg_} {s x k N : Int} (k0 : 0 ≤ k) (u1 : c 471 (6 * s + k) = x) (u2 : ∀ i, 0 ≤ i → i < N → c 471 (6 * s + i) = x → i = k) : ∀ n : Nat, (n : Int) ≤ N → ((n : Int) ≤ k ∧ cpR_ c s x n = (c, (n : Int))) ∨ (k < (n : Int) ∧ (cpR_ c s x n).2 = (n : Int) - 1 ∧ (∀ (K : Nat) (J : Int), K ≠ 471 → (cpR_ c s x n).1 K J = c K J) ∧ ∀ J, (cpR_ c s x n).1 471 J = if 6 * s + k ≤ J ∧ J < 6 * s + (n : Int) - 1 then c 471 (J + 1) else c 471 J) := sorry
/-- one is sent off: the field, the roles -/
theorem si_of {m n : Int} {r : Int → Int} {b a : Sg_} {s k : Int} (h : SI_ m n r b a) (h0 : 0 ≤ s) (h1 : s ≤ 1) (k0 : 0 ≤ k) (k1 : k < a 470 s) :
    (cpR_ (u2_ (u2_ b 474 (a 471 (s * 6 + k)) 1) 472 (a 471 (s * 6 + k)) 2) s (20 * m + a 471 (s * 6 + k)) (b 470 s).toNat).2 = a 470 s - 1 ∧
    SI_ m n r (u2_ (cpR_ (u2_ (u2_ b 474 (a 471 (s * 6 + k)) 1) 472 (a 471 (s * 6 + k)) 2) s (20 * m + a 471 (s * 6 + k)) (b 470 s).toNat).1 470 s (cpR_ (u2_ (u2_ b 474 (a 471 (s * 6 + k)) 1) 472 (a 471 (s * 6 + k)) 2) s (20 * m + a 471 (s * 6 + k)) (b 470 s).toNat).2) (u2_ (cg9_ (u2_ a 472 (a 471 (s * 6 + k)) 3) s k) 470 s (a 470 s - 1)) := sorry
/-- sent off -/
theorem si_so {m n : Int} {r : Int → Int} {b a : Sg_} {s k : Int} (h : SI_ m n r b a) (q : RB9_ r) (h0 : 0 ≤ s) (h1 : s ≤ 1) (k0 : 0 ≤ k) (k1 : k < a 470 s) (g : n + 1 ≤ 1000000) : SI_ m (n + 1) r (soR_ r b m s (20 * m + a 471 (s * 6 + k))) (so9_ r a s k) := sorry
/-- a yellow card is written -/
theorem si_y {m n : Int} {r : Int → Int} {b a : Sg_} {s x v : Int} (h : SI_ m n r b a) (h0 : 0 ≤ s) (h1 : s ≤ 1) (x0 : s * 10 ≤ x) (x1 : x < s * 10 + a 449 s) (hv : 0 ≤ v ∧ v ≤ 8 * n + 20) : SI_ m n r (u2_ b 473 x v) (u2_ a 473 x v) := sorry
theorem mp_v {b : Sg_} {s x y : Int} : ∀ (n : Nat) (J : Int), mpR_ b s x y n 471 J = cz_ (6 * s ≤ J ∧ J < 6 * s + (n : Int) ∧ b 471 J = x) y (b 471 J) := sorry
theorem mp_k {b : Sg_} {s x y : Int} {K : Nat} (h : K ≠ 471) (J : Int) : ∀ (n : Nat), mpR_ b s x y n K J = b K J := sorry
/-- one comes for another -/
theorem si_on {m n : Int} {r : Int → Int} {b a : Sg_} {s k y : Int} (h : SI_ m n r b a) (h0 : 0 ≤ s) (h1 : s ≤ 1) (k0 : 0 ≤ k) (k1 : k < a 470 s) (y0 : s * 10 ≤ y) (y1 : y < s * 10 + a 449 s) (y2 : a 472 y = 0) :
    SI_ m n r (u2_ (u2_ (mpR_ b s (20 * m + a 471 (s * 6 + k)) (20 * m + y) (b 470 s).toNat) 472 (a 471 (s * 6 + k)) 2) 472 y 1) (u2_ (u2_ (u2_ a 472 (a 471 (s * 6 + k)) 2) 472 y 1) 471 (s * 6 + k) y) := sorry
/-- what the laws have asked -/
theorem lw_0 {r : Int → Int} {a : Sg_} {k s q o : Int} (h : lw9_ r a k s q o = 0) : a 103 3 = 0 ∧ ((k = 0 ∨ (0 ≤ s ∧ s ≤ 1)) ∧ ((r 0 = 0 ∧ 0 ≤ k ∧ k ≤ 5) ∨ (r 0 = 1 ∧ (k = 1 ∨ k = 5)) ∨ (r 0 = 2 ∧ (k = 1 ∨ k = 6)) ∨ (¬ r 0 = 0 ∧ ¬ r 0 = 1 ∧ ¬ r 0 = 2 ∧ 1 ≤ k ∧ k ≤ 4))) ∧ ((r 0 = 0 ∧ (a 103 4 ≠ 1 ∨ (k ≠ 1 ∧ k ≠ 2))) ∨ (r 0 ≠ 0 ∧ (r 0 ≠ 3 ∨ s = a 103 5))) ∧ ((k = 5 ∨ (r 0 = 0 ∧ k ≠ 0)) → fp9_ a s q ≠ -1) ∧ (k = 5 → bq9_ a s o ≠ -1 ∧ a 469 s < r 10) ∧ (r 0 ≠ 3 ∨ k ≠ 1 ∨ (1 ≤ o ∧ o ≤ 4)) := sorry
/-- a change of men -/
theorem si_su {m n : Int} {r : Int → Int} {b a : Sg_} {s q o : Int} (h : SI_ m n r b a) (h0 : 0 ≤ s) (h1 : s ≤ 1) (hp : fp9_ a s q ≠ -1) (hb : bq9_ a s o ≠ -1) (hc : a 469 s < r 10) (g : n + 1 ≤ 1000000) : SI_ m (n + 1) r (suR_ b m s q o) (su9_ r a s q o) := sorry
/-- football -/
theorem si_pf {m n : Int} {r : Int → Int} {b a : Sg_} {k s q o : Int} (h : SI_ m n r b a) (w : RB9_ r) (hk : 0 ≤ k ∧ k ≤ 4) (hs : k = 0 ∨ (0 ≤ s ∧ s ≤ 1)) (hp : k ≠ 0 → fp9_ a s q ≠ -1) (g : n + 2 ≤ 1000000) : SI_ m (n + 2) r (pfR_ r b m k s q o) (pf9_ r a k s q) := sorry
/-- an event, whole -/
theorem si_ca {m n : Int} {r : Int → Int} {b a : Sg_} {k s q o : Int} (h : SI_ m n r b a) (w : RB9_ r) (hl : lw9_ r a k s q o = 0) (hf : ∀ t, 0 ≤ t → t ≤ 1 → 1 ≤ a 470 t) (g : n + 3 ≤ 1000000) : SI_ m (n + 3) r (plR_ r b m k s q o) (ca9_ r a k s q o) := sorry
/-- the beginning of both -/
theorem bb_2 {r : Int → Int} {a : Sg_} : bb9_ r a = bl9_ (u2_ (bl9_ (u2_ (bi9_ a (cz_ (r 0 = 3) 1 0)) 470 0 (r 9)) 0 (r 9)) 470 1 (r 9)) 1 (r 9) := sorry
theorem bl_f {b : Sg_} {s k J : Int} (h : s * 6 ≤ J ∧ J < s * 6 + k) : bl9_ b s k 471 J = s * 10 + (J - s * 6) := sorry
theorem bl_r {b : Sg_} {s k J : Int} (h : s * 10 ≤ J ∧ J < s * 10 + k) : bl9_ b s k 472 J = 1 := sorry
theorem bl_g {b : Sg_} {s k J : Int} (h : ¬ (s * 6 ≤ J ∧ J < s * 6 + k)) : bl9_ b s k 471 J = b 471 J := sorry
theorem bl_q {b : Sg_} {s k J : Int} (h : ¬ (s * 10 ≤ J ∧ J < s * 10 + k)) : bl9_ b s k 472 J = b 472 J := sorry
theorem bl_k {b : Sg_} {s k : Int} {K : Nat} (h : K ≠ 471) (h2 : K ≠ 472) (J : Int) : bl9_ b s k K J = b K J := sorry
theorem si_bb {m : Int} {r : Int → Int} {b a : Sg_} (w : RB9_ r) (g49 : ∀ t, 0 ≤ t → t ≤ 1 → r 9 ≤ a 449 t ∧ a 449 t ≤ 10) (w5 : ∀ s x y, 0 ≤ s → s ≤ 1 → s * 10 ≤ x → x < s * 10 + a 449 s → s * 10 ≤ y → y < s * 10 + a 449 s → a 448 x = a 448 y → x = y)
    (f49 : ∀ t, 0 ≤ t → t ≤ 1 → b 449 t = a 449 t) (f48 : ∀ t x, 0 ≤ t → t ≤ 1 → t * 10 ≤ x → x < t * 10 + a 449 t → b 448 x = a 448 x) (f70 : ∀ t, 0 ≤ t → t ≤ 1 → b 470 t = r 9)
    (f72 : ∀ t x, 0 ≤ t → t ≤ 1 → t * 10 ≤ x → x < t * 10 + a 449 t → (x < t * 10 + r 9 → b 472 x = 1) ∧ (t * 10 + r 9 ≤ x → b 472 x = 0) ∧ b 473 x = 0 ∧ b 474 x = 0)
    (f71 : ∀ t x, 0 ≤ t → t ≤ 1 → t * 6 ≤ x → x < t * 6 + r 9 → b 471 x = 20 * m + t * 10 + (x - t * 6))
    (fz : b 466 0 = 0 ∧ b 466 1 = 0 ∧ b 467 0 = 0 ∧ b 467 1 = 0 ∧ b 468 0 = 0 ∧ b 468 1 = 0 ∧ b 469 0 = 0 ∧ b 469 1 = 0) (f4 : b 103 4 = 0) (f5 : b 103 5 = cz_ (r 0 = 3) 1 0) (f3 : b 103 3 = 1) : SI_ m 0 r b (bb9_ r a) := sorry
