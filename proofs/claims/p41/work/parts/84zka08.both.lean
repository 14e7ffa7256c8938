-- the play of both sides alike: pure words
/-- the cells of the reference's match and of the house's play tell the same -/
def EQP_ (m : Int) (b a : Sg_) : Prop :=
  (b 449 0 = a 449 0 ∧ b 449 1 = a 449 1 ∧ b 470 0 = a 470 0 ∧ b 470 1 = a 470 1) ∧
  (b 466 0 = a 466 0 ∧ b 466 1 = a 466 1 ∧ b 467 0 = a 467 0 ∧ b 467 1 = a 467 1 ∧ b 468 0 = a 468 0 ∧ b 468 1 = a 468 1 ∧ b 469 0 = a 469 0 ∧ b 469 1 = a 469 1) ∧
  (b 103 4 = a 103 4 ∧ b 103 5 = a 103 5 ∧ ((a 103 3 = 0 ∧ b 103 3 = 1) ∨ (a 103 3 = 1 ∧ b 103 3 = 2))) ∧
  (∀ s x, 0 ≤ s → s ≤ 1 → s * 6 ≤ x → x < s * 6 + a 470 s → b 471 x = 20 * m + a 471 x) ∧
  (∀ s x, 0 ≤ s → s ≤ 1 → s * 10 ≤ x → x < s * 10 + a 449 s → b 448 x = a 448 x ∧ b 473 x = a 473 x ∧ ((a 472 x = 3 ∧ b 472 x = 2 ∧ b 474 x = 1) ∨ (a 472 x ≠ 3 ∧ b 472 x = a 472 x ∧ b 474 x = 0)))
/-- who stands on the field, in its order -/
def WS_ (a : Sg_) : Prop :=
  (∀ s, 0 ≤ s → s ≤ 1 → 0 ≤ a 449 s ∧ a 449 s ≤ 10 ∧ 0 ≤ a 470 s ∧ a 470 s ≤ 6) ∧
  (∀ s x, 0 ≤ s → s ≤ 1 → s * 6 ≤ x → x < s * 6 + a 470 s → s * 10 ≤ a 471 x ∧ a 471 x < s * 10 + a 449 s ∧ a 472 (a 471 x) = 1) ∧
  (∀ s x, 0 ≤ s → s ≤ 1 → s * 10 ≤ x → x < s * 10 + a 449 s → a 472 x = 1 → ∃ k, s * 6 ≤ k ∧ k < s * 6 + a 470 s ∧ a 471 k = x) ∧
  (∀ s x y, 0 ≤ s → s ≤ 1 → s * 6 ≤ x → x < s * 6 + a 470 s → s * 6 ≤ y → y < s * 6 + a 470 s → a 471 x = a 471 y → x = y) ∧
  (∀ s x y, 0 ≤ s → s ≤ 1 → s * 10 ≤ x → x < s * 10 + a 449 s → s * 10 ≤ y → y < s * 10 + a 449 s → a 448 x = a 448 y → x = y)
theorem eq_j {m : Int} {b a : Sg_} (h : EQP_ m b a) {s : Int} (h0 : 0 ≤ s) (h1 : s ≤ 1) : b 449 s = a 449 s ∧ b 470 s = a 470 s ∧ b 466 s = a 466 s ∧ b 467 s = a 467 s ∧ b 468 s = a 468 s ∧ b 469 s = a 469 s := sorry
/-- the place on the sheet, where the names differ -/
theorem sl_u {b : Sg_} {s q x : Int} : ∀ (n : Nat), s * 10 ≤ x → x < s * 10 + (n : Int) → b 448 x = q → (∀ y, s * 10 ≤ y → y < s * 10 + (n : Int) → b 448 y = q → y = x) → sln_ b s q n = x := sorry
theorem fp_n {a : Sg_} {s q : Int} : ∀ (n : Nat) (i : Int), fpn_ a s q n i = -1 → 0 ≤ i → ∀ k, i ≤ k → k < i + (n : Int) → a 448 (a 471 (s * 6 + k)) ≠ q := sorry
theorem bp_n {a : Sg_} {s q : Int} : ∀ (n : Nat) (i : Int), bpn_ a s q n i = -1 → 0 ≤ i → 0 ≤ s → ∀ k, i ≤ k → k < i + (n : Int) → ¬ (a 448 (s * 10 + k) = q ∧ a 472 (s * 10 + k) = 0) := sorry
/-- who stands on the field -/
theorem k_f {m : Int} {b a : Sg_} (h : EQP_ m b a) (w : WS_ a) {s q : Int} (h0 : 0 ≤ s) (h1 : s ≤ 1) : (fp9_ a s q = -1 ∧ ¬ (slR_ b s q ≠ -1 ∧ b 472 (slR_ b s q) = 1)) ∨ (0 ≤ fp9_ a s q ∧ fp9_ a s q < a 470 s ∧ slR_ b s q = a 471 (s * 6 + fp9_ a s q) ∧ b 472 (slR_ b s q) = 1) := sorry
/-- who sits on the bench -/
theorem k_b {m : Int} {b a : Sg_} (h : EQP_ m b a) (w : WS_ a) {s q : Int} (h0 : 0 ≤ s) (h1 : s ≤ 1) : (bq9_ a s q = -1 ∧ ¬ (slR_ b s q ≠ -1 ∧ b 472 (slR_ b s q) = 0)) ∨ (s * 10 ≤ bq9_ a s q ∧ bq9_ a s q < s * 10 + a 449 s ∧ slR_ b s q = bq9_ a s q ∧ b 472 (slR_ b s q) = 0 ∧ a 472 (bq9_ a s q) = 0) := sorry
theorem wr_9 {x : Int} (h : -2147483648 ≤ x ∧ x ≤ 2147483647) : wr_ x = x := sorry
theorem u2_e {b a : Sg_} {k K : Nat} {j J v : Int} (h : b K J = a K J) : u2_ b k j v K J = u2_ a k j v K J := sorry
theorem u2_m {a : Sg_} {k : Nat} {j v : Int} (h : a k j = v) : u2_ a k j v = a := sorry
theorem eq_u {m : Int} {b a : Sg_} (h : EQP_ m b a) {k : Nat} {j v : Int} (c : (k = 466 ∨ k = 467 ∨ k = 468 ∨ k = 469) ∨ (k = 103 ∧ (j = 4 ∨ j = 5))) : EQP_ m (u2_ b k j v) (u2_ a k j v) := sorry
theorem eq_w {m : Int} {b a : Sg_} (h : EQP_ m b a) {v w : Int} (c : (v = 0 ∧ w = 1) ∨ (v = 1 ∧ w = 2)) : EQP_ m (u2_ b 103 3 w) (u2_ a 103 3 v) := sorry
theorem fy2_2 {a : Sg_} {k : Nat} : fy2_ a k 2 0 = u2_ (u2_ a k 0 0) k 1 0 := sorry
theorem eq_z {m : Int} {b a : Sg_} (h : EQP_ m b a) {k : Nat} (c : k = 466 ∨ k = 467) : EQP_ m (u2_ (u2_ b k 0 0) k 1 0) (fy2_ a k 2 0) := sorry
theorem eq_ad {m : Int} {b a : Sg_} {s v w : Int} (h : EQP_ m b a) (h0 : 0 ≤ s) (h1 : s ≤ 1) (g0 : -2147483648 ≤ a 468 0 ∧ a 468 0 ≤ 2147483647) (g1 : -2147483648 ≤ a 468 1 ∧ a 468 1 ≤ 2147483647) (e : w = wr_ (a 468 s + v)) : EQP_ m (adR_ b s v) (u2_ a 468 s w) := sorry
/-- who stands where doesn't hang on plain cells -/
theorem ws_k {a : Sg_} (h : WS_ a) {k : Nat} {j v : Int} (c : k ≠ 448 ∧ k ≠ 449 ∧ k ≠ 470 ∧ k ≠ 471 ∧ k ≠ 472) : WS_ (u2_ a k j v) := sorry
theorem ws_z {a : Sg_} (h : WS_ a) {k : Nat} (c : k = 466 ∨ k = 467) : WS_ (fy2_ a k 2 0) := sorry
/-- bounds of the plain cells -/
def WBP_ (n : Int) (r : Int → Int) (a : Sg_) : Prop :=
  (0 ≤ n ∧ n ≤ 1000000) ∧ (∀ (k : Nat) (j : Int), k = 466 ∨ k = 467 ∨ k = 468 ∨ k = 469 → 0 ≤ j → j ≤ 1 → 0 ≤ a k j ∧ a k j ≤ 8 * n + 20) ∧
  (0 ≤ a 103 4 ∧ a 103 4 ≤ 8 * n + 20) ∧ (0 ≤ a 103 5 ∧ a 103 5 ≤ 1) ∧
  (∀ s x, 0 ≤ s → s ≤ 1 → s * 10 ≤ x → x < s * 10 + a 449 s → 0 ≤ a 473 x ∧ a 473 x ≤ 8 * n + 20) ∧
  (r 0 = 3 → a 467 1 ≤ 7) ∧ (r 0 = 2 → ∀ j, 0 ≤ j → j ≤ 1 → a 467 j ≤ r 11) ∧ (∀ j, 0 ≤ j → j ≤ 1 → a 469 j ≤ r 10)
/-- bounds of the rules -/
def RB9_ (r : Int → Int) : Prop := (0 ≤ r 0 ∧ r 0 ≤ 3) ∧ (1 ≤ r 9 ∧ r 9 ≤ 6) ∧ (0 ≤ r 10 ∧ r 10 ≤ 5) ∧ (2 ≤ r 11 ∧ r 11 ≤ 25) ∧ (1 ≤ r 12 ∧ r 12 ≤ 9)
theorem wbp_m {n n' : Int} {r : Int → Int} {a : Sg_} (h : WBP_ n r a) (e : n ≤ n') (g : n' ≤ 1000000) : WBP_ n' r a := sorry
theorem wbp_u {n : Int} {r : Int → Int} {a : Sg_} (h : WBP_ n r a) {k : Nat} {j v : Int} (c : (k = 466 ∨ k = 467 ∨ k = 468 ∨ k = 469) ∨ (k = 103 ∧ (j = 4 ∨ j = 5))) (hv : 0 ≤ v ∧ v ≤ 8 * n + 20) (g5 : k = 103 → j = 5 → v ≤ 1) (g7 : k = 467 → (r 0 = 3 → j = 1 → v ≤ 7) ∧ (r 0 = 2 → v ≤ r 11)) (g9 : k = 469 → v ≤ r 10) : WBP_ n r (u2_ a k j v) := sorry
theorem wbp_w {n : Int} {r : Int → Int} {a : Sg_} (h : WBP_ n r a) {v : Int} : WBP_ n r (u2_ a 103 3 v) := sorry
/-- all of it -/
def SI_ (m n : Int) (r : Int → Int) (b a : Sg_) : Prop := EQP_ m b a ∧ WS_ a ∧ WBP_ n r a
theorem si_u {m n : Int} {r : Int → Int} {b a : Sg_} (h : SI_ m n r b a) {k : Nat} {j v : Int} (c : (k = 466 ∨ k = 467 ∨ k = 468 ∨ k = 469) ∨ (k = 103 ∧ (j = 4 ∨ j = 5))) (hv : 0 ≤ v ∧ v ≤ 8 * n + 20) (g5 : k = 103 → j = 5 → v ≤ 1) (g7 : k = 467 → (r 0 = 3 → j = 1 → v ≤ 7) ∧ (r 0 = 2 → v ≤ r 11)) (g9 : k = 469 → v ≤ r 10) : SI_ m n r (u2_ b k j v) (u2_ a k j v) := sorry
theorem si_w {m n : Int} {r : Int → Int} {b a : Sg_} (h : SI_ m n r b a) {v w : Int} (c : (v = 0 ∧ w = 1) ∨ (v = 1 ∧ w = 2)) : SI_ m n r (u2_ b 103 3 w) (u2_ a 103 3 v) := sorry
theorem si_z {m n : Int} {r : Int → Int} {b a : Sg_} (h : SI_ m n r b a) (q : RB9_ r) {k : Nat} (c : k = 466 ∨ k = 467) : SI_ m n r (u2_ (u2_ b k 0 0) k 1 0) (fy2_ a k 2 0) := sorry
theorem si_ad {m n : Int} {r : Int → Int} {b a : Sg_} {s v w : Int} (h : SI_ m n r b a) (h0 : 0 ≤ s) (h1 : s ≤ 1) (e : w = wr_ (a 468 s + v)) (hw : 0 ≤ w ∧ w ≤ 8 * n + 20) : SI_ m n r (adR_ b s v) (u2_ a 468 s w) := sorry
theorem si_m {m n n' : Int} {r : Int → Int} {b a : Sg_} (h : SI_ m n r b a) (e : n ≤ n') (g : n' ≤ 1000000) : SI_ m n' r b a := sorry
theorem u2_c {a : Sg_} {k k' : Nat} {j j' v v' : Int} (h : ¬ (k = k' ∧ j = j')) : u2_ (u2_ a k j v) k' j' v' = u2_ (u2_ a k' j' v') k j v := sorry
/-- the half ends -/
theorem si_ts {m n : Int} {r : Int → Int} {b a : Sg_} (h : SI_ m n r b a) (q : RB9_ r) (g : n + 1 ≤ 1000000) : SI_ m (n + 1) r (tsR_ r b) (eh9_ r (fy2_ a 467 2 0)) := sorry
/-- an out -/
theorem si_ot {m n : Int} {r : Int → Int} {b a : Sg_} (h : SI_ m n r b a) (q : RB9_ r) (r3 : r 0 = 3) (g : n + 2 ≤ 1000000) : SI_ m (n + 2) r (otR_ r b) (co9_ r a) := sorry
/-- men go on -/
theorem si_av {m n : Int} {r : Int → Int} {b a : Sg_} {s x v : Int} (h : SI_ m n r b a) (q : RB9_ r) (h0 : 0 ≤ s) (h1 : s ≤ 1) (hx : 0 ≤ x ∧ x ≤ 7) (hv : 0 ≤ v ∧ v ≤ 4) (r3 : r 0 = 3) (g : n + 1 ≤ 1000000) : SI_ m (n + 1) r (avR_ r b s x v) (gb9_ r (u2_ a 467 1 x) s v) := sorry
theorem wk_t : ∀ n : Nat, n < 8 → (n = 7 ∨ an_ (n : Int) 1 = 0 ∨ an_ (n : Int) 2 = 0 ∨ n = 3) ∧ (0 ≤ or_ (n : Int) 1 ∧ or_ (n : Int) 1 ≤ 7) ∧ (0 ≤ or_ (n : Int) 2 ∧ or_ (n : Int) 2 ≤ 7) := sorry
/-- a walk -/
theorem si_wk {m n : Int} {r : Int → Int} {b a : Sg_} {s : Int} (h : SI_ m n r b a) (q : RB9_ r) (h0 : 0 ≤ s) (h1 : s ≤ 1) (r3 : r 0 = 3) (g : n + 1 ≤ 1000000) : SI_ m (n + 1) r (wkR_ r b s) (wk9_ r a s) := sorry
theorem ht_t : ∀ o : Nat, o < 8 → ∀ v : Nat, v < 4 → (hbR_ (o : Int) ((v : Int) + 1) 4).1 = an_ (or_ (sl_ (o : Int) ((v : Int) + 1)) (sl_ 1 (wr_ ((v : Int) + 1 - 1)))) 7 ∧ (hbR_ (o : Int) ((v : Int) + 1) 4).2 = bc9_ (sr_ (or_ (sl_ (o : Int) ((v : Int) + 1)) (sl_ 1 (wr_ ((v : Int) + 1 - 1)))) 3) ∧ (0 ≤ (hbR_ (o : Int) ((v : Int) + 1) 4).1 ∧ (hbR_ (o : Int) ((v : Int) + 1) 4).1 ≤ 7) ∧ (0 ≤ (hbR_ (o : Int) ((v : Int) + 1) 4).2 ∧ (hbR_ (o : Int) ((v : Int) + 1) 4).2 ≤ 4) := sorry
/-- a hit -/
theorem si_ht {m n : Int} {r : Int → Int} {b a : Sg_} {s v : Int} (h : SI_ m n r b a) (q : RB9_ r) (h0 : 0 ≤ s) (h1 : s ≤ 1) (hv : 1 ≤ v ∧ v ≤ 4) (r3 : r 0 = 3) (g : n + 1 ≤ 1000000) : SI_ m (n + 1) r (htR_ r b s v) (ht9_ r a s v) := sorry
/-- baseball -/
theorem si_pb {m n : Int} {r : Int → Int} {b a : Sg_} {k s v : Int} (h : SI_ m n r b a) (q : RB9_ r) (h0 : 0 ≤ s) (h1 : s ≤ 1) (hv : k = 1 → 1 ≤ v ∧ v ≤ 4) (r3 : r 0 = 3) (g : n + 3 ≤ 1000000) : SI_ m (n + 3) r (pbR_ r b k s v) (pbb9_ r a k s v) := sorry
/-- the laws are the same -/
theorem lw_q {m : Int} {r : Int → Int} {b a : Sg_} {k s q o : Int} (h : EQP_ m b a) (w : WS_ a) (v8 : ∀ s, 0 ≤ s → s ≤ 1 → a 469 s ≤ r 10) : lwR_ r b k s q o = lw9_ r a k s q o := sorry
theorem fy2_u {a : Sg_} {k : Nat} {s v : Int} (h0 : 0 ≤ s) (h1 : s ≤ 1) : fy2_ (u2_ a k s v) k 2 0 = fy2_ a k 2 0 := sorry
theorem u2_o2 {a : Sg_} {k : Nat} {s v : Int} (h0 : 0 ≤ s) (h1 : s ≤ 1) : u2_ (u2_ (u2_ a k s v) k 0 0) k 1 0 = u2_ (u2_ a k 0 0) k 1 0 := sorry
/-- tennis -/
theorem si_pt {m n : Int} {r : Int → Int} {b a : Sg_} {k s : Int} (h : SI_ m n r b a) (q : RB9_ r) (h0 : 0 ≤ s) (h1 : s ≤ 1) (r2 : r 0 = 2) (g : n + 1 ≤ 1000000) : SI_ m (n + 1) r (ptR_ r b k s) (pt9_ r a k s) := sorry
theorem dr_2 {x : Int} (h : 0 ≤ x ∧ x ≤ 2147483647) : dr_ x 2 = an_ x 1 := sorry
/-- volleyball, a point, when the server is settled -/
theorem si_vo {m n : Int} {r : Int → Int} {b a b1 a1 : Sg_} {s : Int} (h : SI_ m n r b a) (hh : SI_ m n r b1 a1) (e8 : ∀ j, a1 468 j = a 468 j) (q : RB9_ r) (h0 : 0 ≤ s) (h1 : s ≤ 1) (r2 : r 0 = 1) (g : n + 1 ≤ 1000000) :
    SI_ m (n + 1) r (u2_ (u2_ b1 103 5 s) 466 s (a 466 s + 1)) (u2_ (u2_ a1 103 5 s) 466 s (a 466 s + 1)) ∧
    SI_ m (n + 1) r (adR_ (u2_ (u2_ (u2_ (u2_ b1 103 5 s) 466 s (a 466 s + 1)) 466 0 0) 466 1 0) s 1) (u2_ (fy2_ (u2_ (u2_ a1 103 5 s) 466 s (a 466 s + 1)) 466 2 0) 468 s (a 468 s + 1)) := sorry
theorem si_pv {m n : Int} {r : Int → Int} {b a : Sg_} {k s x y : Int} (h : SI_ m n r b a) (hr : SI_ m n r (rtR_ b s) (rt9_ a s)) (q : RB9_ r) (h0 : 0 ≤ s) (h1 : s ≤ 1) (k1 : k = 1) (r2 : r 0 = 1) (g : n + 1 ≤ 1000000) : SI_ m (n + 1) r (pvR_ r b m k s x y) (pv9_ r a s) := sorry
