def os9_ (b : Sg_) (n : Int) : Nat → Sg_
  | 0 => b
  | s + 1 => bl9_ (u2_ (os9_ b n s) 470 s n) s n
theorem os9_s {b : Sg_} {n s : Int} (h : 0 ≤ s) : os9_ b n (s + 1).toNat = bl9_ (u2_ (os9_ b n s.toNat) 470 s n) s n := by
  rw [show (s + 1).toNat = s.toNat + 1 by omega]
  show bl9_ (u2_ (os9_ b n s.toNat) 470 (s.toNat : Int) n) (s.toNat : Int) n = _
  rw [show ((s.toNat : Nat) : Int) = s by omega]
/-- back to the beginning -/
def bi9_ (a : Sg_) (v : Int) : Sg_ := fy2_ (fy2_ (fy2_ (fy2_ (fy2_ (fy2_ (u2_ (u2_ (u2_ a 103 3 0) 103 4 0) 103 5 v) 466 2 0) 467 2 0) 468 2 0) 469 2 0) 472 20 0) 473 20 0
noncomputable def bb9_ (r : Int → Int) (a : Sg_) : Sg_ := os9_ (bi9_ a (cz_ (r 0 = 3) 1 0)) (r 9) 2
noncomputable def lw9_ (r : Int → Int) (a : Sg_) (k s q o : Int) : Int := (cz_ (a 103 3 ≠ 0) (1) (cz_ (¬ ((k = 0 ∨ (0 ≤ s ∧ s ≤ 1)) ∧ ((r 0 = 0 ∧ 0 ≤ k ∧ k ≤ 5) ∨ (r 0 = 1 ∧ (k = 1 ∨ k = 5)) ∨ (r 0 = 2 ∧ (k = 1 ∨ k = 6)) ∨ (¬ r 0 = 0 ∧ ¬ r 0 = 1 ∧ ¬ r 0 = 2 ∧ 1 ≤ k ∧ k ≤ 4)))) (2) (cz_ (¬ ((r 0 = 0 ∧ (a 103 4 ≠ 1 ∨ (k ≠ 1 ∧ k ≠ 2))) ∨ (r 0 ≠ 0 ∧ (r 0 ≠ 3 ∨ s = a 103 5)))) (3) (cz_ ((k = 5 ∨ (r 0 = 0 ∧ k ≠ 0)) ∧ fp9_ a s q = -1) (4) (cz_ (k = 5) (cz_ (bq9_ a s o = -1) (5) (cz_ (r 10 ≤ a 469 s) (6) (cz_ (r 0 ≠ 3 ∨ k ≠ 1 ∨ (1 ≤ o ∧ o ≤ 4)) (0) (7)))) (cz_ (r 0 ≠ 3 ∨ k ≠ 1 ∨ (1 ≤ o ∧ o ≤ 4)) (0) (7)))))))
theorem lw9__1 {r : Int → Int} {a : Sg_} {k s q o : Int} (h0 : a 103 3 ≠ 0) : lw9_ r a k s q o = 1 := by
  unfold lw9_
  rw [cz_t h0]
theorem lw9__2 {r : Int → Int} {a : Sg_} {k s q o : Int} (h0 : ¬ (a 103 3 ≠ 0)) (h1 : ¬ ((k = 0 ∨ (0 ≤ s ∧ s ≤ 1)) ∧ ((r 0 = 0 ∧ 0 ≤ k ∧ k ≤ 5) ∨ (r 0 = 1 ∧ (k = 1 ∨ k = 5)) ∨ (r 0 = 2 ∧ (k = 1 ∨ k = 6)) ∨ (¬ r 0 = 0 ∧ ¬ r 0 = 1 ∧ ¬ r 0 = 2 ∧ 1 ≤ k ∧ k ≤ 4)))) : lw9_ r a k s q o = 2 := by
  unfold lw9_
  rw [cz_f h0, cz_t h1]
theorem lw9__3 {r : Int → Int} {a : Sg_} {k s q o : Int} (h0 : ¬ (a 103 3 ≠ 0)) (h1 : ¬ (¬ ((k = 0 ∨ (0 ≤ s ∧ s ≤ 1)) ∧ ((r 0 = 0 ∧ 0 ≤ k ∧ k ≤ 5) ∨ (r 0 = 1 ∧ (k = 1 ∨ k = 5)) ∨ (r 0 = 2 ∧ (k = 1 ∨ k = 6)) ∨ (¬ r 0 = 0 ∧ ¬ r 0 = 1 ∧ ¬ r 0 = 2 ∧ 1 ≤ k ∧ k ≤ 4))))) (h2 : ¬ ((r 0 = 0 ∧ (a 103 4 ≠ 1 ∨ (k ≠ 1 ∧ k ≠ 2))) ∨ (r 0 ≠ 0 ∧ (r 0 ≠ 3 ∨ s = a 103 5)))) : lw9_ r a k s q o = 3 := by
  unfold lw9_
  rw [cz_f h0, cz_f h1, cz_t h2]
theorem lw9__4 {r : Int → Int} {a : Sg_} {k s q o : Int} (h0 : ¬ (a 103 3 ≠ 0)) (h1 : ¬ (¬ ((k = 0 ∨ (0 ≤ s ∧ s ≤ 1)) ∧ ((r 0 = 0 ∧ 0 ≤ k ∧ k ≤ 5) ∨ (r 0 = 1 ∧ (k = 1 ∨ k = 5)) ∨ (r 0 = 2 ∧ (k = 1 ∨ k = 6)) ∨ (¬ r 0 = 0 ∧ ¬ r 0 = 1 ∧ ¬ r 0 = 2 ∧ 1 ≤ k ∧ k ≤ 4))))) (h2 : ¬ (¬ ((r 0 = 0 ∧ (a 103 4 ≠ 1 ∨ (k ≠ 1 ∧ k ≠ 2))) ∨ (r 0 ≠ 0 ∧ (r 0 ≠ 3 ∨ s = a 103 5))))) (h3 : (k = 5 ∨ (r 0 = 0 ∧ k ≠ 0)) ∧ fp9_ a s q = -1) : lw9_ r a k s q o = 4 := by
  unfold lw9_
  rw [cz_f h0, cz_f h1, cz_f h2, cz_t h3]
theorem lw9__5 {r : Int → Int} {a : Sg_} {k s q o : Int} (h0 : ¬ (a 103 3 ≠ 0)) (h1 : ¬ (¬ ((k = 0 ∨ (0 ≤ s ∧ s ≤ 1)) ∧ ((r 0 = 0 ∧ 0 ≤ k ∧ k ≤ 5) ∨ (r 0 = 1 ∧ (k = 1 ∨ k = 5)) ∨ (r 0 = 2 ∧ (k = 1 ∨ k = 6)) ∨ (¬ r 0 = 0 ∧ ¬ r 0 = 1 ∧ ¬ r 0 = 2 ∧ 1 ≤ k ∧ k ≤ 4))))) (h2 : ¬ (¬ ((r 0 = 0 ∧ (a 103 4 ≠ 1 ∨ (k ≠ 1 ∧ k ≠ 2))) ∨ (r 0 ≠ 0 ∧ (r 0 ≠ 3 ∨ s = a 103 5))))) (h3 : ¬ ((k = 5 ∨ (r 0 = 0 ∧ k ≠ 0)) ∧ fp9_ a s q = -1)) (h4 : k = 5) (h5 : bq9_ a s o = -1) : lw9_ r a k s q o = 5 := by
  unfold lw9_
  rw [cz_f h0, cz_f h1, cz_f h2, cz_f h3, cz_t h4, cz_t h5]
theorem lw9__6 {r : Int → Int} {a : Sg_} {k s q o : Int} (h0 : ¬ (a 103 3 ≠ 0)) (h1 : ¬ (¬ ((k = 0 ∨ (0 ≤ s ∧ s ≤ 1)) ∧ ((r 0 = 0 ∧ 0 ≤ k ∧ k ≤ 5) ∨ (r 0 = 1 ∧ (k = 1 ∨ k = 5)) ∨ (r 0 = 2 ∧ (k = 1 ∨ k = 6)) ∨ (¬ r 0 = 0 ∧ ¬ r 0 = 1 ∧ ¬ r 0 = 2 ∧ 1 ≤ k ∧ k ≤ 4))))) (h2 : ¬ (¬ ((r 0 = 0 ∧ (a 103 4 ≠ 1 ∨ (k ≠ 1 ∧ k ≠ 2))) ∨ (r 0 ≠ 0 ∧ (r 0 ≠ 3 ∨ s = a 103 5))))) (h3 : ¬ ((k = 5 ∨ (r 0 = 0 ∧ k ≠ 0)) ∧ fp9_ a s q = -1)) (h4 : k = 5) (h5 : ¬ (bq9_ a s o = -1)) (h6 : r 10 ≤ a 469 s) : lw9_ r a k s q o = 6 := by
  unfold lw9_
  rw [cz_f h0, cz_f h1, cz_f h2, cz_f h3, cz_t h4, cz_f h5, cz_t h6]
theorem lw9__7 {r : Int → Int} {a : Sg_} {k s q o : Int} (h0 : ¬ (a 103 3 ≠ 0)) (h1 : ¬ (¬ ((k = 0 ∨ (0 ≤ s ∧ s ≤ 1)) ∧ ((r 0 = 0 ∧ 0 ≤ k ∧ k ≤ 5) ∨ (r 0 = 1 ∧ (k = 1 ∨ k = 5)) ∨ (r 0 = 2 ∧ (k = 1 ∨ k = 6)) ∨ (¬ r 0 = 0 ∧ ¬ r 0 = 1 ∧ ¬ r 0 = 2 ∧ 1 ≤ k ∧ k ≤ 4))))) (h2 : ¬ (¬ ((r 0 = 0 ∧ (a 103 4 ≠ 1 ∨ (k ≠ 1 ∧ k ≠ 2))) ∨ (r 0 ≠ 0 ∧ (r 0 ≠ 3 ∨ s = a 103 5))))) (h3 : ¬ ((k = 5 ∨ (r 0 = 0 ∧ k ≠ 0)) ∧ fp9_ a s q = -1)) (h4 : k = 5) (h5 : ¬ (bq9_ a s o = -1)) (h6 : ¬ (r 10 ≤ a 469 s)) (h7 : r 0 ≠ 3 ∨ k ≠ 1 ∨ (1 ≤ o ∧ o ≤ 4)) : lw9_ r a k s q o = 0 := by
  unfold lw9_
  rw [cz_f h0, cz_f h1, cz_f h2, cz_f h3, cz_t h4, cz_f h5, cz_f h6, cz_t h7]
theorem lw9__8 {r : Int → Int} {a : Sg_} {k s q o : Int} (h0 : ¬ (a 103 3 ≠ 0)) (h1 : ¬ (¬ ((k = 0 ∨ (0 ≤ s ∧ s ≤ 1)) ∧ ((r 0 = 0 ∧ 0 ≤ k ∧ k ≤ 5) ∨ (r 0 = 1 ∧ (k = 1 ∨ k = 5)) ∨ (r 0 = 2 ∧ (k = 1 ∨ k = 6)) ∨ (¬ r 0 = 0 ∧ ¬ r 0 = 1 ∧ ¬ r 0 = 2 ∧ 1 ≤ k ∧ k ≤ 4))))) (h2 : ¬ (¬ ((r 0 = 0 ∧ (a 103 4 ≠ 1 ∨ (k ≠ 1 ∧ k ≠ 2))) ∨ (r 0 ≠ 0 ∧ (r 0 ≠ 3 ∨ s = a 103 5))))) (h3 : ¬ ((k = 5 ∨ (r 0 = 0 ∧ k ≠ 0)) ∧ fp9_ a s q = -1)) (h4 : k = 5) (h5 : ¬ (bq9_ a s o = -1)) (h6 : ¬ (r 10 ≤ a 469 s)) (h7 : ¬ (r 0 ≠ 3 ∨ k ≠ 1 ∨ (1 ≤ o ∧ o ≤ 4))) : lw9_ r a k s q o = 7 := by
  unfold lw9_
  rw [cz_f h0, cz_f h1, cz_f h2, cz_f h3, cz_t h4, cz_f h5, cz_f h6, cz_f h7]
theorem lw9__9 {r : Int → Int} {a : Sg_} {k s q o : Int} (h0 : ¬ (a 103 3 ≠ 0)) (h1 : ¬ (¬ ((k = 0 ∨ (0 ≤ s ∧ s ≤ 1)) ∧ ((r 0 = 0 ∧ 0 ≤ k ∧ k ≤ 5) ∨ (r 0 = 1 ∧ (k = 1 ∨ k = 5)) ∨ (r 0 = 2 ∧ (k = 1 ∨ k = 6)) ∨ (¬ r 0 = 0 ∧ ¬ r 0 = 1 ∧ ¬ r 0 = 2 ∧ 1 ≤ k ∧ k ≤ 4))))) (h2 : ¬ (¬ ((r 0 = 0 ∧ (a 103 4 ≠ 1 ∨ (k ≠ 1 ∧ k ≠ 2))) ∨ (r 0 ≠ 0 ∧ (r 0 ≠ 3 ∨ s = a 103 5))))) (h3 : ¬ ((k = 5 ∨ (r 0 = 0 ∧ k ≠ 0)) ∧ fp9_ a s q = -1)) (h4 : ¬ (k = 5)) (h5 : r 0 ≠ 3 ∨ k ≠ 1 ∨ (1 ≤ o ∧ o ≤ 4)) : lw9_ r a k s q o = 0 := by
  unfold lw9_
  rw [cz_f h0, cz_f h1, cz_f h2, cz_f h3, cz_f h4, cz_t h5]
theorem lw9__10 {r : Int → Int} {a : Sg_} {k s q o : Int} (h0 : ¬ (a 103 3 ≠ 0)) (h1 : ¬ (¬ ((k = 0 ∨ (0 ≤ s ∧ s ≤ 1)) ∧ ((r 0 = 0 ∧ 0 ≤ k ∧ k ≤ 5) ∨ (r 0 = 1 ∧ (k = 1 ∨ k = 5)) ∨ (r 0 = 2 ∧ (k = 1 ∨ k = 6)) ∨ (¬ r 0 = 0 ∧ ¬ r 0 = 1 ∧ ¬ r 0 = 2 ∧ 1 ≤ k ∧ k ≤ 4))))) (h2 : ¬ (¬ ((r 0 = 0 ∧ (a 103 4 ≠ 1 ∨ (k ≠ 1 ∧ k ≠ 2))) ∨ (r 0 ≠ 0 ∧ (r 0 ≠ 3 ∨ s = a 103 5))))) (h3 : ¬ ((k = 5 ∨ (r 0 = 0 ∧ k ≠ 0)) ∧ fp9_ a s q = -1)) (h4 : ¬ (k = 5)) (h5 : ¬ (r 0 ≠ 3 ∨ k ≠ 1 ∨ (1 ≤ o ∧ o ≤ 4))) : lw9_ r a k s q o = 7 := by
  unfold lw9_
  rw [cz_f h0, cz_f h1, cz_f h2, cz_f h3, cz_f h4, cz_f h5]
noncomputable def so9_ (r : Int → Int) (a : Sg_) (s k : Int) : Sg_ := (cz_ (k = -1) (a) (cz_ (2 * (a 470 s - 1) < r 9) (u2_ (u2_ (u2_ (u2_ (cg9_ (u2_ a 472 (a 471 (s * 6 + k)) 3) s k) 470 s (a 470 s - 1)) 103 3 1) 468 s 0) 468 (1 - s) (r 12)) (u2_ (cg9_ (u2_ a 472 (a 471 (s * 6 + k)) 3) s k) 470 s (a 470 s - 1))))
theorem so9__1 {r : Int → Int} {a : Sg_} {s k : Int} (h0 : k = -1) : so9_ r a s k = a := by
  unfold so9_
  rw [cz_t h0]
theorem so9__2 {r : Int → Int} {a : Sg_} {s k : Int} (h0 : ¬ (k = -1)) (h1 : 2 * (a 470 s - 1) < r 9) : so9_ r a s k = u2_ (u2_ (u2_ (u2_ (cg9_ (u2_ a 472 (a 471 (s * 6 + k)) 3) s k) 470 s (a 470 s - 1)) 103 3 1) 468 s 0) 468 (1 - s) (r 12) := by
  unfold so9_
  rw [cz_f h0, cz_t h1]
theorem so9__3 {r : Int → Int} {a : Sg_} {s k : Int} (h0 : ¬ (k = -1)) (h1 : ¬ (2 * (a 470 s - 1) < r 9)) : so9_ r a s k = u2_ (cg9_ (u2_ a 472 (a 471 (s * 6 + k)) 3) s k) 470 s (a 470 s - 1) := by
  unfold so9_
  rw [cz_f h0, cz_f h1]
noncomputable def yl9_ (r : Int → Int) (a : Sg_) (s k : Int) : Sg_ := (cz_ (k = -1) (a) (cz_ (wr_ (a 473 (a 471 (s * 6 + k)) + 1) = 2) (so9_ r (u2_ a 473 (a 471 (s * 6 + k)) (wr_ (a 473 (a 471 (s * 6 + k)) + 1))) s k) (u2_ a 473 (a 471 (s * 6 + k)) (wr_ (a 473 (a 471 (s * 6 + k)) + 1)))))
theorem yl9__1 {r : Int → Int} {a : Sg_} {s k : Int} (h0 : k = -1) : yl9_ r a s k = a := by
  unfold yl9_
  rw [cz_t h0]
theorem yl9__2 {r : Int → Int} {a : Sg_} {s k : Int} (h0 : ¬ (k = -1)) (h1 : wr_ (a 473 (a 471 (s * 6 + k)) + 1) = 2) : yl9_ r a s k = so9_ r (u2_ a 473 (a 471 (s * 6 + k)) (wr_ (a 473 (a 471 (s * 6 + k)) + 1))) s k := by
  unfold yl9_
  rw [cz_f h0, cz_t h1]
theorem yl9__3 {r : Int → Int} {a : Sg_} {s k : Int} (h0 : ¬ (k = -1)) (h1 : ¬ (wr_ (a 473 (a 471 (s * 6 + k)) + 1) = 2)) : yl9_ r a s k = u2_ a 473 (a 471 (s * 6 + k)) (wr_ (a 473 (a 471 (s * 6 + k)) + 1)) := by
  unfold yl9_
  rw [cz_f h0, cz_f h1]
noncomputable def su9_ (r : Int → Int) (a : Sg_) (s q o : Int) : Sg_ := (cz_ (fp9_ a s q = -1 ∨ bq9_ a s o = -1) (a) (u2_ (u2_ (u2_ (u2_ a 472 (a 471 (s * 6 + fp9_ a s q)) 2) 472 (bq9_ a s o) 1) 471 (s * 6 + fp9_ a s q) (bq9_ a s o)) 469 s (wr_ (a 469 s + 1))))
theorem su9__1 {r : Int → Int} {a : Sg_} {s q o : Int} (h0 : fp9_ a s q = -1 ∨ bq9_ a s o = -1) : su9_ r a s q o = a := by
  unfold su9_
  rw [cz_t h0]
theorem su9__2 {r : Int → Int} {a : Sg_} {s q o : Int} (h0 : ¬ (fp9_ a s q = -1 ∨ bq9_ a s o = -1)) : su9_ r a s q o = u2_ (u2_ (u2_ (u2_ a 472 (a 471 (s * 6 + fp9_ a s q)) 2) 472 (bq9_ a s o) 1) 471 (s * 6 + fp9_ a s q) (bq9_ a s o)) 469 s (wr_ (a 469 s + 1)) := by
  unfold su9_
  rw [cz_f h0]
noncomputable def pf9_ (r : Int → Int) (a : Sg_) (k s q : Int) : Sg_ := (cz_ (k = 1) (u2_ a 468 s (wr_ (a 468 s + 1))) (cz_ (k = 2) (u2_ a 468 (1 - s) (wr_ (a 468 (1 - s) + 1))) (cz_ (k = 3) (yl9_ r a s (fp9_ a s q)) (cz_ (k = 4) (so9_ r a s (fp9_ a s q)) (cz_ (wr_ (a 103 4 + 1) = 3) (u2_ (u2_ a 103 4 (wr_ (a 103 4 + 1))) 103 3 1) (u2_ (u2_ a 103 4 (wr_ (a 103 4 + 1))) 103 3 0))))))
theorem pf9__1 {r : Int → Int} {a : Sg_} {k s q : Int} (h0 : k = 1) : pf9_ r a k s q = u2_ a 468 s (wr_ (a 468 s + 1)) := by
  unfold pf9_
  rw [cz_t h0]
theorem pf9__2 {r : Int → Int} {a : Sg_} {k s q : Int} (h0 : ¬ (k = 1)) (h1 : k = 2) : pf9_ r a k s q = u2_ a 468 (1 - s) (wr_ (a 468 (1 - s) + 1)) := by
  unfold pf9_
  rw [cz_f h0, cz_t h1]
theorem pf9__3 {r : Int → Int} {a : Sg_} {k s q : Int} (h0 : ¬ (k = 1)) (h1 : ¬ (k = 2)) (h2 : k = 3) : pf9_ r a k s q = yl9_ r a s (fp9_ a s q) := by
  unfold pf9_
  rw [cz_f h0, cz_f h1, cz_t h2]
theorem pf9__4 {r : Int → Int} {a : Sg_} {k s q : Int} (h0 : ¬ (k = 1)) (h1 : ¬ (k = 2)) (h2 : ¬ (k = 3)) (h3 : k = 4) : pf9_ r a k s q = so9_ r a s (fp9_ a s q) := by
  unfold pf9_
  rw [cz_f h0, cz_f h1, cz_f h2, cz_t h3]
theorem pf9__5 {r : Int → Int} {a : Sg_} {k s q : Int} (h0 : ¬ (k = 1)) (h1 : ¬ (k = 2)) (h2 : ¬ (k = 3)) (h3 : ¬ (k = 4)) (h4 : wr_ (a 103 4 + 1) = 3) : pf9_ r a k s q = u2_ (u2_ a 103 4 (wr_ (a 103 4 + 1))) 103 3 1 := by
  unfold pf9_
  rw [cz_f h0, cz_f h1, cz_f h2, cz_f h3, cz_t h4]
theorem pf9__6 {r : Int → Int} {a : Sg_} {k s q : Int} (h0 : ¬ (k = 1)) (h1 : ¬ (k = 2)) (h2 : ¬ (k = 3)) (h3 : ¬ (k = 4)) (h4 : ¬ (wr_ (a 103 4 + 1) = 3)) : pf9_ r a k s q = u2_ (u2_ a 103 4 (wr_ (a 103 4 + 1))) 103 3 0 := by
  unfold pf9_
  rw [cz_f h0, cz_f h1, cz_f h2, cz_f h3, cz_f h4]
noncomputable def pv9_ (r : Int → Int) (a : Sg_) (s : Int) : Sg_ := (cz_ (a 103 5 = s) (cz_ (a 103 4 = 4) (cz_ ((3 * r 11 + 4) / 5 ≤ wr_ (a 466 s + 1) ∧ 2 ≤ wr_ (wr_ (a 466 s + 1) - a 466 (1 - s))) (cz_ (wr_ (a 468 s + 1) = 3) (u2_ (u2_ (fy2_ (u2_ (u2_ (a) 103 5 s) 466 s (wr_ (a 466 s + 1))) 466 2 0) 468 s (wr_ (a 468 s + 1))) 103 3 1) (u2_ (u2_ (u2_ (fy2_ (u2_ (u2_ (a) 103 5 s) 466 s (wr_ (a 466 s + 1))) 466 2 0) 468 s (wr_ (a 468 s + 1))) 103 4 (wr_ (a 103 4 + 1))) 103 5 (an_ (wr_ (a 103 4 + 1)) 1))) (u2_ (u2_ (a) 103 5 s) 466 s (wr_ (a 466 s + 1)))) (cz_ (r 11 ≤ wr_ (a 466 s + 1) ∧ 2 ≤ wr_ (wr_ (a 466 s + 1) - a 466 (1 - s))) (cz_ (wr_ (a 468 s + 1) = 3) (u2_ (u2_ (fy2_ (u2_ (u2_ (a) 103 5 s) 466 s (wr_ (a 466 s + 1))) 466 2 0) 468 s (wr_ (a 468 s + 1))) 103 3 1) (u2_ (u2_ (u2_ (fy2_ (u2_ (u2_ (a) 103 5 s) 466 s (wr_ (a 466 s + 1))) 466 2 0) 468 s (wr_ (a 468 s + 1))) 103 4 (wr_ (a 103 4 + 1))) 103 5 (an_ (wr_ (a 103 4 + 1)) 1))) (u2_ (u2_ (a) 103 5 s) 466 s (wr_ (a 466 s + 1))))) (cz_ (a 103 4 = 4) (cz_ ((3 * r 11 + 4) / 5 ≤ wr_ (a 466 s + 1) ∧ 2 ≤ wr_ (wr_ (a 466 s + 1) - a 466 (1 - s))) (cz_ (wr_ (a 468 s + 1) = 3) (u2_ (u2_ (fy2_ (u2_ (u2_ (rt9_ a s) 103 5 s) 466 s (wr_ (a 466 s + 1))) 466 2 0) 468 s (wr_ (a 468 s + 1))) 103 3 1) (u2_ (u2_ (u2_ (fy2_ (u2_ (u2_ (rt9_ a s) 103 5 s) 466 s (wr_ (a 466 s + 1))) 466 2 0) 468 s (wr_ (a 468 s + 1))) 103 4 (wr_ (a 103 4 + 1))) 103 5 (an_ (wr_ (a 103 4 + 1)) 1))) (u2_ (u2_ (rt9_ a s) 103 5 s) 466 s (wr_ (a 466 s + 1)))) (cz_ (r 11 ≤ wr_ (a 466 s + 1) ∧ 2 ≤ wr_ (wr_ (a 466 s + 1) - a 466 (1 - s))) (cz_ (wr_ (a 468 s + 1) = 3) (u2_ (u2_ (fy2_ (u2_ (u2_ (rt9_ a s) 103 5 s) 466 s (wr_ (a 466 s + 1))) 466 2 0) 468 s (wr_ (a 468 s + 1))) 103 3 1) (u2_ (u2_ (u2_ (fy2_ (u2_ (u2_ (rt9_ a s) 103 5 s) 466 s (wr_ (a 466 s + 1))) 466 2 0) 468 s (wr_ (a 468 s + 1))) 103 4 (wr_ (a 103 4 + 1))) 103 5 (an_ (wr_ (a 103 4 + 1)) 1))) (u2_ (u2_ (rt9_ a s) 103 5 s) 466 s (wr_ (a 466 s + 1))))))
theorem pv9__1 {r : Int → Int} {a : Sg_} {s : Int} (h0 : a 103 5 = s) (h1 : a 103 4 = 4) (h2 : (3 * r 11 + 4) / 5 ≤ wr_ (a 466 s + 1) ∧ 2 ≤ wr_ (wr_ (a 466 s + 1) - a 466 (1 - s))) (h3 : wr_ (a 468 s + 1) = 3) : pv9_ r a s = u2_ (u2_ (fy2_ (u2_ (u2_ (a) 103 5 s) 466 s (wr_ (a 466 s + 1))) 466 2 0) 468 s (wr_ (a 468 s + 1))) 103 3 1 := by
  unfold pv9_
  rw [cz_t h0, cz_t h1, cz_t h2, cz_t h3]
theorem pv9__2 {r : Int → Int} {a : Sg_} {s : Int} (h0 : a 103 5 = s) (h1 : a 103 4 = 4) (h2 : (3 * r 11 + 4) / 5 ≤ wr_ (a 466 s + 1) ∧ 2 ≤ wr_ (wr_ (a 466 s + 1) - a 466 (1 - s))) (h3 : ¬ (wr_ (a 468 s + 1) = 3)) : pv9_ r a s = u2_ (u2_ (u2_ (fy2_ (u2_ (u2_ (a) 103 5 s) 466 s (wr_ (a 466 s + 1))) 466 2 0) 468 s (wr_ (a 468 s + 1))) 103 4 (wr_ (a 103 4 + 1))) 103 5 (an_ (wr_ (a 103 4 + 1)) 1) := by
  unfold pv9_
  rw [cz_t h0, cz_t h1, cz_t h2, cz_f h3]
theorem pv9__3 {r : Int → Int} {a : Sg_} {s : Int} (h0 : a 103 5 = s) (h1 : a 103 4 = 4) (h2 : ¬ ((3 * r 11 + 4) / 5 ≤ wr_ (a 466 s + 1) ∧ 2 ≤ wr_ (wr_ (a 466 s + 1) - a 466 (1 - s)))) : pv9_ r a s = u2_ (u2_ (a) 103 5 s) 466 s (wr_ (a 466 s + 1)) := by
  unfold pv9_
  rw [cz_t h0, cz_t h1, cz_f h2]
theorem pv9__4 {r : Int → Int} {a : Sg_} {s : Int} (h0 : a 103 5 = s) (h1 : ¬ (a 103 4 = 4)) (h2 : r 11 ≤ wr_ (a 466 s + 1) ∧ 2 ≤ wr_ (wr_ (a 466 s + 1) - a 466 (1 - s))) (h3 : wr_ (a 468 s + 1) = 3) : pv9_ r a s = u2_ (u2_ (fy2_ (u2_ (u2_ (a) 103 5 s) 466 s (wr_ (a 466 s + 1))) 466 2 0) 468 s (wr_ (a 468 s + 1))) 103 3 1 := by
  unfold pv9_
  rw [cz_t h0, cz_f h1, cz_t h2, cz_t h3]
theorem pv9__5 {r : Int → Int} {a : Sg_} {s : Int} (h0 : a 103 5 = s) (h1 : ¬ (a 103 4 = 4)) (h2 : r 11 ≤ wr_ (a 466 s + 1) ∧ 2 ≤ wr_ (wr_ (a 466 s + 1) - a 466 (1 - s))) (h3 : ¬ (wr_ (a 468 s + 1) = 3)) : pv9_ r a s = u2_ (u2_ (u2_ (fy2_ (u2_ (u2_ (a) 103 5 s) 466 s (wr_ (a 466 s + 1))) 466 2 0) 468 s (wr_ (a 468 s + 1))) 103 4 (wr_ (a 103 4 + 1))) 103 5 (an_ (wr_ (a 103 4 + 1)) 1) := by
  unfold pv9_
  rw [cz_t h0, cz_f h1, cz_t h2, cz_f h3]
theorem pv9__6 {r : Int → Int} {a : Sg_} {s : Int} (h0 : a 103 5 = s) (h1 : ¬ (a 103 4 = 4)) (h2 : ¬ (r 11 ≤ wr_ (a 466 s + 1) ∧ 2 ≤ wr_ (wr_ (a 466 s + 1) - a 466 (1 - s)))) : pv9_ r a s = u2_ (u2_ (a) 103 5 s) 466 s (wr_ (a 466 s + 1)) := by
  unfold pv9_
  rw [cz_t h0, cz_f h1, cz_f h2]
theorem pv9__7 {r : Int → Int} {a : Sg_} {s : Int} (h0 : ¬ (a 103 5 = s)) (h1 : a 103 4 = 4) (h2 : (3 * r 11 + 4) / 5 ≤ wr_ (a 466 s + 1) ∧ 2 ≤ wr_ (wr_ (a 466 s + 1) - a 466 (1 - s))) (h3 : wr_ (a 468 s + 1) = 3) : pv9_ r a s = u2_ (u2_ (fy2_ (u2_ (u2_ (rt9_ a s) 103 5 s) 466 s (wr_ (a 466 s + 1))) 466 2 0) 468 s (wr_ (a 468 s + 1))) 103 3 1 := by
  unfold pv9_
  rw [cz_f h0, cz_t h1, cz_t h2, cz_t h3]
theorem pv9__8 {r : Int → Int} {a : Sg_} {s : Int} (h0 : ¬ (a 103 5 = s)) (h1 : a 103 4 = 4) (h2 : (3 * r 11 + 4) / 5 ≤ wr_ (a 466 s + 1) ∧ 2 ≤ wr_ (wr_ (a 466 s + 1) - a 466 (1 - s))) (h3 : ¬ (wr_ (a 468 s + 1) = 3)) : pv9_ r a s = u2_ (u2_ (u2_ (fy2_ (u2_ (u2_ (rt9_ a s) 103 5 s) 466 s (wr_ (a 466 s + 1))) 466 2 0) 468 s (wr_ (a 468 s + 1))) 103 4 (wr_ (a 103 4 + 1))) 103 5 (an_ (wr_ (a 103 4 + 1)) 1) := by
  unfold pv9_
  rw [cz_f h0, cz_t h1, cz_t h2, cz_f h3]
theorem pv9__9 {r : Int → Int} {a : Sg_} {s : Int} (h0 : ¬ (a 103 5 = s)) (h1 : a 103 4 = 4) (h2 : ¬ ((3 * r 11 + 4) / 5 ≤ wr_ (a 466 s + 1) ∧ 2 ≤ wr_ (wr_ (a 466 s + 1) - a 466 (1 - s)))) : pv9_ r a s = u2_ (u2_ (rt9_ a s) 103 5 s) 466 s (wr_ (a 466 s + 1)) := by
  unfold pv9_
  rw [cz_f h0, cz_t h1, cz_f h2]
theorem pv9__10 {r : Int → Int} {a : Sg_} {s : Int} (h0 : ¬ (a 103 5 = s)) (h1 : ¬ (a 103 4 = 4)) (h2 : r 11 ≤ wr_ (a 466 s + 1) ∧ 2 ≤ wr_ (wr_ (a 466 s + 1) - a 466 (1 - s))) (h3 : wr_ (a 468 s + 1) = 3) : pv9_ r a s = u2_ (u2_ (fy2_ (u2_ (u2_ (rt9_ a s) 103 5 s) 466 s (wr_ (a 466 s + 1))) 466 2 0) 468 s (wr_ (a 468 s + 1))) 103 3 1 := by
  unfold pv9_
  rw [cz_f h0, cz_f h1, cz_t h2, cz_t h3]
theorem pv9__11 {r : Int → Int} {a : Sg_} {s : Int} (h0 : ¬ (a 103 5 = s)) (h1 : ¬ (a 103 4 = 4)) (h2 : r 11 ≤ wr_ (a 466 s + 1) ∧ 2 ≤ wr_ (wr_ (a 466 s + 1) - a 466 (1 - s))) (h3 : ¬ (wr_ (a 468 s + 1) = 3)) : pv9_ r a s = u2_ (u2_ (u2_ (fy2_ (u2_ (u2_ (rt9_ a s) 103 5 s) 466 s (wr_ (a 466 s + 1))) 466 2 0) 468 s (wr_ (a 468 s + 1))) 103 4 (wr_ (a 103 4 + 1))) 103 5 (an_ (wr_ (a 103 4 + 1)) 1) := by
  unfold pv9_
  rw [cz_f h0, cz_f h1, cz_t h2, cz_f h3]
theorem pv9__12 {r : Int → Int} {a : Sg_} {s : Int} (h0 : ¬ (a 103 5 = s)) (h1 : ¬ (a 103 4 = 4)) (h2 : ¬ (r 11 ≤ wr_ (a 466 s + 1) ∧ 2 ≤ wr_ (wr_ (a 466 s + 1) - a 466 (1 - s)))) : pv9_ r a s = u2_ (u2_ (rt9_ a s) 103 5 s) 466 s (wr_ (a 466 s + 1)) := by
  unfold pv9_
  rw [cz_f h0, cz_f h1, cz_f h2]
noncomputable def pt9_ (r : Int → Int) (a : Sg_) (k s : Int) : Sg_ := (cz_ (k = 6) (u2_ (u2_ a 468 (1 - s) 2) 103 3 1) (cz_ (a 467 0 = r 11 ∧ a 467 1 = r 11) (cz_ (7 ≤ wr_ (a 466 s + 1) ∧ 2 ≤ wr_ (wr_ (a 466 s + 1) - a 466 (1 - s))) (cz_ ((r 11 ≤ wr_ (a 467 s + 1) ∧ 2 ≤ wr_ (wr_ (a 467 s + 1) - a 467 (1 - s))) ∨ r 11 < wr_ (a 467 s + 1)) (cz_ (wr_ (a 468 s + 1) = 2) (u2_ (u2_ (fy2_ (u2_ (fy2_ (u2_ a 466 s (wr_ (a 466 s + 1))) 466 2 0) 467 s (wr_ (a 467 s + 1))) 467 2 0) 468 s (wr_ (a 468 s + 1))) 103 3 1) (u2_ (u2_ (u2_ (fy2_ (u2_ (fy2_ (u2_ a 466 s (wr_ (a 466 s + 1))) 466 2 0) 467 s (wr_ (a 467 s + 1))) 467 2 0) 468 s (wr_ (a 468 s + 1))) 103 4 (wr_ (a 103 4 + 1))) 103 5 (1 - a 103 5))) (u2_ (u2_ (fy2_ (u2_ a 466 s (wr_ (a 466 s + 1))) 466 2 0) 467 s (wr_ (a 467 s + 1))) 103 5 (1 - a 103 5))) (u2_ a 466 s (wr_ (a 466 s + 1)))) (cz_ (4 ≤ wr_ (a 466 s + 1) ∧ 2 ≤ wr_ (wr_ (a 466 s + 1) - a 466 (1 - s))) (cz_ ((r 11 ≤ wr_ (a 467 s + 1) ∧ 2 ≤ wr_ (wr_ (a 467 s + 1) - a 467 (1 - s))) ∨ r 11 < wr_ (a 467 s + 1)) (cz_ (wr_ (a 468 s + 1) = 2) (u2_ (u2_ (fy2_ (u2_ (fy2_ (u2_ a 466 s (wr_ (a 466 s + 1))) 466 2 0) 467 s (wr_ (a 467 s + 1))) 467 2 0) 468 s (wr_ (a 468 s + 1))) 103 3 1) (u2_ (u2_ (u2_ (fy2_ (u2_ (fy2_ (u2_ a 466 s (wr_ (a 466 s + 1))) 466 2 0) 467 s (wr_ (a 467 s + 1))) 467 2 0) 468 s (wr_ (a 468 s + 1))) 103 4 (wr_ (a 103 4 + 1))) 103 5 (1 - a 103 5))) (u2_ (u2_ (fy2_ (u2_ a 466 s (wr_ (a 466 s + 1))) 466 2 0) 467 s (wr_ (a 467 s + 1))) 103 5 (1 - a 103 5))) (u2_ a 466 s (wr_ (a 466 s + 1))))))
theorem pt9__1 {r : Int → Int} {a : Sg_} {k s : Int} (h0 : k = 6) : pt9_ r a k s = u2_ (u2_ a 468 (1 - s) 2) 103 3 1 := by
  unfold pt9_
  rw [cz_t h0]
theorem pt9__2 {r : Int → Int} {a : Sg_} {k s : Int} (h0 : ¬ (k = 6)) (h1 : a 467 0 = r 11 ∧ a 467 1 = r 11) (h2 : 7 ≤ wr_ (a 466 s + 1) ∧ 2 ≤ wr_ (wr_ (a 466 s + 1) - a 466 (1 - s))) (h3 : (r 11 ≤ wr_ (a 467 s + 1) ∧ 2 ≤ wr_ (wr_ (a 467 s + 1) - a 467 (1 - s))) ∨ r 11 < wr_ (a 467 s + 1)) (h4 : wr_ (a 468 s + 1) = 2) : pt9_ r a k s = u2_ (u2_ (fy2_ (u2_ (fy2_ (u2_ a 466 s (wr_ (a 466 s + 1))) 466 2 0) 467 s (wr_ (a 467 s + 1))) 467 2 0) 468 s (wr_ (a 468 s + 1))) 103 3 1 := by
  unfold pt9_
  rw [cz_f h0, cz_t h1, cz_t h2, cz_t h3, cz_t h4]
theorem pt9__3 {r : Int → Int} {a : Sg_} {k s : Int} (h0 : ¬ (k = 6)) (h1 : a 467 0 = r 11 ∧ a 467 1 = r 11) (h2 : 7 ≤ wr_ (a 466 s + 1) ∧ 2 ≤ wr_ (wr_ (a 466 s + 1) - a 466 (1 - s))) (h3 : (r 11 ≤ wr_ (a 467 s + 1) ∧ 2 ≤ wr_ (wr_ (a 467 s + 1) - a 467 (1 - s))) ∨ r 11 < wr_ (a 467 s + 1)) (h4 : ¬ (wr_ (a 468 s + 1) = 2)) : pt9_ r a k s = u2_ (u2_ (u2_ (fy2_ (u2_ (fy2_ (u2_ a 466 s (wr_ (a 466 s + 1))) 466 2 0) 467 s (wr_ (a 467 s + 1))) 467 2 0) 468 s (wr_ (a 468 s + 1))) 103 4 (wr_ (a 103 4 + 1))) 103 5 (1 - a 103 5) := by
  unfold pt9_
  rw [cz_f h0, cz_t h1, cz_t h2, cz_t h3, cz_f h4]
theorem pt9__4 {r : Int → Int} {a : Sg_} {k s : Int} (h0 : ¬ (k = 6)) (h1 : a 467 0 = r 11 ∧ a 467 1 = r 11) (h2 : 7 ≤ wr_ (a 466 s + 1) ∧ 2 ≤ wr_ (wr_ (a 466 s + 1) - a 466 (1 - s))) (h3 : ¬ ((r 11 ≤ wr_ (a 467 s + 1) ∧ 2 ≤ wr_ (wr_ (a 467 s + 1) - a 467 (1 - s))) ∨ r 11 < wr_ (a 467 s + 1))) : pt9_ r a k s = u2_ (u2_ (fy2_ (u2_ a 466 s (wr_ (a 466 s + 1))) 466 2 0) 467 s (wr_ (a 467 s + 1))) 103 5 (1 - a 103 5) := by
  unfold pt9_
  rw [cz_f h0, cz_t h1, cz_t h2, cz_f h3]
theorem pt9__5 {r : Int → Int} {a : Sg_} {k s : Int} (h0 : ¬ (k = 6)) (h1 : a 467 0 = r 11 ∧ a 467 1 = r 11) (h2 : ¬ (7 ≤ wr_ (a 466 s + 1) ∧ 2 ≤ wr_ (wr_ (a 466 s + 1) - a 466 (1 - s)))) : pt9_ r a k s = u2_ a 466 s (wr_ (a 466 s + 1)) := by
  unfold pt9_
  rw [cz_f h0, cz_t h1, cz_f h2]
theorem pt9__6 {r : Int → Int} {a : Sg_} {k s : Int} (h0 : ¬ (k = 6)) (h1 : ¬ (a 467 0 = r 11 ∧ a 467 1 = r 11)) (h2 : 4 ≤ wr_ (a 466 s + 1) ∧ 2 ≤ wr_ (wr_ (a 466 s + 1) - a 466 (1 - s))) (h3 : (r 11 ≤ wr_ (a 467 s + 1) ∧ 2 ≤ wr_ (wr_ (a 467 s + 1) - a 467 (1 - s))) ∨ r 11 < wr_ (a 467 s + 1)) (h4 : wr_ (a 468 s + 1) = 2) : pt9_ r a k s = u2_ (u2_ (fy2_ (u2_ (fy2_ (u2_ a 466 s (wr_ (a 466 s + 1))) 466 2 0) 467 s (wr_ (a 467 s + 1))) 467 2 0) 468 s (wr_ (a 468 s + 1))) 103 3 1 := by
  unfold pt9_
  rw [cz_f h0, cz_f h1, cz_t h2, cz_t h3, cz_t h4]
theorem pt9__7 {r : Int → Int} {a : Sg_} {k s : Int} (h0 : ¬ (k = 6)) (h1 : ¬ (a 467 0 = r 11 ∧ a 467 1 = r 11)) (h2 : 4 ≤ wr_ (a 466 s + 1) ∧ 2 ≤ wr_ (wr_ (a 466 s + 1) - a 466 (1 - s))) (h3 : (r 11 ≤ wr_ (a 467 s + 1) ∧ 2 ≤ wr_ (wr_ (a 467 s + 1) - a 467 (1 - s))) ∨ r 11 < wr_ (a 467 s + 1)) (h4 : ¬ (wr_ (a 468 s + 1) = 2)) : pt9_ r a k s = u2_ (u2_ (u2_ (fy2_ (u2_ (fy2_ (u2_ a 466 s (wr_ (a 466 s + 1))) 466 2 0) 467 s (wr_ (a 467 s + 1))) 467 2 0) 468 s (wr_ (a 468 s + 1))) 103 4 (wr_ (a 103 4 + 1))) 103 5 (1 - a 103 5) := by
  unfold pt9_
  rw [cz_f h0, cz_f h1, cz_t h2, cz_t h3, cz_f h4]
theorem pt9__8 {r : Int → Int} {a : Sg_} {k s : Int} (h0 : ¬ (k = 6)) (h1 : ¬ (a 467 0 = r 11 ∧ a 467 1 = r 11)) (h2 : 4 ≤ wr_ (a 466 s + 1) ∧ 2 ≤ wr_ (wr_ (a 466 s + 1) - a 466 (1 - s))) (h3 : ¬ ((r 11 ≤ wr_ (a 467 s + 1) ∧ 2 ≤ wr_ (wr_ (a 467 s + 1) - a 467 (1 - s))) ∨ r 11 < wr_ (a 467 s + 1))) : pt9_ r a k s = u2_ (u2_ (fy2_ (u2_ a 466 s (wr_ (a 466 s + 1))) 466 2 0) 467 s (wr_ (a 467 s + 1))) 103 5 (1 - a 103 5) := by
  unfold pt9_
  rw [cz_f h0, cz_f h1, cz_t h2, cz_f h3]
theorem pt9__9 {r : Int → Int} {a : Sg_} {k s : Int} (h0 : ¬ (k = 6)) (h1 : ¬ (a 467 0 = r 11 ∧ a 467 1 = r 11)) (h2 : ¬ (4 ≤ wr_ (a 466 s + 1) ∧ 2 ≤ wr_ (wr_ (a 466 s + 1) - a 466 (1 - s)))) : pt9_ r a k s = u2_ a 466 s (wr_ (a 466 s + 1)) := by
  unfold pt9_
  rw [cz_f h0, cz_f h1, cz_f h2]
noncomputable def eh9_ (r : Int → Int) (a : Sg_)  : Sg_ := (cz_ (a 103 5 = 1) (cz_ (wr_ (r 11 - 1) ≤ a 103 4 ∧ a 468 1 < a 468 0) (u2_ a 103 3 1) (u2_ a 103 5 0)) (cz_ ((wr_ (r 11 - 1) ≤ a 103 4 ∧ a 468 0 ≠ a 468 1) ∨ wr_ (a 103 4 + 1) = wr_ (r 11 + 20)) (u2_ a 103 3 1) (u2_ (u2_ a 103 4 (wr_ (a 103 4 + 1))) 103 5 1)))
theorem eh9__1 {r : Int → Int} {a : Sg_}  (h0 : a 103 5 = 1) (h1 : wr_ (r 11 - 1) ≤ a 103 4 ∧ a 468 1 < a 468 0) : eh9_ r a = u2_ a 103 3 1 := by
  unfold eh9_
  rw [cz_t h0, cz_t h1]
theorem eh9__2 {r : Int → Int} {a : Sg_}  (h0 : a 103 5 = 1) (h1 : ¬ (wr_ (r 11 - 1) ≤ a 103 4 ∧ a 468 1 < a 468 0)) : eh9_ r a = u2_ a 103 5 0 := by
  unfold eh9_
  rw [cz_t h0, cz_f h1]
theorem eh9__3 {r : Int → Int} {a : Sg_}  (h0 : ¬ (a 103 5 = 1)) (h1 : (wr_ (r 11 - 1) ≤ a 103 4 ∧ a 468 0 ≠ a 468 1) ∨ wr_ (a 103 4 + 1) = wr_ (r 11 + 20)) : eh9_ r a = u2_ a 103 3 1 := by
  unfold eh9_
  rw [cz_f h0, cz_t h1]
theorem eh9__4 {r : Int → Int} {a : Sg_}  (h0 : ¬ (a 103 5 = 1)) (h1 : ¬ ((wr_ (r 11 - 1) ≤ a 103 4 ∧ a 468 0 ≠ a 468 1) ∨ wr_ (a 103 4 + 1) = wr_ (r 11 + 20))) : eh9_ r a = u2_ (u2_ a 103 4 (wr_ (a 103 4 + 1))) 103 5 1 := by
  unfold eh9_
  rw [cz_f h0, cz_f h1]
noncomputable def co9_ (r : Int → Int) (a : Sg_)  : Sg_ := (cz_ (wr_ (a 467 0 + 1) = 3) (eh9_ r (fy2_ (u2_ (fy2_ a 466 2 0) 467 0 (wr_ (a 467 0 + 1))) 467 2 0)) (u2_ (fy2_ a 466 2 0) 467 0 (wr_ (a 467 0 + 1))))
theorem co9__1 {r : Int → Int} {a : Sg_}  (h0 : wr_ (a 467 0 + 1) = 3) : co9_ r a = eh9_ r (fy2_ (u2_ (fy2_ a 466 2 0) 467 0 (wr_ (a 467 0 + 1))) 467 2 0) := by
  unfold co9_
  rw [cz_t h0]
theorem co9__2 {r : Int → Int} {a : Sg_}  (h0 : ¬ (wr_ (a 467 0 + 1) = 3)) : co9_ r a = u2_ (fy2_ a 466 2 0) 467 0 (wr_ (a 467 0 + 1)) := by
  unfold co9_
  rw [cz_f h0]
noncomputable def gb9_ (r : Int → Int) (a : Sg_) (s v : Int) : Sg_ := (cz_ (wr_ (r 11 - 1) ≤ a 103 4 ∧ s = 0 ∧ a 468 1 < wr_ (a 468 0 + v)) (u2_ (u2_ (fy2_ a 466 2 0) 468 s (wr_ (a 468 s + v))) 103 3 1) (u2_ (fy2_ a 466 2 0) 468 s (wr_ (a 468 s + v))))
theorem gb9__1 {r : Int → Int} {a : Sg_} {s v : Int} (h0 : wr_ (r 11 - 1) ≤ a 103 4 ∧ s = 0 ∧ a 468 1 < wr_ (a 468 0 + v)) : gb9_ r a s v = u2_ (u2_ (fy2_ a 466 2 0) 468 s (wr_ (a 468 s + v))) 103 3 1 := by
  unfold gb9_
  rw [cz_t h0]
theorem gb9__2 {r : Int → Int} {a : Sg_} {s v : Int} (h0 : ¬ (wr_ (r 11 - 1) ≤ a 103 4 ∧ s = 0 ∧ a 468 1 < wr_ (a 468 0 + v))) : gb9_ r a s v = u2_ (fy2_ a 466 2 0) 468 s (wr_ (a 468 s + v)) := by
  unfold gb9_
  rw [cz_f h0]
noncomputable def wk9_ (r : Int → Int) (a : Sg_) (s : Int) : Sg_ := (cz_ (an_ (a 467 1) 1 = 0) (cz_ (a 467 1 = 7) (gb9_ r (u2_ a 467 1 (or_ (a 467 1) 1)) s 1) (gb9_ r (u2_ a 467 1 (or_ (a 467 1) 1)) s 0)) (cz_ (an_ (a 467 1) 2 = 0) (cz_ (a 467 1 = 7) (gb9_ r (u2_ a 467 1 (or_ (a 467 1) 2)) s 1) (gb9_ r (u2_ a 467 1 (or_ (a 467 1) 2)) s 0)) (cz_ (a 467 1 = 7) (gb9_ r (u2_ a 467 1 7) s 1) (gb9_ r (u2_ a 467 1 7) s 0))))
theorem wk9__1 {r : Int → Int} {a : Sg_} {s : Int} (h0 : an_ (a 467 1) 1 = 0) (h1 : a 467 1 = 7) : wk9_ r a s = gb9_ r (u2_ a 467 1 (or_ (a 467 1) 1)) s 1 := by
  unfold wk9_
  rw [cz_t h0, cz_t h1]
theorem wk9__2 {r : Int → Int} {a : Sg_} {s : Int} (h0 : an_ (a 467 1) 1 = 0) (h1 : ¬ (a 467 1 = 7)) : wk9_ r a s = gb9_ r (u2_ a 467 1 (or_ (a 467 1) 1)) s 0 := by
  unfold wk9_
  rw [cz_t h0, cz_f h1]
theorem wk9__3 {r : Int → Int} {a : Sg_} {s : Int} (h0 : ¬ (an_ (a 467 1) 1 = 0)) (h1 : an_ (a 467 1) 2 = 0) (h2 : a 467 1 = 7) : wk9_ r a s = gb9_ r (u2_ a 467 1 (or_ (a 467 1) 2)) s 1 := by
  unfold wk9_
  rw [cz_f h0, cz_t h1, cz_t h2]
theorem wk9__4 {r : Int → Int} {a : Sg_} {s : Int} (h0 : ¬ (an_ (a 467 1) 1 = 0)) (h1 : an_ (a 467 1) 2 = 0) (h2 : ¬ (a 467 1 = 7)) : wk9_ r a s = gb9_ r (u2_ a 467 1 (or_ (a 467 1) 2)) s 0 := by
  unfold wk9_
  rw [cz_f h0, cz_t h1, cz_f h2]
theorem wk9__5 {r : Int → Int} {a : Sg_} {s : Int} (h0 : ¬ (an_ (a 467 1) 1 = 0)) (h1 : ¬ (an_ (a 467 1) 2 = 0)) (h2 : a 467 1 = 7) : wk9_ r a s = gb9_ r (u2_ a 467 1 7) s 1 := by
  unfold wk9_
  rw [cz_f h0, cz_f h1, cz_t h2]
theorem wk9__6 {r : Int → Int} {a : Sg_} {s : Int} (h0 : ¬ (an_ (a 467 1) 1 = 0)) (h1 : ¬ (an_ (a 467 1) 2 = 0)) (h2 : ¬ (a 467 1 = 7)) : wk9_ r a s = gb9_ r (u2_ a 467 1 7) s 0 := by
  unfold wk9_
  rw [cz_f h0, cz_f h1, cz_f h2]
/-- how many bits -/
def bc9_ (x : Int) : Int := an_ (wr_ ((wr_ ((an_ (wr_ ((wr_ ((an_ (wr_ (x - (an_ (us_ x 1) 1431655765))) 858993459) + (an_ (us_ (wr_ (x - (an_ (us_ x 1) 1431655765))) 2) 858993459))) + (us_ (wr_ ((an_ (wr_ (x - (an_ (us_ x 1) 1431655765))) 858993459) + (an_ (us_ (wr_ (x - (an_ (us_ x 1) 1431655765))) 2) 858993459))) 4))) 252645135) + (us_ (an_ (wr_ ((wr_ ((an_ (wr_ (x - (an_ (us_ x 1) 1431655765))) 858993459) + (an_ (us_ (wr_ (x - (an_ (us_ x 1) 1431655765))) 2) 858993459))) + (us_ (wr_ ((an_ (wr_ (x - (an_ (us_ x 1) 1431655765))) 858993459) + (an_ (us_ (wr_ (x - (an_ (us_ x 1) 1431655765))) 2) 858993459))) 4))) 252645135) 8))) + (us_ (wr_ ((an_ (wr_ ((wr_ ((an_ (wr_ (x - (an_ (us_ x 1) 1431655765))) 858993459) + (an_ (us_ (wr_ (x - (an_ (us_ x 1) 1431655765))) 2) 858993459))) + (us_ (wr_ ((an_ (wr_ (x - (an_ (us_ x 1) 1431655765))) 858993459) + (an_ (us_ (wr_ (x - (an_ (us_ x 1) 1431655765))) 2) 858993459))) 4))) 252645135) + (us_ (an_ (wr_ ((wr_ ((an_ (wr_ (x - (an_ (us_ x 1) 1431655765))) 858993459) + (an_ (us_ (wr_ (x - (an_ (us_ x 1) 1431655765))) 2) 858993459))) + (us_ (wr_ ((an_ (wr_ (x - (an_ (us_ x 1) 1431655765))) 858993459) + (an_ (us_ (wr_ (x - (an_ (us_ x 1) 1431655765))) 2) 858993459))) 4))) 252645135) 8))) 16))) 63
noncomputable def ht9_ (r : Int → Int) (a : Sg_) (s v : Int) : Sg_ := (gb9_ r (u2_ a 467 1 (an_ (or_ (sl_ (a 467 1) v) (sl_ 1 (wr_ (v - 1)))) 7)) s (bc9_ (sr_ (or_ (sl_ (a 467 1) v) (sl_ 1 (wr_ (v - 1)))) 3)))
theorem ht9__1 {r : Int → Int} {a : Sg_} {s v : Int} : ht9_ r a s v = gb9_ r (u2_ a 467 1 (an_ (or_ (sl_ (a 467 1) v) (sl_ 1 (wr_ (v - 1)))) 7)) s (bc9_ (sr_ (or_ (sl_ (a 467 1) v) (sl_ 1 (wr_ (v - 1)))) 3)) := by
  unfold ht9_
  rfl
noncomputable def pbb9_ (r : Int → Int) (a : Sg_) (k s v : Int) : Sg_ := (cz_ (k = 1) (ht9_ r a s v) (cz_ (k = 2) (cz_ (wr_ (a 466 0 + 1) = 4) (wk9_ r (u2_ a 466 0 (wr_ (a 466 0 + 1))) s) (u2_ a 466 0 (wr_ (a 466 0 + 1)))) (cz_ (k = 3) (cz_ (wr_ (a 466 1 + 1) = 3) (co9_ r (u2_ a 466 1 (wr_ (a 466 1 + 1)))) (u2_ a 466 1 (wr_ (a 466 1 + 1)))) (co9_ r a))))
theorem pbb9__1 {r : Int → Int} {a : Sg_} {k s v : Int} (h0 : k = 1) : pbb9_ r a k s v = ht9_ r a s v := by
  unfold pbb9_
  rw [cz_t h0]
theorem pbb9__2 {r : Int → Int} {a : Sg_} {k s v : Int} (h0 : ¬ (k = 1)) (h1 : k = 2) (h2 : wr_ (a 466 0 + 1) = 4) : pbb9_ r a k s v = wk9_ r (u2_ a 466 0 (wr_ (a 466 0 + 1))) s := by
  unfold pbb9_
  rw [cz_f h0, cz_t h1, cz_t h2]
theorem pbb9__3 {r : Int → Int} {a : Sg_} {k s v : Int} (h0 : ¬ (k = 1)) (h1 : k = 2) (h2 : ¬ (wr_ (a 466 0 + 1) = 4)) : pbb9_ r a k s v = u2_ a 466 0 (wr_ (a 466 0 + 1)) := by
  unfold pbb9_
  rw [cz_f h0, cz_t h1, cz_f h2]
theorem pbb9__4 {r : Int → Int} {a : Sg_} {k s v : Int} (h0 : ¬ (k = 1)) (h1 : ¬ (k = 2)) (h2 : k = 3) (h3 : wr_ (a 466 1 + 1) = 3) : pbb9_ r a k s v = co9_ r (u2_ a 466 1 (wr_ (a 466 1 + 1))) := by
  unfold pbb9_
  rw [cz_f h0, cz_f h1, cz_t h2, cz_t h3]
theorem pbb9__5 {r : Int → Int} {a : Sg_} {k s v : Int} (h0 : ¬ (k = 1)) (h1 : ¬ (k = 2)) (h2 : k = 3) (h3 : ¬ (wr_ (a 466 1 + 1) = 3)) : pbb9_ r a k s v = u2_ a 466 1 (wr_ (a 466 1 + 1)) := by
  unfold pbb9_
  rw [cz_f h0, cz_f h1, cz_t h2, cz_f h3]
