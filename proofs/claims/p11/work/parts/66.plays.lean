theorem cv3_ {k : Nat} {x n : Int} (h : 1 ≤ x) : fv_ 3 k (x - 1) n = fv_ 5 k x n := by
  show vR k (x - 1) = (if x = 0 then vN else vR k (x - 1))
  rw [if_neg (by omega)]
def g0_ (T : Zt) (n j : Int) : Int := if False then T 150 n j - 1 else T 150 n j
theorem cg_0 {T : Zt} {n : Int} (hT : ok_T T) (hn : 0 ≤ n ∧ n ≤ 2000000000) (e1 : T 150 n 1 = n + 1) (e2 : T 150 n 2 = n + 1) (e3 : T 150 n 3 = n + 1) (e4 : T 150 n 4 = n + 1) : ∀ (j c k1 : Nat) (lo hi : Int), (tf_ 100)[j]? = some (c, k1, lo, hi) → ∃ c2 k2 lo2 hi2, (tf_ (100 + 50))[j]? = some (c2, k2, lo2, hi2) ∧ fv_ c k1 (g0_ T n j) n = fv_ c2 k2 (T (100 + 50) n j) n ∧ lo ≤ g0_ T n j ∧ g0_ T n j ≤ hi := by
  intro j c k1 lo hi h
  have hlt : j < 9 := by
    by_cases z : j < 9
    · exact z
    · rw [List.getElem?_eq_none (by rw [show (tf_ 100).length = 9 by decide +kernel]; omega)] at h; cases h
  match j, h, hlt with
  | 0, h, _ =>
    rw [show (tf_ 100)[0]? = some (0, 0, 0, 3) by decide +kernel] at h
    cases h
    have eg : g0_ T n (0 : Nat) = T 150 n 0 := by
      unfold g0_
      rw [if_neg (by decide)]
      rfl
    have hb : 0 ≤ T 150 n 0 ∧ T 150 n 0 ≤ 3 := bd_f hT 150 0 (by decide +kernel : (tf_ 150)[0]? = some (0, 0, 0, 3)) n
    rw [eg]
    exact ⟨0, 0, 0, 3, by decide +kernel, rfl, by omega, by omega⟩
  | 1, h, _ =>
    rw [show (tf_ 100)[1]? = some (2, 401, (-2147483648), 2147483647) by decide +kernel] at h
    cases h
    have eg : g0_ T n (1 : Nat) = T 150 n 1 := by
      unfold g0_
      rw [if_neg (by decide)]
      rfl
    have hb : (-2147483648) ≤ T 150 n 1 ∧ T 150 n 1 ≤ 2147483647 := bd_f hT 150 1 (by decide +kernel : (tf_ 150)[1]? = some (5, 401, (-2147483648), 2147483647)) n
    rw [eg]
    exact ⟨5, 401, (-2147483648), 2147483647, by decide +kernel, (by show vR 401 n = fv_ 5 401 (T 150 n 1) n; rw [e1]; exact (fv5_ hn.1).symm), by omega, by omega⟩
  | 2, h, _ =>
    rw [show (tf_ 100)[2]? = some (2, 402, (-2147483648), 2147483647) by decide +kernel] at h
    cases h
    have eg : g0_ T n (2 : Nat) = T 150 n 2 := by
      unfold g0_
      rw [if_neg (by decide)]
      rfl
    have hb : (-2147483648) ≤ T 150 n 2 ∧ T 150 n 2 ≤ 2147483647 := bd_f hT 150 2 (by decide +kernel : (tf_ 150)[2]? = some (5, 402, (-2147483648), 2147483647)) n
    rw [eg]
    exact ⟨5, 402, (-2147483648), 2147483647, by decide +kernel, (by show vR 402 n = fv_ 5 402 (T 150 n 2) n; rw [e2]; exact (fv5_ hn.1).symm), by omega, by omega⟩
  | 3, h, _ =>
    rw [show (tf_ 100)[3]? = some (2, 403, (-2147483648), 2147483647) by decide +kernel] at h
    cases h
    have eg : g0_ T n (3 : Nat) = T 150 n 3 := by
      unfold g0_
      rw [if_neg (by decide)]
      rfl
    have hb : (-2147483648) ≤ T 150 n 3 ∧ T 150 n 3 ≤ 2147483647 := bd_f hT 150 3 (by decide +kernel : (tf_ 150)[3]? = some (5, 403, (-2147483648), 2147483647)) n
    rw [eg]
    exact ⟨5, 403, (-2147483648), 2147483647, by decide +kernel, (by show vR 403 n = fv_ 5 403 (T 150 n 3) n; rw [e3]; exact (fv5_ hn.1).symm), by omega, by omega⟩
  | 4, h, _ =>
    rw [show (tf_ 100)[4]? = some (2, 404, (-2147483648), 2147483647) by decide +kernel] at h
    cases h
    have eg : g0_ T n (4 : Nat) = T 150 n 4 := by
      unfold g0_
      rw [if_neg (by decide)]
      rfl
    have hb : (-2147483648) ≤ T 150 n 4 ∧ T 150 n 4 ≤ 2147483647 := bd_f hT 150 4 (by decide +kernel : (tf_ 150)[4]? = some (5, 404, (-2147483648), 2147483647)) n
    rw [eg]
    exact ⟨5, 404, (-2147483648), 2147483647, by decide +kernel, (by show vR 404 n = fv_ 5 404 (T 150 n 4) n; rw [e4]; exact (fv5_ hn.1).symm), by omega, by omega⟩
  | 5, h, _ =>
    rw [show (tf_ 100)[5]? = some (0, 0, 0, 12) by decide +kernel] at h
    cases h
    have eg : g0_ T n (5 : Nat) = T 150 n 5 := by
      unfold g0_
      rw [if_neg (by decide)]
      rfl
    have hb : 0 ≤ T 150 n 5 ∧ T 150 n 5 ≤ 12 := bd_f hT 150 5 (by decide +kernel : (tf_ 150)[5]? = some (0, 0, 0, 12)) n
    rw [eg]
    exact ⟨0, 0, 0, 12, by decide +kernel, rfl, by omega, by omega⟩
  | 6, h, _ =>
    rw [show (tf_ 100)[6]? = some (0, 0, 0, 1) by decide +kernel] at h
    cases h
    have eg : g0_ T n (6 : Nat) = T 150 n 6 := by
      unfold g0_
      rw [if_neg (by decide)]
      rfl
    have hb : 0 ≤ T 150 n 6 ∧ T 150 n 6 ≤ 1 := bd_f hT 150 6 (by decide +kernel : (tf_ 150)[6]? = some (0, 0, 0, 1)) n
    rw [eg]
    exact ⟨0, 0, 0, 1, by decide +kernel, rfl, by omega, by omega⟩
  | 7, h, _ =>
    rw [show (tf_ 100)[7]? = some (0, 0, 0, 400) by decide +kernel] at h
    cases h
    have eg : g0_ T n (7 : Nat) = T 150 n 7 := by
      unfold g0_
      rw [if_neg (by decide)]
      rfl
    have hb : 0 ≤ T 150 n 7 ∧ T 150 n 7 ≤ 400 := bd_f hT 150 7 (by decide +kernel : (tf_ 150)[7]? = some (0, 0, 0, 400)) n
    rw [eg]
    exact ⟨0, 0, 0, 400, by decide +kernel, rfl, by omega, by omega⟩
  | 8, h, _ =>
    rw [show (tf_ 100)[8]? = some (0, 0, 0, 400) by decide +kernel] at h
    cases h
    have eg : g0_ T n (8 : Nat) = T 150 n 8 := by
      unfold g0_
      rw [if_neg (by decide)]
      rfl
    have hb : 0 ≤ T 150 n 8 ∧ T 150 n 8 ≤ 400 := bd_f hT 150 8 (by decide +kernel : (tf_ 150)[8]? = some (0, 0, 0, 400)) n
    rw [eg]
    exact ⟨0, 0, 0, 400, by decide +kernel, rfl, by omega, by omega⟩
def g2_ (T : Zt) (n j : Int) : Int := if j = 0 then T 152 n j - 1 else T 152 n j
theorem cg_2 {T : Zt} {n : Int} (hT : ok_T T) (hn : 0 ≤ n ∧ n ≤ 2000000000) (e0 : 1 ≤ T 152 n 0) (e8 : T 152 n 8 = n + 1) (e9 : T 152 n 9 = n + 1) (e10 : T 152 n 10 = 0) : ∀ (j c k1 : Nat) (lo hi : Int), (tf_ 102)[j]? = some (c, k1, lo, hi) → ∃ c2 k2 lo2 hi2, (tf_ (102 + 50))[j]? = some (c2, k2, lo2, hi2) ∧ fv_ c k1 (g2_ T n j) n = fv_ c2 k2 (T (102 + 50) n j) n ∧ lo ≤ g2_ T n j ∧ g2_ T n j ≤ hi := by
  intro j c k1 lo hi h
  have hlt : j < 11 := by
    by_cases z : j < 11
    · exact z
    · rw [List.getElem?_eq_none (by rw [show (tf_ 102).length = 11 by decide +kernel]; omega)] at h; cases h
  match j, h, hlt with
  | 0, h, _ =>
    rw [show (tf_ 102)[0]? = some (3, 100, (-2147483648), 2147483647) by decide +kernel] at h
    cases h
    have eg : g2_ T n (0 : Nat) = T 152 n 0 - 1 := by
      unfold g2_
      rw [if_pos (by decide)]
      rfl
    have hb : (-2147483648) ≤ T 152 n 0 ∧ T 152 n 0 ≤ 2147483647 := bd_f hT 152 0 (by decide +kernel : (tf_ 152)[0]? = some (5, 100, (-2147483648), 2147483647)) n
    rw [eg]
    exact ⟨5, 100, (-2147483648), 2147483647, by decide +kernel, (cv3_ e0), by omega, by omega⟩
  | 1, h, _ =>
    rw [show (tf_ 102)[1]? = some (0, 0, 0, 399) by decide +kernel] at h
    cases h
    have eg : g2_ T n (1 : Nat) = T 152 n 1 := by
      unfold g2_
      rw [if_neg (by decide)]
      rfl
    have hb : 0 ≤ T 152 n 1 ∧ T 152 n 1 ≤ 399 := bd_f hT 152 1 (by decide +kernel : (tf_ 152)[1]? = some (0, 0, 0, 399)) n
    rw [eg]
    exact ⟨0, 0, 0, 399, by decide +kernel, rfl, by omega, by omega⟩
  | 2, h, _ =>
    rw [show (tf_ 102)[2]? = some (0, 0, (-2147483648), 2147483647) by decide +kernel] at h
    cases h
    have eg : g2_ T n (2 : Nat) = T 152 n 2 := by
      unfold g2_
      rw [if_neg (by decide)]
      rfl
    have hb : (-2147483648) ≤ T 152 n 2 ∧ T 152 n 2 ≤ 2147483647 := bd_f hT 152 2 (by decide +kernel : (tf_ 152)[2]? = some (0, 0, (-2147483648), 2147483647)) n
    rw [eg]
    exact ⟨0, 0, (-2147483648), 2147483647, by decide +kernel, rfl, by omega, by omega⟩
  | 3, h, _ =>
    rw [show (tf_ 102)[3]? = some (0, 0, 0, 11) by decide +kernel] at h
    cases h
    have eg : g2_ T n (3 : Nat) = T 152 n 3 := by
      unfold g2_
      rw [if_neg (by decide)]
      rfl
    have hb : 0 ≤ T 152 n 3 ∧ T 152 n 3 ≤ 11 := bd_f hT 152 3 (by decide +kernel : (tf_ 152)[3]? = some (0, 0, 0, 11)) n
    rw [eg]
    exact ⟨0, 0, 0, 11, by decide +kernel, rfl, by omega, by omega⟩
  | 4, h, _ =>
    rw [show (tf_ 102)[4]? = some (0, 0, 0, 11) by decide +kernel] at h
    cases h
    have eg : g2_ T n (4 : Nat) = T 152 n 4 := by
      unfold g2_
      rw [if_neg (by decide)]
      rfl
    have hb : 0 ≤ T 152 n 4 ∧ T 152 n 4 ≤ 11 := bd_f hT 152 4 (by decide +kernel : (tf_ 152)[4]? = some (0, 0, 0, 11)) n
    rw [eg]
    exact ⟨0, 0, 0, 11, by decide +kernel, rfl, by omega, by omega⟩
  | 5, h, _ =>
    rw [show (tf_ 102)[5]? = some (0, 0, 0, 999) by decide +kernel] at h
    cases h
    have eg : g2_ T n (5 : Nat) = T 152 n 5 := by
      unfold g2_
      rw [if_neg (by decide)]
      rfl
    have hb : 0 ≤ T 152 n 5 ∧ T 152 n 5 ≤ 999 := bd_f hT 152 5 (by decide +kernel : (tf_ 152)[5]? = some (0, 0, 0, 999)) n
    rw [eg]
    exact ⟨0, 0, 0, 999, by decide +kernel, rfl, by omega, by omega⟩
  | 6, h, _ =>
    rw [show (tf_ 102)[6]? = some (0, 0, (-1), 1) by decide +kernel] at h
    cases h
    have eg : g2_ T n (6 : Nat) = T 152 n 6 := by
      unfold g2_
      rw [if_neg (by decide)]
      rfl
    have hb : (-1) ≤ T 152 n 6 ∧ T 152 n 6 ≤ 1 := bd_f hT 152 6 (by decide +kernel : (tf_ 152)[6]? = some (0, 0, (-1), 1)) n
    rw [eg]
    exact ⟨0, 0, (-1), 1, by decide +kernel, rfl, by omega, by omega⟩
  | 7, h, _ =>
    rw [show (tf_ 102)[7]? = some (0, 0, (-1), 7) by decide +kernel] at h
    cases h
    have eg : g2_ T n (7 : Nat) = T 152 n 7 := by
      unfold g2_
      rw [if_neg (by decide)]
      rfl
    have hb : (-1) ≤ T 152 n 7 ∧ T 152 n 7 ≤ 7 := bd_f hT 152 7 (by decide +kernel : (tf_ 152)[7]? = some (0, 0, (-1), 7)) n
    rw [eg]
    exact ⟨0, 0, (-1), 7, by decide +kernel, rfl, by omega, by omega⟩
  | 8, h, _ =>
    rw [show (tf_ 102)[8]? = some (2, 448, (-2147483648), 2147483647) by decide +kernel] at h
    cases h
    have eg : g2_ T n (8 : Nat) = T 152 n 8 := by
      unfold g2_
      rw [if_neg (by decide)]
      rfl
    have hb : (-2147483648) ≤ T 152 n 8 ∧ T 152 n 8 ≤ 2147483647 := bd_f hT 152 8 (by decide +kernel : (tf_ 152)[8]? = some (5, 448, (-2147483648), 2147483647)) n
    rw [eg]
    exact ⟨5, 448, (-2147483648), 2147483647, by decide +kernel, (by show vR 448 n = fv_ 5 448 (T 152 n 8) n; rw [e8]; exact (fv5_ hn.1).symm), by omega, by omega⟩
  | 9, h, _ =>
    rw [show (tf_ 102)[9]? = some (2, 449, (-2147483648), 2147483647) by decide +kernel] at h
    cases h
    have eg : g2_ T n (9 : Nat) = T 152 n 9 := by
      unfold g2_
      rw [if_neg (by decide)]
      rfl
    have hb : (-2147483648) ≤ T 152 n 9 ∧ T 152 n 9 ≤ 2147483647 := bd_f hT 152 9 (by decide +kernel : (tf_ 152)[9]? = some (5, 449, (-2147483648), 2147483647)) n
    rw [eg]
    exact ⟨5, 449, (-2147483648), 2147483647, by decide +kernel, (by show vR 449 n = fv_ 5 449 (T 152 n 9) n; rw [e9]; exact (fv5_ hn.1).symm), by omega, by omega⟩
  | 10, h, _ =>
    rw [show (tf_ 102)[10]? = some (4, 103, (-2147483648), 2147483647) by decide +kernel] at h
    cases h
    have eg : g2_ T n (10 : Nat) = T 152 n 10 := by
      unfold g2_
      rw [if_neg (by decide)]
      rfl
    have hb : (-2147483648) ≤ T 152 n 10 ∧ T 152 n 10 ≤ 2147483647 := bd_f hT 152 10 (by decide +kernel : (tf_ 152)[10]? = some (5, 103, (-2147483648), 2147483647)) n
    rw [eg]
    exact ⟨5, 103, (-2147483648), 2147483647, by decide +kernel, (by show fv_ 4 103 (T 152 n 10) n = fv_ 5 103 (T 152 n 10) n; rw [e10]; rfl), by omega, by omega⟩
def g3_ (T : Zt) (n j : Int) : Int := if j = 0 ∨ j = 14 ∨ j = 16 then T 153 n j - 1 else T 153 n j
theorem cg_3 {T : Zt} {n : Int} (hT : ok_T T) (hn : 0 ≤ n ∧ n ≤ 2000000000) (e0 : 1 ≤ T 153 n 0) (e1 : T 153 n 1 = n + 1) (e2 : T 153 n 2 = n + 1) (e6 : T 153 n 6 = n + 1) (e7 : T 153 n 7 = n + 1) (e8 : T 153 n 8 = n + 1) (e9 : T 153 n 9 = n + 1) (e10 : T 153 n 10 = n + 1) (e11 : T 153 n 11 = n + 1) (e12 : T 153 n 12 = n + 1) (e13 : T 153 n 13 = n + 1) (e14 : 1 ≤ T 153 n 14) (e16 : 1 ≤ T 153 n 16) : ∀ (j c k1 : Nat) (lo hi : Int), (tf_ 103)[j]? = some (c, k1, lo, hi) → ∃ c2 k2 lo2 hi2, (tf_ (103 + 50))[j]? = some (c2, k2, lo2, hi2) ∧ fv_ c k1 (g3_ T n j) n = fv_ c2 k2 (T (103 + 50) n j) n ∧ lo ≤ g3_ T n j ∧ g3_ T n j ≤ hi := by
  intro j c k1 lo hi h
  have hlt : j < 18 := by
    by_cases z : j < 18
    · exact z
    · rw [List.getElem?_eq_none (by rw [show (tf_ 103).length = 18 by decide +kernel]; omega)] at h; cases h
  match j, h, hlt with
  | 0, h, _ =>
    rw [show (tf_ 103)[0]? = some (3, 401, (-2147483648), 2147483647) by decide +kernel] at h
    cases h
    have eg : g3_ T n (0 : Nat) = T 153 n 0 - 1 := by
      unfold g3_
      rw [if_pos (by decide)]
      rfl
    have hb : (-2147483648) ≤ T 153 n 0 ∧ T 153 n 0 ≤ 2147483647 := bd_f hT 153 0 (by decide +kernel : (tf_ 153)[0]? = some (5, 401, (-2147483648), 2147483647)) n
    rw [eg]
    exact ⟨5, 401, (-2147483648), 2147483647, by decide +kernel, (cv3_ e0), by omega, by omega⟩
  | 1, h, _ =>
    rw [show (tf_ 103)[1]? = some (2, 448, (-2147483648), 2147483647) by decide +kernel] at h
    cases h
    have eg : g3_ T n (1 : Nat) = T 153 n 1 := by
      unfold g3_
      rw [if_neg (by decide)]
      rfl
    have hb : (-2147483648) ≤ T 153 n 1 ∧ T 153 n 1 ≤ 2147483647 := bd_f hT 153 1 (by decide +kernel : (tf_ 153)[1]? = some (5, 448, (-2147483648), 2147483647)) n
    rw [eg]
    exact ⟨5, 448, (-2147483648), 2147483647, by decide +kernel, (by show vR 448 n = fv_ 5 448 (T 153 n 1) n; rw [e1]; exact (fv5_ hn.1).symm), by omega, by omega⟩
  | 2, h, _ =>
    rw [show (tf_ 103)[2]? = some (2, 449, (-2147483648), 2147483647) by decide +kernel] at h
    cases h
    have eg : g3_ T n (2 : Nat) = T 153 n 2 := by
      unfold g3_
      rw [if_neg (by decide)]
      rfl
    have hb : (-2147483648) ≤ T 153 n 2 ∧ T 153 n 2 ≤ 2147483647 := bd_f hT 153 2 (by decide +kernel : (tf_ 153)[2]? = some (5, 449, (-2147483648), 2147483647)) n
    rw [eg]
    exact ⟨5, 449, (-2147483648), 2147483647, by decide +kernel, (by show vR 449 n = fv_ 5 449 (T 153 n 2) n; rw [e2]; exact (fv5_ hn.1).symm), by omega, by omega⟩
  | 3, h, _ =>
    rw [show (tf_ 103)[3]? = some (0, 0, 0, 1) by decide +kernel] at h
    cases h
    have eg : g3_ T n (3 : Nat) = T 153 n 3 := by
      unfold g3_
      rw [if_neg (by decide)]
      rfl
    have hb : 0 ≤ T 153 n 3 ∧ T 153 n 3 ≤ 1 := bd_f hT 153 3 (by decide +kernel : (tf_ 153)[3]? = some (0, 0, 0, 1)) n
    rw [eg]
    exact ⟨0, 0, 0, 1, by decide +kernel, rfl, by omega, by omega⟩
  | 4, h, _ =>
    rw [show (tf_ 103)[4]? = some (0, 0, (-2147483648), 2147483647) by decide +kernel] at h
    cases h
    have eg : g3_ T n (4 : Nat) = T 153 n 4 := by
      unfold g3_
      rw [if_neg (by decide)]
      rfl
    have hb : (-2147483648) ≤ T 153 n 4 ∧ T 153 n 4 ≤ 2147483647 := bd_f hT 153 4 (by decide +kernel : (tf_ 153)[4]? = some (0, 0, (-2147483648), 2147483647)) n
    rw [eg]
    exact ⟨0, 0, (-2147483648), 2147483647, by decide +kernel, rfl, by omega, by omega⟩
  | 5, h, _ =>
    rw [show (tf_ 103)[5]? = some (0, 0, 0, 1) by decide +kernel] at h
    cases h
    have eg : g3_ T n (5 : Nat) = T 153 n 5 := by
      unfold g3_
      rw [if_neg (by decide)]
      rfl
    have hb : 0 ≤ T 153 n 5 ∧ T 153 n 5 ≤ 1 := bd_f hT 153 5 (by decide +kernel : (tf_ 153)[5]? = some (0, 0, 0, 1)) n
    rw [eg]
    exact ⟨0, 0, 0, 1, by decide +kernel, rfl, by omega, by omega⟩
  | 6, h, _ =>
    rw [show (tf_ 103)[6]? = some (2, 466, (-2147483648), 2147483647) by decide +kernel] at h
    cases h
    have eg : g3_ T n (6 : Nat) = T 153 n 6 := by
      unfold g3_
      rw [if_neg (by decide)]
      rfl
    have hb : (-2147483648) ≤ T 153 n 6 ∧ T 153 n 6 ≤ 2147483647 := bd_f hT 153 6 (by decide +kernel : (tf_ 153)[6]? = some (5, 466, (-2147483648), 2147483647)) n
    rw [eg]
    exact ⟨5, 466, (-2147483648), 2147483647, by decide +kernel, (by show vR 466 n = fv_ 5 466 (T 153 n 6) n; rw [e6]; exact (fv5_ hn.1).symm), by omega, by omega⟩
  | 7, h, _ =>
    rw [show (tf_ 103)[7]? = some (2, 467, (-2147483648), 2147483647) by decide +kernel] at h
    cases h
    have eg : g3_ T n (7 : Nat) = T 153 n 7 := by
      unfold g3_
      rw [if_neg (by decide)]
      rfl
    have hb : (-2147483648) ≤ T 153 n 7 ∧ T 153 n 7 ≤ 2147483647 := bd_f hT 153 7 (by decide +kernel : (tf_ 153)[7]? = some (5, 467, (-2147483648), 2147483647)) n
    rw [eg]
    exact ⟨5, 467, (-2147483648), 2147483647, by decide +kernel, (by show vR 467 n = fv_ 5 467 (T 153 n 7) n; rw [e7]; exact (fv5_ hn.1).symm), by omega, by omega⟩
  | 8, h, _ =>
    rw [show (tf_ 103)[8]? = some (2, 468, (-2147483648), 2147483647) by decide +kernel] at h
    cases h
    have eg : g3_ T n (8 : Nat) = T 153 n 8 := by
      unfold g3_
      rw [if_neg (by decide)]
      rfl
    have hb : (-2147483648) ≤ T 153 n 8 ∧ T 153 n 8 ≤ 2147483647 := bd_f hT 153 8 (by decide +kernel : (tf_ 153)[8]? = some (5, 468, (-2147483648), 2147483647)) n
    rw [eg]
    exact ⟨5, 468, (-2147483648), 2147483647, by decide +kernel, (by show vR 468 n = fv_ 5 468 (T 153 n 8) n; rw [e8]; exact (fv5_ hn.1).symm), by omega, by omega⟩
  | 9, h, _ =>
    rw [show (tf_ 103)[9]? = some (2, 469, (-2147483648), 2147483647) by decide +kernel] at h
    cases h
    have eg : g3_ T n (9 : Nat) = T 153 n 9 := by
      unfold g3_
      rw [if_neg (by decide)]
      rfl
    have hb : (-2147483648) ≤ T 153 n 9 ∧ T 153 n 9 ≤ 2147483647 := bd_f hT 153 9 (by decide +kernel : (tf_ 153)[9]? = some (5, 469, (-2147483648), 2147483647)) n
    rw [eg]
    exact ⟨5, 469, (-2147483648), 2147483647, by decide +kernel, (by show vR 469 n = fv_ 5 469 (T 153 n 9) n; rw [e9]; exact (fv5_ hn.1).symm), by omega, by omega⟩
  | 10, h, _ =>
    rw [show (tf_ 103)[10]? = some (2, 470, (-2147483648), 2147483647) by decide +kernel] at h
    cases h
    have eg : g3_ T n (10 : Nat) = T 153 n 10 := by
      unfold g3_
      rw [if_neg (by decide)]
      rfl
    have hb : (-2147483648) ≤ T 153 n 10 ∧ T 153 n 10 ≤ 2147483647 := bd_f hT 153 10 (by decide +kernel : (tf_ 153)[10]? = some (5, 470, (-2147483648), 2147483647)) n
    rw [eg]
    exact ⟨5, 470, (-2147483648), 2147483647, by decide +kernel, (by show vR 470 n = fv_ 5 470 (T 153 n 10) n; rw [e10]; exact (fv5_ hn.1).symm), by omega, by omega⟩
  | 11, h, _ =>
    rw [show (tf_ 103)[11]? = some (2, 471, (-2147483648), 2147483647) by decide +kernel] at h
    cases h
    have eg : g3_ T n (11 : Nat) = T 153 n 11 := by
      unfold g3_
      rw [if_neg (by decide)]
      rfl
    have hb : (-2147483648) ≤ T 153 n 11 ∧ T 153 n 11 ≤ 2147483647 := bd_f hT 153 11 (by decide +kernel : (tf_ 153)[11]? = some (5, 471, (-2147483648), 2147483647)) n
    rw [eg]
    exact ⟨5, 471, (-2147483648), 2147483647, by decide +kernel, (by show vR 471 n = fv_ 5 471 (T 153 n 11) n; rw [e11]; exact (fv5_ hn.1).symm), by omega, by omega⟩
  | 12, h, _ =>
    rw [show (tf_ 103)[12]? = some (2, 472, (-2147483648), 2147483647) by decide +kernel] at h
    cases h
    have eg : g3_ T n (12 : Nat) = T 153 n 12 := by
      unfold g3_
      rw [if_neg (by decide)]
      rfl
    have hb : (-2147483648) ≤ T 153 n 12 ∧ T 153 n 12 ≤ 2147483647 := bd_f hT 153 12 (by decide +kernel : (tf_ 153)[12]? = some (5, 472, (-2147483648), 2147483647)) n
    rw [eg]
    exact ⟨5, 472, (-2147483648), 2147483647, by decide +kernel, (by show vR 472 n = fv_ 5 472 (T 153 n 12) n; rw [e12]; exact (fv5_ hn.1).symm), by omega, by omega⟩
  | 13, h, _ =>
    rw [show (tf_ 103)[13]? = some (2, 473, (-2147483648), 2147483647) by decide +kernel] at h
    cases h
    have eg : g3_ T n (13 : Nat) = T 153 n 13 := by
      unfold g3_
      rw [if_neg (by decide)]
      rfl
    have hb : (-2147483648) ≤ T 153 n 13 ∧ T 153 n 13 ≤ 2147483647 := bd_f hT 153 13 (by decide +kernel : (tf_ 153)[13]? = some (5, 473, (-2147483648), 2147483647)) n
    rw [eg]
    exact ⟨5, 473, (-2147483648), 2147483647, by decide +kernel, (by show vR 473 n = fv_ 5 473 (T 153 n 13) n; rw [e13]; exact (fv5_ hn.1).symm), by omega, by omega⟩
  | 14, h, _ =>
    rw [show (tf_ 103)[14]? = some (3, 190, (-2147483648), 2147483647) by decide +kernel] at h
    cases h
    have eg : g3_ T n (14 : Nat) = T 153 n 14 - 1 := by
      unfold g3_
      rw [if_pos (by decide)]
      rfl
    have hb : (-2147483648) ≤ T 153 n 14 ∧ T 153 n 14 ≤ 2147483647 := bd_f hT 153 14 (by decide +kernel : (tf_ 153)[14]? = some (5, 190, (-2147483648), 2147483647)) n
    rw [eg]
    exact ⟨5, 190, (-2147483648), 2147483647, by decide +kernel, (cv3_ e14), by omega, by omega⟩
  | 15, h, _ =>
    rw [show (tf_ 103)[15]? = some (0, 0, 0, 3000) by decide +kernel] at h
    cases h
    have eg : g3_ T n (15 : Nat) = T 153 n 15 := by
      unfold g3_
      rw [if_neg (by decide)]
      rfl
    have hb : 0 ≤ T 153 n 15 ∧ T 153 n 15 ≤ 3000 := bd_f hT 153 15 (by decide +kernel : (tf_ 153)[15]? = some (0, 0, 0, 3000)) n
    rw [eg]
    exact ⟨0, 0, 0, 3000, by decide +kernel, rfl, by omega, by omega⟩
  | 16, h, _ =>
    rw [show (tf_ 103)[16]? = some (3, 190, (-2147483648), 2147483647) by decide +kernel] at h
    cases h
    have eg : g3_ T n (16 : Nat) = T 153 n 16 - 1 := by
      unfold g3_
      rw [if_pos (by decide)]
      rfl
    have hb : (-2147483648) ≤ T 153 n 16 ∧ T 153 n 16 ≤ 2147483647 := bd_f hT 153 16 (by decide +kernel : (tf_ 153)[16]? = some (5, 190, (-2147483648), 2147483647)) n
    rw [eg]
    exact ⟨5, 190, (-2147483648), 2147483647, by decide +kernel, (cv3_ e16), by omega, by omega⟩
  | 17, h, _ =>
    rw [show (tf_ 103)[17]? = some (0, 0, 0, 3000) by decide +kernel] at h
    cases h
    have eg : g3_ T n (17 : Nat) = T 153 n 17 := by
      unfold g3_
      rw [if_neg (by decide)]
      rfl
    have hb : 0 ≤ T 153 n 17 ∧ T 153 n 17 ≤ 3000 := bd_f hT 153 17 (by decide +kernel : (tf_ 153)[17]? = some (0, 0, 0, 3000)) n
    rw [eg]
    exact ⟨0, 0, 0, 3000, by decide +kernel, rfl, by omega, by omega⟩
theorem cw_fr {T U : Zt} {k : Nat} {i : Int} {g : Int → Int} (h : U = cw_ T k i g) : fr_ [(k, []), (k + 50, [-1])] T U := fun k' i' j w => by
  subst h
  by_cases z : k' = k
  · rw [z] at w
    simp [fw_] at w
  · by_cases y : k' = k + 50 ∧ j = -1
    · rw [y.1, y.2] at w
      simp [fw_] at w
    · unfold cw_
      rw [if_neg (fun q => z q.1), if_neg (fun q => y ⟨q.1, q.2.2⟩)]
theorem cw_ts {T U : Zt} {k : Nat} {i : Int} {g : Int → Int} (h : U = cw_ T k i g) (j : Int) (hj : 0 ≤ j) : U k i j = g j := by rw [h, cw_s hj]
theorem cw_to {T U : Zt} {k : Nat} {i : Int} {g : Int → Int} (h : U = cw_ T k i g) (k' : Nat) (i' j : Int) (hi : i' ≠ i) : U k' i' j = T k' i' j := by rw [h, cw_o (fun q => hi q.2) (fun q => hi q.2)]
theorem cw_r {T U : Zt} {k : Nat} {i : Int} {g : Int → Int} (h : U = cw_ T k i g) : ¬ U (k + 50) i (-1) = 1 := by
  rw [h]
  unfold cw_
  rw [if_neg (fun q => by omega), if_pos ⟨rfl, rfl, rfl⟩]
  decide
theorem ow_3 {k : Nat} (a : 460 ≤ k) (b : k < 480) : ow_ k = some 103 := by
  unfold ow_
  rw [if_neg (by omega), if_neg (by omega), if_pos ⟨a, b⟩]
/-- what is sure of a play p, where at most N rows were ever told -/
def Lp_ (N : Int) (T : Zt) (p : Int) : Prop := (0 ≤ T 103 p 15 ∧ 0 ≤ T 103 p 17 ∧ T 103 p 15 + T 103 p 17 ≤ N ∧ 4 * T 103 p 15 ≤ T 190 (T 103 p 14) (-2) ∧ 4 * T 103 p 17 ≤ T 190 (T 103 p 16) (-2) ∧ T 103 p 14 < T 191 0 0 ∧ T 103 p 16 < T 191 0 0 ∧ 0 ≤ T 103 p 0 ∧ T 103 p 0 < T 106 0 2) ∧ lz_ (T 190 (T 103 p 14) (-2)) ∧ lz_ (T 190 (T 103 p 16) (-2)) ∧ (T 103 p 3 = 0 → 1 ≤ T 470 p 0 ∧ 1 ≤ T 470 p 1)
def LP_ (N : Int) (T : Zt) : Prop := ∀ p : Int, 0 ≤ p → p < T 106 0 4 → T 102 p 10 ≠ 0 → Lp_ N T p
/-- rows of any length: what was there keeps its length -/
def lh_ (T T' : Zt) : Prop := (∀ x, x < T 191 0 0 → T' 190 x (-2) = T 190 x (-2)) ∧ T 191 0 0 ≤ T' 191 0 0
theorem lh_r {T : Zt} : lh_ T T := ⟨fun _ _ => rfl, by omega⟩
theorem lh_t {T T1 T2 : Zt} (h : lh_ T T1) (g : lh_ T1 T2) : lh_ T T2 := ⟨fun x hx => (g.1 x (by have := h.2; omega)).trans (h.1 x hx), by have := h.2; have := g.2; omega⟩
theorem lh_f {ws : List (Nat × List Int)} {T T1 T2 : Zt} (h : lh_ T T1) (g : fr_ ws T1 T2) (a : fw_ ws 190 (-2) = false) (b : fw_ ws 191 0 = false) : lh_ T T2 := lh_t h ⟨fun x _ => g 190 x (-2) a, by rw [g 191 0 0 b]; omega⟩
theorem lh_u {T T1 T2 : Zt} {k : Nat} {i j v : Int} (h : lh_ T T1) (e : T2 = up_ T1 k i j v) (hk : k < 190) : lh_ T T2 := lh_t h ⟨fun x _ => up_k e (by omega) _ _, by rw [up_k e (by omega)]; omega⟩
theorem Lp_o {N N' : Int} {T T' : Zt} {q : Int} (h : Lp_ N T q) (hN : N ≤ N') (l : lh_ T T') (hc : T 106 0 2 ≤ T' 106 0 2) (o : T' 103 q 0 = T 103 q 0 ∧ T' 103 q 3 = T 103 q 3 ∧ T' 103 q 14 = T 103 q 14 ∧ T' 103 q 15 = T 103 q 15 ∧ T' 103 q 16 = T 103 q 16 ∧ T' 103 q 17 = T 103 q 17 ∧ T' 470 q 0 = T 470 q 0 ∧ T' 470 q 1 = T 470 q 1) : Lp_ N' T' q := by
  obtain ⟨⟨a1, a2, a3, a4, a5, a6, a7, a8, a9⟩, b1, b2, b3⟩ := h
  obtain ⟨o0, o3, o14, o15, o16, o17, g0, g1⟩ := o
  have l14 : T' 190 (T' 103 q 14) (-2) = T 190 (T 103 q 14) (-2) := by rw [o14]; exact l.1 _ a6
  have l16 : T' 190 (T' 103 q 16) (-2) = T 190 (T 103 q 16) (-2) := by rw [o16]; exact l.1 _ a7
  have l9 := l.2
  refine ⟨⟨by omega, by omega, by omega, by omega, by omega, by omega, by omega, by omega, by omega⟩, by rw [l14]; exact b1, by rw [l16]; exact b2, fun z => ?_⟩
  have := b3 (by omega)
  omega
theorem LP_f {ws : List (Nat × List Int)} {N N' : Int} {T T' : Zt} (h : LP_ N T) (hN : N ≤ N') (l : lh_ T T') (f : fr_ ws T T') (w : fw_ ws 106 4 = false ∧ fw_ ws 106 2 = false ∧ fw_ ws 102 10 = false ∧ fw_ ws 103 0 = false ∧ fw_ ws 103 3 = false ∧ fw_ ws 103 14 = false ∧ fw_ ws 103 15 = false ∧ fw_ ws 103 16 = false ∧ fw_ ws 103 17 = false ∧ fw_ ws 470 0 = false ∧ fw_ ws 470 1 = false) : LP_ N' T' := by
  obtain ⟨w1, w2, w3, w4, w5, w6, w7, w8, w9, w10, w11⟩ := w
  intro p h0 h1 h2
  rw [f 106 0 _ w1] at h1
  rw [f 102 p _ w3] at h2
  exact Lp_o (h p h0 h1 h2) hN l (by rw [f 106 0 _ w2]; omega) ⟨f _ _ _ w4, f _ _ _ w5, f _ _ _ w6, f _ _ _ w7, f _ _ _ w8, f _ _ _ w9, f _ _ _ w10, f _ _ _ w11⟩
/-- one play is told of anew, the others stay -/
theorem LP_q {N N' : Int} {T T' : Zt} {m : Int} (h : LP_ N T) (hN : N ≤ N') (l : lh_ T T') (o : ∀ k i j, i ≠ m → k ≠ 190 → k ≠ 191 → k ≠ 106 → T' k i j = T k i j) (hm : T' 106 0 4 = T 106 0 4) (hc : T' 106 0 2 = T 106 0 2) (n : T' 102 m 10 ≠ 0 → Lp_ N' T' m) : LP_ N' T' := by
  intro p h0 h1 h2
  by_cases z : p = m
  · rw [z] at h2 ⊢
    exact n h2
  · rw [hm] at h1
    have e : ∀ k j, k ≠ 190 → k ≠ 191 → k ≠ 106 → T' k p j = T k p j := fun k j a b c => o k p j z a b c
    rw [e 102 10 (by decide) (by decide) (by decide)] at h2
    exact Lp_o (h p h0 h1 h2) hN l (by omega) ⟨e _ _ (by decide) (by decide) (by decide), e _ _ (by decide) (by decide) (by decide), e _ _ (by decide) (by decide) (by decide), e _ _ (by decide) (by decide) (by decide), e _ _ (by decide) (by decide) (by decide), e _ _ (by decide) (by decide) (by decide), e _ _ (by decide) (by decide) (by decide), e _ _ (by decide) (by decide) (by decide)⟩
/-- what is not there yet -/
def NR_ (T : Zt) : Prop := (∀ i, ¬ T 150 i (-1) = 1) ∧ (∀ i, ¬ T 152 i (-1) = 1) ∧ (∀ i, ¬ T 153 i (-1) = 1)
def NA_ (T : Zt) : Prop := NR_ T ∧ (∀ i, T 106 0 2 ≤ i → ¬ T 100 i (-1) = 1) ∧ (∀ i, T 106 0 4 ≤ i → ¬ T 102 i (-1) = 1) ∧ ∀ i, (T 106 0 4 ≤ i ∨ T 102 i 10 = 0) → ¬ T 103 i (-1) = 1
theorem NA_f {ws : List (Nat × List Int)} {T T' : Zt} (h : NA_ T) (f : fr_ ws T T') (w : fw_ ws 150 (-1) = false ∧ fw_ ws 152 (-1) = false ∧ fw_ ws 153 (-1) = false ∧ fw_ ws 100 (-1) = false ∧ fw_ ws 102 (-1) = false ∧ fw_ ws 103 (-1) = false ∧ fw_ ws 102 10 = false ∧ fw_ ws 106 4 = false ∧ fw_ ws 106 2 = false) : NA_ T' := by
  obtain ⟨w1, w2, w3, w4, w5, w6, w7, w8, w9⟩ := w
  obtain ⟨⟨a, b, c⟩, d, e, g⟩ := h
  refine ⟨⟨fun i => by rw [f 150 i _ w1]; exact a i, fun i => by rw [f 152 i _ w2]; exact b i, fun i => by rw [f 153 i _ w3]; exact c i⟩, fun i hi => ?_, fun i hi => ?_, fun i hi => ?_⟩
  · rw [f 100 i _ w4]; rw [f 106 0 _ w9] at hi; exact d i hi
  · rw [f 102 i _ w5]; rw [f 106 0 _ w8] at hi; exact e i hi
  · rw [f 103 i _ w6]; rw [f 106 0 _ w8, f 102 i _ w7] at hi; exact g i hi
abbrev cX10_event : ByteArray := prog_1_method_23_code
def yX10_event : MethodName := ⟨RX10, "event", "(IIIII)I"⟩
def zX10_event : Zm := (RX10, cX10_event, 8, (some .int), { frames := 5, cells := 1, slots := 2048, locals := 116 })
theorem bk_X10_event_0 : ck_ fX10 (some .int) cX10_event 0 [.aload 0, .iload 1] 2 = true := qck_r (nn_ _) (by decide +kernel)
theorem bs_X10_event_0 {P : Zt → Option Zv → Prop} (K : Int → Zl → List Zv → Zt → Prop) : sx_ K P [.aload 0, .iload 1] 2 = x_aload 0 (x_iload 1 (K 2)) := ((xe_aload 0).trans (congrArg (x_aload 0) ((xe_iload 1).trans (congrArg (x_iload 1) xe_nil))))
theorem bk_X10_event_5 : ck_ fX10 (some .int) cX10_event 5 [.ifCond .ne 11, .iconst (-2), .ireturn] 11 = true := qck_r (nn_ _) (by decide +kernel)
theorem bs_X10_event_5 {P : Zt → Option Zv → Prop} (K : Int → Zl → List Zv → Zt → Prop) : sx_ K P [.ifCond .ne 11, .iconst (-2), .ireturn] 11 = x_ifCond .ne 11 K (x_iconst (-2) (x_ireturn P)) := ((xe_ifCond .ne 11).trans (congrArg (x_ifCond .ne 11 K) ((xe_iconst (-2)).trans (congrArg (x_iconst (-2)) (xe_ireturn)))))
theorem bk_X10_event_11 : ck_ fX10 (some .int) cX10_event 11 [.aload 0, .tableswitch 0 10 2 #[], .tableswitch 0 6 3 #[], .iload 1, .aaload, .tableswitch 0 2 10 #[], .astore 6, .aload 6, .ifnonnull 33, .iconst (-11), .ireturn] 33 = true := qck_r (nn_ _) (by decide +kernel)
theorem bs_X10_event_11 {P : Zt → Option Zv → Prop} (K : Int → Zl → List Zv → Zt → Prop) : sx_ K P [.aload 0, .tableswitch 0 10 2 #[], .tableswitch 0 6 3 #[], .iload 1, .aaload, .tableswitch 0 2 10 #[], .astore 6, .aload 6, .ifnonnull 33, .iconst (-11), .ireturn] 33 = x_aload 0 (x_g1 110 106 (x_g1 106 523 (x_iload 1 (x_aaload (x_g4 102 103 10 (x_astore 6 (x_aload 6 (x_ifnonnull 33 K (x_iconst (-11) (x_ireturn P)))))))))) := ((xe_aload 0).trans (congrArg (x_aload 0) ((xe_g1 (kk := 110) rfl tl_10_2).trans (congrArg (x_g1 110 106) ((xe_g1 (kk := 106) rfl tl_6_3).trans (congrArg (x_g1 106 523) ((xe_iload 1).trans (congrArg (x_iload 1) ((xe_aaload).trans (congrArg (x_aaload) ((xe_g4 (kk := 102) rfl tl_2_10).trans (congrArg (x_g4 102 103 10) ((xe_astore 6).trans (congrArg (x_astore 6) ((xe_aload 6).trans (congrArg (x_aload 6) ((xe_ifnonnull 33).trans (congrArg (x_ifnonnull 33 K) ((xe_iconst (-11)).trans (congrArg (x_iconst (-11)) (xe_ireturn)))))))))))))))))))))
theorem bk_X10_event_33 : ck_ fX10 (some .int) cX10_event 33 [.aload 6, .iload 2, .iload 3, .iload 4, .iload 5] 41 = true := qck_r (nn_ _) (by decide +kernel)
theorem bs_X10_event_33 {P : Zt → Option Zv → Prop} (K : Int → Zl → List Zv → Zt → Prop) : sx_ K P [.aload 6, .iload 2, .iload 3, .iload 4, .iload 5] 41 = x_aload 6 (x_iload 2 (x_iload 3 (x_iload 4 (x_iload 5 (K 41))))) := ((xe_aload 6).trans (congrArg (x_aload 6) ((xe_iload 2).trans (congrArg (x_iload 2) ((xe_iload 3).trans (congrArg (x_iload 3) ((xe_iload 4).trans (congrArg (x_iload 4) ((xe_iload 5).trans (congrArg (x_iload 5) xe_nil))))))))))
set_option maxRecDepth 100000 in
theorem cl_X10_282 : cv_ RX10 282 yX3_brokenLaw zX3_brokenLaw 3 4 := ⟨gi_V (lw_b5 27 (by decide +kernel) rfl : Cond.methodLink RX10 282 yX3_brokenLaw ∈ lw_g) (lw_b5 28 (by decide +kernel) rfl : Cond.instanceMethod yX3_brokenLaw ∈ lw_g) (lw_b5 29 (by decide +kernel) rfl : Cond.selects yX3_brokenLaw.cls yX3_brokenLaw yX3_brokenLaw ∈ lw_g) (lw_b1 18 (by decide +kernel) rfl : Cond.initialized yX3_brokenLaw.cls ∈ lw_g) (lw_b5 30 rfl rfl : Cond.code yX3_brokenLaw cX3_brokenLaw 5 (some .int) ∈ lw_g), ⟨by decide, by decide, by decide +kernel⟩, ⟨_, _, rfl⟩⟩
theorem bk_X10_event_44 : ck_ fX10 (some .int) cX10_event 44 [.istore 7, .iload 7, .ifCond .eq 57, .iconst (-10), .iload 7, .isub, .ireturn] 57 = true := qck_r (nn_ _) (by decide +kernel)
theorem bs_X10_event_44 {P : Zt → Option Zv → Prop} (K : Int → Zl → List Zv → Zt → Prop) : sx_ K P [.istore 7, .iload 7, .ifCond .eq 57, .iconst (-10), .iload 7, .isub, .ireturn] 57 = x_istore 7 (x_iload 7 (x_ifCond .eq 57 K (x_iconst (-10) (x_iload 7 (x_isub (x_ireturn P)))))) := ((xe_istore 7).trans (congrArg (x_istore 7) ((xe_iload 7).trans (congrArg (x_iload 7) ((xe_ifCond .eq 57).trans (congrArg (x_ifCond .eq 57 K) ((xe_iconst (-10)).trans (congrArg (x_iconst (-10)) ((xe_iload 7).trans (congrArg (x_iload 7) ((xe_isub).trans (congrArg (x_isub) (xe_ireturn)))))))))))))
theorem bk_X10_event_57 : ck_ fX10 (some .int) cX10_event 57 [.aload 0, .tableswitch 0 10 2 #[], .tableswitch 0 6 5 #[], .iconst 3000, .if_icmp .lt 73, .iconst (-5), .ireturn] 73 = true := qck_r (nn_ _) (by decide +kernel)
theorem bs_X10_event_57 {P : Zt → Option Zv → Prop} (K : Int → Zl → List Zv → Zt → Prop) : sx_ K P [.aload 0, .tableswitch 0 10 2 #[], .tableswitch 0 6 5 #[], .iconst 3000, .if_icmp .lt 73, .iconst (-5), .ireturn] 73 = x_aload 0 (x_g1 110 106 (x_g0 106 5 0 3000 (x_iconst 3000 (x_if_icmp .lt 73 K (x_iconst (-5) (x_ireturn P)))))) := ((xe_aload 0).trans (congrArg (x_aload 0) ((xe_g1 (kk := 110) rfl tl_10_2).trans (congrArg (x_g1 110 106) ((xe_g0 (kk := 106) rfl tl_6_5).trans (congrArg (x_g0 106 5 0 3000) ((xe_iconst 3000).trans (congrArg (x_iconst 3000) ((xe_if_icmp .lt 73).trans (congrArg (x_if_icmp .lt 73 K) ((xe_iconst (-5)).trans (congrArg (x_iconst (-5)) (xe_ireturn)))))))))))))
theorem bk_X10_event_73 : ck_ fX10 (some .int) cX10_event 73 [.aload 0, .tableswitch 0 10 2 #[], .dup, .tableswitch 0 6 5 #[], .iconst 1, .iadd, .tableswitch 1 6 5 #[], .aload 6, .iload 2, .iload 3, .iload 4, .iload 5] 94 = true := qck_r (nn_ _) (by decide +kernel)
theorem bs_X10_event_73 {P : Zt → Option Zv → Prop} (K : Int → Zl → List Zv → Zt → Prop) : sx_ K P [.aload 0, .tableswitch 0 10 2 #[], .dup, .tableswitch 0 6 5 #[], .iconst 1, .iadd, .tableswitch 1 6 5 #[], .aload 6, .iload 2, .iload 3, .iload 4, .iload 5] 94 = x_aload 0 (x_g1 110 106 (x_dup (x_g0 106 5 0 3000 (x_iconst 1 (x_iadd (x_p 106 5 0 3000 (x_aload 6 (x_iload 2 (x_iload 3 (x_iload 4 (x_iload 5 (K 94)))))))))))) := ((xe_aload 0).trans (congrArg (x_aload 0) ((xe_g1 (kk := 110) rfl tl_10_2).trans (congrArg (x_g1 110 106) ((xe_dup).trans (congrArg (x_dup) ((xe_g0 (kk := 106) rfl tl_6_5).trans (congrArg (x_g0 106 5 0 3000) ((xe_iconst 1).trans (congrArg (x_iconst 1) ((xe_iadd).trans (congrArg (x_iadd) ((xe_p (kk := 106) rfl tl_6_5).trans (congrArg (x_p 106 5 0 3000) ((xe_aload 6).trans (congrArg (x_aload 6) ((xe_iload 2).trans (congrArg (x_iload 2) ((xe_iload 3).trans (congrArg (x_iload 3) ((xe_iload 4).trans (congrArg (x_iload 4) ((xe_iload 5).trans (congrArg (x_iload 5) xe_nil))))))))))))))))))))))))
set_option maxRecDepth 100000 in
theorem cl_X10_289 : cv_ RX10 289 yX3_carryOut zX3_carryOut 3 4 := ⟨gi_V (lw_b5 60 (by decide +kernel) rfl : Cond.methodLink RX10 289 yX3_carryOut ∈ lw_g) (lw_b5 61 (by decide +kernel) rfl : Cond.instanceMethod yX3_carryOut ∈ lw_g) (lw_b5 62 (by decide +kernel) rfl : Cond.selects yX3_carryOut.cls yX3_carryOut yX3_carryOut ∈ lw_g) (lw_b1 18 (by decide +kernel) rfl : Cond.initialized yX3_carryOut.cls ∈ lw_g) (lw_b5 63 rfl rfl : Cond.code yX3_carryOut cX3_carryOut 5 none ∈ lw_g), ⟨by decide, by decide, by decide +kernel⟩, ⟨_, _, rfl⟩⟩
theorem bk_X10_event_97 : ck_ fX10 (some .int) cX10_event 97 [.aload 6, .iload 2, .iload 3, .iload 4, .iload 5] 105 = true := qck_r (nn_ _) (by decide +kernel)
theorem bs_X10_event_97 {P : Zt → Option Zv → Prop} (K : Int → Zl → List Zv → Zt → Prop) : sx_ K P [.aload 6, .iload 2, .iload 3, .iload 4, .iload 5] 105 = x_aload 6 (x_iload 2 (x_iload 3 (x_iload 4 (x_iload 5 (K 105))))) := ((xe_aload 6).trans (congrArg (x_aload 6) ((xe_iload 2).trans (congrArg (x_iload 2) ((xe_iload 3).trans (congrArg (x_iload 3) ((xe_iload 4).trans (congrArg (x_iload 4) ((xe_iload 5).trans (congrArg (x_iload 5) xe_nil))))))))))
set_option maxRecDepth 100000 in
theorem cl_X10_292 : cv_ RX10 292 yX3_keepRow zX3_keepRow 3 4 := ⟨gi_V (lw_b5 133 (by decide +kernel) rfl : Cond.methodLink RX10 292 yX3_keepRow ∈ lw_g) (lw_b5 134 (by decide +kernel) rfl : Cond.instanceMethod yX3_keepRow ∈ lw_g) (lw_b5 135 (by decide +kernel) rfl : Cond.selects yX3_keepRow.cls yX3_keepRow yX3_keepRow ∈ lw_g) (lw_b1 18 (by decide +kernel) rfl : Cond.initialized yX3_keepRow.cls ∈ lw_g) (lw_b5 136 rfl rfl : Cond.code yX3_keepRow cX3_keepRow 5 none ∈ lw_g), ⟨by decide, by decide, by decide +kernel⟩, ⟨_, _, rfl⟩⟩
theorem bk_X10_event_108 : ck_ fX10 (some .int) cX10_event 108 [.aload 6, .tableswitch 0 3 15 #[], .ireturn] 114 = true := qck_r (nn_ _) (by decide +kernel)
theorem bs_X10_event_108 {P : Zt → Option Zv → Prop} (K : Int → Zl → List Zv → Zt → Prop) : sx_ K P [.aload 6, .tableswitch 0 3 15 #[], .ireturn] 114 = x_aload 6 (x_g0 103 15 0 3000 (x_ireturn P)) := ((xe_aload 6).trans (congrArg (x_aload 6) ((xe_g0 (kk := 103) rfl tl_3_15).trans (congrArg (x_g0 103 15 0 3000) (xe_ireturn)))))
abbrev po_X10_event (T : Zt) (N : Int) (m k s a b : Int) : Zt → Option Zv → Prop := fun T' r => ∃ x : Int, r = some (vI x) ∧ fr_ [(106, [5]), (103, [3, 4, 5, 14, 15]), (466, []), (467, []), (468, []), (472, []), (471, []), (469, []), (470, []), (473, []), (190, []), (191, [0])] T T' ∧ LP_ (N + 1) T' ∧ lh_ T T' ∧ T' 191 0 0 ≤ T 191 0 0 + 600
set_option maxHeartbeats 4000000 in
theorem ct_X10_event {T : Zt} {N : Int} {m k s a b : Int} (hka : KA_ T) (hkm : KM_ T) (hkr : KR_ T) (hlp : LP_ N T) (hN : 0 ≤ N ∧ N ≤ 511) (h9 : 0 ≤ T 191 0 0 ∧ T 191 0 0 ≤ 900000000) : Ct_ yX10_event zX10_event T [vR 110 0, vI m, vI k, vI s, vI a, vI b] (po_X10_event T N m k s a b) := by
  refine ct_of pn_10 rfl rfl (Nat.le_of_ble_eq_true rfl) (fun hT hav => ?_)
  have hr_m : -2147483648 ≤ m ∧ m ≤ 2147483647 := hav (vI m) (by simp)
  have hr_k : -2147483648 ≤ k ∧ k ≤ 2147483647 := hav (vI k) (by simp)
  have hr_s : -2147483648 ≤ s ∧ s ≤ 2147483647 := hav (vI s) (by simp)
  have hr_a : -2147483648 ≤ a ∧ a ≤ 2147483647 := hav (vI a) (by simp)
  have hr_b : -2147483648 ≤ b ∧ b ≤ 2147483647 := hav (vI b) (by simp)
  have hz : zX10_event.2.2.2.1 = some .boolean → ∀ (T' : Zt) (x : Int), po_X10_event T N m k s a b T' (some (vI x)) → 0 ≤ x ∧ x ≤ 1 := fun h => by cases h
  have hb_matchCount : 0 ≤ T 106 0 4 ∧ T 106 0 4 ≤ 400 := bd_f hT 106 4 (by decide +kernel : (tf_ 106)[4]? = some (0, 0, 0, 400)) 0
  show J_ zX10_event T (po_X10_event T N m k s a b) 1 2048 0 [some (vR 110 0), some (vI m), some (vI k), some (vI s), some (vI a), some (vI b), none, none] [] T
  refine j_blx (F := fX10) tb_X10 (nn_ _) bk_X10_event_0 bs_X10_event_0 hz (fun K hK => ?_)
  refine hK 2 _ [vI m, vR 110 0] T ?_
  refine j_callV (y := yX10_isMatch) (Yc := zX10_isMatch) (rest := []) [vI m] (ct_X10_isMatch (T := T)) cl_X10_195 (qd_c (by decide +kernel)) (nn_ _) rfl (rf_of rfl) (Nat.le_of_ble_eq_true rfl) (Nat.le_of_ble_eq_true rfl) (Nat.le_of_ble_eq_true rfl) rfl ?_
  rintro _ _ ⟨rfl, x1, rfl, hx1⟩
  show J_ zX10_event T (po_X10_event T N m k s a b) 1 2048 5 _ [vI x1] T
  refine j_blx (F := fX10) tb_X10 (nn_ _) bk_X10_event_5 bs_X10_event_5 hz (fun K hK => ?_)
  refine And.intro (fun c2 => ?_) (fun c2 => ?_)
  · refine hK 11 _ [] T ?_
    refine j_blx (F := fX10) tb_X10 (nn_ _) bk_X10_event_11 bs_X10_event_11 hz (fun K hK => ?_)
    refine ix_i (by omega) ?_
    refine And.intro (fun c3 => ?_) (fun c3 => ?_)
    · exact absurd (show T 523 0 (m) = 0 by omega) (hka.2 _ (by omega) (by omega))
    · refine And.intro (fun c4 => ?_) (fun c4 => ?_)
      · refine (show po_X10_event T N m k s a b T (some (vI (-11))) from ?_)
        exact ⟨_, rfl, fr_0 _ _, LP_f (ws := []) hlp (by omega) lh_r (fr_0 _ _) ⟨rfl, rfl, rfl, rfl, rfl, rfl, rfl, rfl, rfl, rfl, rfl⟩, lh_r, by omega⟩
      · have hl := hlp m (by omega) (by omega) (by omega)
        obtain ⟨⟨a1, a2, a3, a4, a5, a6, a7, a8, a9⟩, b1, b2, b3⟩ := hl
        have hr := hkr _ a8 a9
        have z1 := lz_b b1
        have z2 := lz_b b2
        have g14 : (-2147483648) ≤ T 103 m 14 ∧ T 103 m 14 ≤ 2147483647 := bd_f hT 103 14 (by decide +kernel : (tf_ 103)[14]? = some (3, 190, (-2147483648), 2147483647)) m
        have g16 : (-2147483648) ≤ T 103 m 16 ∧ T 103 m 16 ≤ 2147483647 := bd_f hT 103 16 (by decide +kernel : (tf_ 103)[16]? = some (3, 190, (-2147483648), 2147483647)) m
        refine hK 33 [some (vR 110 0), some (vI m), some (vI k), some (vI s), some (vI a), some (vI b), some (vR 103 m), none] [] T ?_
        refine j_blx (F := fX10) tb_X10 (nn_ _) bk_X10_event_33 bs_X10_event_33 hz (fun K hK => ?_)
        refine hK 41 _ [vI b, vI a, vI s, vI k, vR 103 m] T ?_
        refine j_callV (y := yX3_brokenLaw) (Yc := zX3_brokenLaw) (rest := []) [vI k, vI s, vI a, vI b] (ct_X3_brokenLaw_k (T := T)) cl_X10_282 (qd_c (by decide +kernel)) (nn_ _) rfl (rf_of rfl) (Nat.le_of_ble_eq_true rfl) (Nat.le_of_ble_eq_true rfl) (Nat.le_of_ble_eq_true rfl) rfl ?_
        rintro _ _ ⟨rfl, x5, rfl, hx5⟩
        show J_ zX10_event T (po_X10_event T N m k s a b) 1 2048 44 _ [vI x5] T
        refine j_blx (F := fX10) tb_X10 (nn_ _) bk_X10_event_44 bs_X10_event_44 hz (fun K hK => ?_)
        refine And.intro (fun c6 => ?_) (fun c6 => ?_)
        · refine hK 57 [some (vR 110 0), some (vI m), some (vI k), some (vI s), some (vI a), some (vI b), some (vR 103 m), some (vI x5)] [] T ?_
          refine j_blx (F := fX10) tb_X10 (nn_ _) bk_X10_event_57 bs_X10_event_57 hz (fun K hK => ?_)
          intro b7 b7b
          refine And.intro (fun c8 => ?_) (fun c8 => ?_)
          · refine hK 73 _ [] T ?_
            refine j_blx (F := fX10) tb_X10 (nn_ _) bk_X10_event_73 bs_X10_event_73 hz (fun K hK => ?_)
            intro b9 b9b
            refine rg_i (by omega) ?_
            refine bd_i (by omega) ?_
            refine x_nm (fun U10 hU10 => ?_)
            have e11 := up_f hU10
            refine hK 94 _ [vI b, vI a, vI s, vI k, vR 103 m] U10 ?_
            have e12 : U10 103 m 0 = T 103 m 0 := up_k hU10 (by exact Nat.ne_of_beq_eq_false rfl) m 0
            have e13 : U10 401 (T 103 m 0) 9 = T 401 (T 103 m 0) 9 := up_k hU10 (by exact Nat.ne_of_beq_eq_false rfl) (T 103 m 0) 9
            have r14 : U10 401 (U10 103 m 0) 9 = T 401 (T 103 m 0) 9 := by rw [e12]; exact e13
            have e15 : U10 103 m 0 = T 103 m 0 := up_k hU10 (by exact Nat.ne_of_beq_eq_false rfl) m 0
            have e16 : U10 401 (T 103 m 0) 0 = T 401 (T 103 m 0) 0 := up_k hU10 (by exact Nat.ne_of_beq_eq_false rfl) (T 103 m 0) 0
            have r17 : U10 401 (U10 103 m 0) 0 = T 401 (T 103 m 0) 0 := by rw [e15]; exact e16
            have g7 := hx5.2.2 (by omega)
            have g8 := b3 g7.2
            have e18 : U10 470 m 0 = T 470 m 0 := up_k hU10 (by exact Nat.ne_of_beq_eq_false rfl) m 0
            have e19 : U10 470 m 1 = T 470 m 1 := up_k hU10 (by exact Nat.ne_of_beq_eq_false rfl) m 1
            refine j_callV (y := yX3_carryOut) (Yc := zX3_carryOut) (rest := []) [vI k, vI s, vI a, vI b] (ct_X3_carryOut (T := U10) (by rw [r17]; exact g7.1) (by omega) (by omega)) cl_X10_289 (qd_c (by decide +kernel)) (nn_ _) rfl (rf_of rfl) (Nat.le_of_ble_eq_true rfl) (Nat.le_of_ble_eq_true rfl) (Nat.le_of_ble_eq_true rfl) rfl ?_
            rintro U20 _ ⟨rfl, fU20, qU20o, qU20⟩
            show J_ zX10_event T (po_X10_event T N m k s a b) 1 2048 97 _ [] U20
            refine j_blx (F := fX10) tb_X10 (nn_ _) bk_X10_event_97 bs_X10_event_97 hz (fun K hK => ?_)
            refine hK 105 _ [vI b, vI a, vI s, vI k, vR 103 m] U20 ?_
            have e22 : U20 103 m 15 = T 103 m 15 := (fU20 103 m 15 rfl).trans (up_k hU10 (by exact Nat.ne_of_beq_eq_false rfl) m 15)
            have e23 : U20 103 m 14 = T 103 m 14 := (fU20 103 m 14 rfl).trans (up_k hU10 (by exact Nat.ne_of_beq_eq_false rfl) m 14)
            have e24 : U20 191 0 0 = T 191 0 0 := (fU20 191 0 0 rfl).trans (up_k hU10 (by exact Nat.ne_of_beq_eq_false rfl) 0 0)
            have e26 : U20 103 m 14 = T 103 m 14 := (fU20 103 m 14 rfl).trans (up_k hU10 (by exact Nat.ne_of_beq_eq_false rfl) m 14)
            have y25 : U20 190 (U20 103 m 14) (-2) = T 190 (T 103 m 14) (-2) := by rw [e26]; exact (fU20 190 _ (-2) rfl).trans (up_k hU10 (by exact Nat.ne_of_beq_eq_false rfl) _ (-2))
            refine j_callV (y := yX3_keepRow) (Yc := zX3_keepRow) (rest := []) [vI k, vI s, vI a, vI b] (ct_X3_keepRow (T := U20) (by omega) (by omega) (by rw [y25]; exact b1)) cl_X10_292 (qd_c (by decide +kernel)) (nn_ _) rfl (rf_of rfl) (Nat.le_of_ble_eq_true rfl) (Nat.le_of_ble_eq_true rfl) (Nat.le_of_ble_eq_true rfl) rfl ?_
            rintro U27 _ ⟨rfl, fU27, qU27o, nU27, lU27, mU27, m2U27, zU27, iU27, kU27, dU27⟩
            show J_ zX10_event T (po_X10_event T N m k s a b) 0 0 108 _ [] U27
            refine j_blx (F := fX10) tb_X10 (nn_ _) bk_X10_event_108 bs_X10_event_108 hz (fun K hK => ?_)
            intro b29 b29b
            refine (show po_X10_event T N m k s a b U27 (some (vI (U27 103 m 15))) from ?_)
            have e30 : U27 103 m 0 = T 103 m 0 := (fU27 103 m 0 rfl).trans ((fU20 103 m 0 rfl).trans (up_k hU10 (by exact Nat.ne_of_beq_eq_false rfl) m 0))
            have e31 : U27 103 m 3 = U20 103 m 3 := fU27 103 m 3 rfl
            have e32 : U27 103 m 16 = T 103 m 16 := (fU27 103 m 16 rfl).trans ((fU20 103 m 16 rfl).trans (up_k hU10 (by exact Nat.ne_of_beq_eq_false rfl) m 16))
            have e33 : U27 103 m 17 = T 103 m 17 := (fU27 103 m 17 rfl).trans ((fU20 103 m 17 rfl).trans (up_k hU10 (by exact Nat.ne_of_beq_eq_false rfl) m 17))
            have e34 : U20 103 m 15 = T 103 m 15 := (fU20 103 m 15 rfl).trans (up_k hU10 (by exact Nat.ne_of_beq_eq_false rfl) m 15)
            have e35 : U20 103 m 14 = T 103 m 14 := (fU20 103 m 14 rfl).trans (up_k hU10 (by exact Nat.ne_of_beq_eq_false rfl) m 14)
            have e36 : U27 106 0 4 = T 106 0 4 := (fU27 106 0 4 rfl).trans ((fU20 106 0 4 rfl).trans (up_j hU10 (by decide) 106 0))
            have e37 : U27 106 0 2 = T 106 0 2 := (fU27 106 0 2 rfl).trans ((fU20 106 0 2 rfl).trans (up_j hU10 (by decide) 106 0))
            have e38 : U20 191 0 0 = T 191 0 0 := (fU20 191 0 0 rfl).trans (up_k hU10 (by exact Nat.ne_of_beq_eq_false rfl) 0 0)
            have e39 : U27 103 m 16 = T 103 m 16 := (fU27 103 m 16 rfl).trans ((fU20 103 m 16 rfl).trans (up_k hU10 (by exact Nat.ne_of_beq_eq_false rfl) m 16))
            have d1 : U27 190 (U27 103 m 16) (-2) = T 190 (T 103 m 16) (-2) := by rw [e39]; exact (lU27 _ (by omega)).trans ((fU20 190 _ (-2) rfl).trans (up_k hU10 (by exact Nat.ne_of_beq_eq_false rfl) _ (-2)))
            have d2 : lh_ T U27 := ⟨fun x hx => (lU27 x (by omega)).trans ((fU20 190 _ (-2) rfl).trans (up_k hU10 (by exact Nat.ne_of_beq_eq_false rfl) _ (-2))), by omega⟩
            have d3 : ∀ k i j, i ≠ m → k ≠ 190 → k ≠ 191 → k ≠ 106 → U27 k i j = T k i j := fun k i j a b c d => (qU27o k i j a b c).trans ((qU20o k i j a).trans (up_g hU10 (fun z => d z.1)))
            have d4 : Lp_ (N + 1) U27 m := ⟨⟨by omega, by omega, by omega, by omega, by omega, by omega, by omega, by omega, by omega⟩, zU27, by rw [d1]; exact b2, fun z => by have y1 := qU20 (by omega); have y2 : U27 470 m 0 = U20 470 m 0 := fU27 470 m 0 rfl; have y3 : U27 470 m 1 = U20 470 m 1 := fU27 470 m 1 rfl; omega⟩
            exact ⟨_, rfl, fr_t (fr_t (fr_u (fr_0 _ _) hU10 rfl) (fr_s fU20 rfl)) (fr_s fU27 rfl), LP_q hlp (by omega) d2 d3 (by omega) (by omega) (fun _ => d4), d2, by omega⟩
          · refine (show po_X10_event T N m k s a b T (some (vI (-5))) from ?_)
            exact ⟨_, rfl, fr_0 _ _, LP_f (ws := []) hlp (by omega) lh_r (fr_0 _ _) ⟨rfl, rfl, rfl, rfl, rfl, rfl, rfl, rfl, rfl, rfl, rfl⟩, lh_r, by omega⟩
        · refine rg_i (by omega) ?_
          refine (show po_X10_event T N m k s a b T (some (vI ((-10) - x5))) from ?_)
          exact ⟨_, rfl, fr_0 _ _, LP_f (ws := []) hlp (by omega) lh_r (fr_0 _ _) ⟨rfl, rfl, rfl, rfl, rfl, rfl, rfl, rfl, rfl, rfl, rfl⟩, lh_r, by omega⟩
  · refine (show po_X10_event T N m k s a b T (some (vI (-2))) from ?_)
    exact ⟨_, rfl, fr_0 _ _, LP_f (ws := []) hlp (by omega) lh_r (fr_0 _ _) ⟨rfl, rfl, rfl, rfl, rfl, rfl, rfl, rfl, rfl, rfl, rfl⟩, lh_r, by omega⟩
abbrev cX10_review : ByteArray := prog_1_method_24_code
def yX10_review : MethodName := ⟨RX10, "review", "(IIIIII)I"⟩
def zX10_review : Zm := (RX10, cX10_review, 8, (some .int), { frames := 6, cells := 127, slots := 4064, locals := 143 })
theorem bk_X10_review_0 : ck_ fX10 (some .int) cX10_review 0 [.aload 0, .iload 1] 2 = true := qck_r (nn_ _) (by decide +kernel)
theorem bs_X10_review_0 {P : Zt → Option Zv → Prop} (K : Int → Zl → List Zv → Zt → Prop) : sx_ K P [.aload 0, .iload 1] 2 = x_aload 0 (x_iload 1 (K 2)) := ((xe_aload 0).trans (congrArg (x_aload 0) ((xe_iload 1).trans (congrArg (x_iload 1) xe_nil))))
theorem bk_X10_review_5 : ck_ fX10 (some .int) cX10_review 5 [.ifCond .ne 11, .iconst (-2), .ireturn] 11 = true := qck_r (nn_ _) (by decide +kernel)
theorem bs_X10_review_5 {P : Zt → Option Zv → Prop} (K : Int → Zl → List Zv → Zt → Prop) : sx_ K P [.ifCond .ne 11, .iconst (-2), .ireturn] 11 = x_ifCond .ne 11 K (x_iconst (-2) (x_ireturn P)) := ((xe_ifCond .ne 11).trans (congrArg (x_ifCond .ne 11 K) ((xe_iconst (-2)).trans (congrArg (x_iconst (-2)) (xe_ireturn)))))
theorem bk_X10_review_11 : ck_ fX10 (some .int) cX10_review 11 [.aload 0, .tableswitch 0 10 2 #[], .tableswitch 0 6 3 #[], .iload 1, .aaload, .tableswitch 0 2 10 #[], .astore 7, .aload 7, .ifnull 42, .iload 2, .aload 7, .tableswitch 0 3 15 #[]] 36 = true := qck_r (nn_ _) (by decide +kernel)
theorem bs_X10_review_11 {P : Zt → Option Zv → Prop} (K : Int → Zl → List Zv → Zt → Prop) : sx_ K P [.aload 0, .tableswitch 0 10 2 #[], .tableswitch 0 6 3 #[], .iload 1, .aaload, .tableswitch 0 2 10 #[], .astore 7, .aload 7, .ifnull 42, .iload 2, .aload 7, .tableswitch 0 3 15 #[]] 36 = x_aload 0 (x_g1 110 106 (x_g1 106 523 (x_iload 1 (x_aaload (x_g4 102 103 10 (x_astore 7 (x_aload 7 (x_ifnull 42 K (x_iload 2 (x_aload 7 (x_g0 103 15 0 3000 (K 36)))))))))))) := ((xe_aload 0).trans (congrArg (x_aload 0) ((xe_g1 (kk := 110) rfl tl_10_2).trans (congrArg (x_g1 110 106) ((xe_g1 (kk := 106) rfl tl_6_3).trans (congrArg (x_g1 106 523) ((xe_iload 1).trans (congrArg (x_iload 1) ((xe_aaload).trans (congrArg (x_aaload) ((xe_g4 (kk := 102) rfl tl_2_10).trans (congrArg (x_g4 102 103 10) ((xe_astore 7).trans (congrArg (x_astore 7) ((xe_aload 7).trans (congrArg (x_aload 7) ((xe_ifnull 42).trans (congrArg (x_ifnull 42 K) ((xe_iload 2).trans (congrArg (x_iload 2) ((xe_aload 7).trans (congrArg (x_aload 7) ((xe_g0 (kk := 103) rfl tl_3_15).trans (congrArg (x_g0 103 15 0 3000) xe_nil))))))))))))))))))))))))
theorem bk_X10_review_42 : ck_ fX10 (some .int) cX10_review 42 [.iconst (-2), .ireturn] 45 = true := qck_r (nn_ _) (by decide +kernel)
theorem bs_X10_review_42 {P : Zt → Option Zv → Prop} (K : Int → Zl → List Zv → Zt → Prop) : sx_ K P [.iconst (-2), .ireturn] 45 = x_iconst (-2) (x_ireturn P) := ((xe_iconst (-2)).trans (congrArg (x_iconst (-2)) (xe_ireturn)))
theorem bk_X10_review_39 : ck_ fX10 (some .int) cX10_review 39 [.ifCond .ne 45, .iconst (-2), .ireturn] 45 = true := qck_r (nn_ _) (by decide +kernel)
theorem bs_X10_review_39 {P : Zt → Option Zv → Prop} (K : Int → Zl → List Zv → Zt → Prop) : sx_ K P [.ifCond .ne 45, .iconst (-2), .ireturn] 45 = x_ifCond .ne 45 K (x_iconst (-2) (x_ireturn P)) := ((xe_ifCond .ne 45).trans (congrArg (x_ifCond .ne 45 K) ((xe_iconst (-2)).trans (congrArg (x_iconst (-2)) (xe_ireturn)))))
theorem bk_X10_review_45 : ck_ fX10 (some .int) cX10_review 45 [.iload 3, .iconst (-1), .if_icmp .ne 62, .aload 7, .iload 2] 53 = true := qck_r (nn_ _) (by decide +kernel)
theorem bs_X10_review_45 {P : Zt → Option Zv → Prop} (K : Int → Zl → List Zv → Zt → Prop) : sx_ K P [.iload 3, .iconst (-1), .if_icmp .ne 62, .aload 7, .iload 2] 53 = x_iload 3 (x_iconst (-1) (x_if_icmp .ne 62 K (x_aload 7 (x_iload 2 (K 53))))) := ((xe_iload 3).trans (congrArg (x_iload 3) ((xe_iconst (-1)).trans (congrArg (x_iconst (-1)) ((xe_if_icmp .ne 62).trans (congrArg (x_if_icmp .ne 62 K) ((xe_aload 7).trans (congrArg (x_aload 7) ((xe_iload 2).trans (congrArg (x_iload 2) xe_nil))))))))))
theorem bk_X10_review_62 : ck_ fX10 (some .int) cX10_review 62 [.aload 7, .iload 3, .iload 4] 67 = true := qck_r (nn_ _) (by decide +kernel)
theorem bs_X10_review_62 {P : Zt → Option Zv → Prop} (K : Int → Zl → List Zv → Zt → Prop) : sx_ K P [.aload 7, .iload 3, .iload 4] 67 = x_aload 7 (x_iload 3 (x_iload 4 (K 67))) := ((xe_aload 7).trans (congrArg (x_aload 7) ((xe_iload 3).trans (congrArg (x_iload 3) ((xe_iload 4).trans (congrArg (x_iload 4) xe_nil))))))
set_option maxRecDepth 100000 in
theorem cl_X10_305 : cv_ RX10 305 yX3_isFormed zX3_isFormed 3 2 := ⟨gi_V (lw_b5 169 (by decide +kernel) rfl : Cond.methodLink RX10 305 yX3_isFormed ∈ lw_g) (lw_b5 32 (by decide +kernel) rfl : Cond.instanceMethod yX3_isFormed ∈ lw_g) (lw_b5 33 (by decide +kernel) rfl : Cond.selects yX3_isFormed.cls yX3_isFormed yX3_isFormed ∈ lw_g) (lw_b1 18 (by decide +kernel) rfl : Cond.initialized yX3_isFormed.cls ∈ lw_g) (lw_b5 34 rfl rfl : Cond.code yX3_isFormed cX3_isFormed 4 (some .boolean) ∈ lw_g), ⟨by decide, by decide, by decide +kernel⟩, ⟨_, _, rfl⟩⟩
theorem bk_X10_review_70 : ck_ fX10 (some .int) cX10_review 70 [.ifCond .ne 76, .iconst (-12), .ireturn] 76 = true := qck_r (nn_ _) (by decide +kernel)
theorem bs_X10_review_70 {P : Zt → Option Zv → Prop} (K : Int → Zl → List Zv → Zt → Prop) : sx_ K P [.ifCond .ne 76, .iconst (-12), .ireturn] 76 = x_ifCond .ne 76 K (x_iconst (-12) (x_ireturn P)) := ((xe_ifCond .ne 76).trans (congrArg (x_ifCond .ne 76 K) ((xe_iconst (-12)).trans (congrArg (x_iconst (-12)) (xe_ireturn)))))
theorem bk_X10_review_76 : ck_ fX10 (some .int) cX10_review 76 [.aload 7, .iload 3, .iload 6] 81 = true := qck_r (nn_ _) (by decide +kernel)
theorem bs_X10_review_76 {P : Zt → Option Zv → Prop} (K : Int → Zl → List Zv → Zt → Prop) : sx_ K P [.aload 7, .iload 3, .iload 6] 81 = x_aload 7 (x_iload 3 (x_iload 6 (K 81))) := ((xe_aload 7).trans (congrArg (x_aload 7) ((xe_iload 3).trans (congrArg (x_iload 3) ((xe_iload 6).trans (congrArg (x_iload 6) xe_nil))))))
set_option maxRecDepth 100000 in
theorem cl_X10_308 : cv_ RX10 308 yX3_isBounded zX3_isBounded 3 2 := ⟨gi_V (lw_b5 170 (by decide +kernel) rfl : Cond.methodLink RX10 308 yX3_isBounded ∈ lw_g) (lw_b5 57 (by decide +kernel) rfl : Cond.instanceMethod yX3_isBounded ∈ lw_g) (lw_b5 58 (by decide +kernel) rfl : Cond.selects yX3_isBounded.cls yX3_isBounded yX3_isBounded ∈ lw_g) (lw_b1 18 (by decide +kernel) rfl : Cond.initialized yX3_isBounded.cls ∈ lw_g) (lw_b5 59 rfl rfl : Cond.code yX3_isBounded cX3_isBounded 3 (some .boolean) ∈ lw_g), ⟨by decide, by decide, by decide +kernel⟩, ⟨_, _, rfl⟩⟩
theorem bk_X10_review_84 : ck_ fX10 (some .int) cX10_review 84 [.ifCond .ne 90, .iconst (-17), .ireturn] 90 = true := qck_r (nn_ _) (by decide +kernel)
theorem bs_X10_review_84 {P : Zt → Option Zv → Prop} (K : Int → Zl → List Zv → Zt → Prop) : sx_ K P [.ifCond .ne 90, .iconst (-17), .ireturn] 90 = x_ifCond .ne 90 K (x_iconst (-17) (x_ireturn P)) := ((xe_ifCond .ne 90).trans (congrArg (x_ifCond .ne 90 K) ((xe_iconst (-17)).trans (congrArg (x_iconst (-17)) (xe_ireturn)))))
theorem bk_X10_review_90 : ck_ fX10 (some .int) cX10_review 90 [.aload 7, .iload 2, .iload 3, .iload 4, .iload 5, .iload 6] 100 = true := qck_r (nn_ _) (by decide +kernel)
theorem bs_X10_review_90 {P : Zt → Option Zv → Prop} (K : Int → Zl → List Zv → Zt → Prop) : sx_ K P [.aload 7, .iload 2, .iload 3, .iload 4, .iload 5, .iload 6] 100 = x_aload 7 (x_iload 2 (x_iload 3 (x_iload 4 (x_iload 5 (x_iload 6 (K 100)))))) := ((xe_aload 7).trans (congrArg (x_aload 7) ((xe_iload 2).trans (congrArg (x_iload 2) ((xe_iload 3).trans (congrArg (x_iload 3) ((xe_iload 4).trans (congrArg (x_iload 4) ((xe_iload 5).trans (congrArg (x_iload 5) ((xe_iload 6).trans (congrArg (x_iload 6) xe_nil))))))))))))
set_option maxRecDepth 100000 in
theorem cl_X10_311 : cv_ RX10 311 yX3_isSameRow zX3_isSameRow 3 5 := ⟨gi_V (lw_b5 171 (by decide +kernel) rfl : Cond.methodLink RX10 311 yX3_isSameRow ∈ lw_g) (lw_b5 172 (by decide +kernel) rfl : Cond.instanceMethod yX3_isSameRow ∈ lw_g) (lw_b5 173 (by decide +kernel) rfl : Cond.selects yX3_isSameRow.cls yX3_isSameRow yX3_isSameRow ∈ lw_g) (lw_b1 18 (by decide +kernel) rfl : Cond.initialized yX3_isSameRow.cls ∈ lw_g) (lw_b5 174 rfl rfl : Cond.code yX3_isSameRow cX3_isSameRow 6 (some .boolean) ∈ lw_g), ⟨by decide, by decide, by decide +kernel⟩, ⟨_, _, rfl⟩⟩
theorem bk_X10_review_103 : ck_ fX10 (some .int) cX10_review 103 [.ifCond .eq 109, .iconst (-20), .ireturn] 109 = true := qck_r (nn_ _) (by decide +kernel)
theorem bs_X10_review_103 {P : Zt → Option Zv → Prop} (K : Int → Zl → List Zv → Zt → Prop) : sx_ K P [.ifCond .eq 109, .iconst (-20), .ireturn] 109 = x_ifCond .eq 109 K (x_iconst (-20) (x_ireturn P)) := ((xe_ifCond .eq 109).trans (congrArg (x_ifCond .eq 109 K) ((xe_iconst (-20)).trans (congrArg (x_iconst (-20)) (xe_ireturn)))))
theorem bk_X10_review_109 : ck_ fX10 (some .int) cX10_review 109 [.aload 7, .iload 2, .iload 3, .iload 4, .iload 5, .iload 6] 119 = true := qck_r (nn_ _) (by decide +kernel)
theorem bs_X10_review_109 {P : Zt → Option Zv → Prop} (K : Int → Zl → List Zv → Zt → Prop) : sx_ K P [.aload 7, .iload 2, .iload 3, .iload 4, .iload 5, .iload 6] 119 = x_aload 7 (x_iload 2 (x_iload 3 (x_iload 4 (x_iload 5 (x_iload 6 (K 119)))))) := ((xe_aload 7).trans (congrArg (x_aload 7) ((xe_iload 2).trans (congrArg (x_iload 2) ((xe_iload 3).trans (congrArg (x_iload 3) ((xe_iload 4).trans (congrArg (x_iload 4) ((xe_iload 5).trans (congrArg (x_iload 5) ((xe_iload 6).trans (congrArg (x_iload 6) xe_nil))))))))))))
set_option maxRecDepth 100000 in
theorem cl_X10_315 : cv_ RX10 315 yX3_putInPlace zX3_putInPlace 3 5 := ⟨gi_V (lw_b5 175 (by decide +kernel) rfl : Cond.methodLink RX10 315 yX3_putInPlace ∈ lw_g) (lw_b5 176 (by decide +kernel) rfl : Cond.instanceMethod yX3_putInPlace ∈ lw_g) (lw_b5 177 (by decide +kernel) rfl : Cond.selects yX3_putInPlace.cls yX3_putInPlace yX3_putInPlace ∈ lw_g) (lw_b1 18 (by decide +kernel) rfl : Cond.initialized yX3_putInPlace.cls ∈ lw_g) (lw_b5 178 rfl rfl : Cond.code yX3_putInPlace cX3_putInPlace 6 none ∈ lw_g), ⟨by decide, by decide, by decide +kernel⟩, ⟨_, _, rfl⟩⟩
theorem bk_X10_review_122 : ck_ fX10 (some .int) cX10_review 122 [.aload 7] 124 = true := qck_r (nn_ _) (by decide +kernel)
theorem bs_X10_review_122 {P : Zt → Option Zv → Prop} (K : Int → Zl → List Zv → Zt → Prop) : sx_ K P [.aload 7] 124 = x_aload 7 (K 124) := ((xe_aload 7).trans (congrArg (x_aload 7) xe_nil))
set_option maxRecDepth 100000 in
theorem cl_X10_302 : cv_ RX10 302 yX3_runAnew zX3_runAnew 3 0 := ⟨gi_V (lw_b5 157 (by decide +kernel) rfl : Cond.methodLink RX10 302 yX3_runAnew ∈ lw_g) (lw_b5 158 (by decide +kernel) rfl : Cond.instanceMethod yX3_runAnew ∈ lw_g) (lw_b5 159 (by decide +kernel) rfl : Cond.selects yX3_runAnew.cls yX3_runAnew yX3_runAnew ∈ lw_g) (lw_b1 18 (by decide +kernel) rfl : Cond.initialized yX3_runAnew.cls ∈ lw_g) (lw_b5 160 rfl rfl : Cond.code yX3_runAnew cX3_runAnew 8 (some .int) ∈ lw_g), ⟨by decide, by decide, by decide +kernel⟩, ⟨_, _, rfl⟩⟩
theorem bk_X10_review_127 : ck_ fX10 (some .int) cX10_review 127 [.ireturn] 128 = true := qck_r (nn_ _) (by decide +kernel)
theorem bs_X10_review_127 {P : Zt → Option Zv → Prop} (K : Int → Zl → List Zv → Zt → Prop) : sx_ K P [.ireturn] 128 = x_ireturn P := (xe_ireturn)
set_option maxRecDepth 100000 in
theorem cl_X10_298 : cv_ RX10 298 yX3_takeOut zX3_takeOut 3 1 := ⟨gi_V (lw_b5 153 (by decide +kernel) rfl : Cond.methodLink RX10 298 yX3_takeOut ∈ lw_g) (lw_b5 154 (by decide +kernel) rfl : Cond.instanceMethod yX3_takeOut ∈ lw_g) (lw_b5 155 (by decide +kernel) rfl : Cond.selects yX3_takeOut.cls yX3_takeOut yX3_takeOut ∈ lw_g) (lw_b1 18 (by decide +kernel) rfl : Cond.initialized yX3_takeOut.cls ∈ lw_g) (lw_b5 156 rfl rfl : Cond.code yX3_takeOut cX3_takeOut 3 none ∈ lw_g), ⟨by decide, by decide, by decide +kernel⟩, ⟨_, _, rfl⟩⟩
theorem bk_X10_review_56 : ck_ fX10 (some .int) cX10_review 56 [.aload 7] 58 = true := qck_r (nn_ _) (by decide +kernel)
theorem bs_X10_review_56 {P : Zt → Option Zv → Prop} (K : Int → Zl → List Zv → Zt → Prop) : sx_ K P [.aload 7] 58 = x_aload 7 (K 58) := ((xe_aload 7).trans (congrArg (x_aload 7) xe_nil))
theorem bk_X10_review_61 : ck_ fX10 (some .int) cX10_review 61 [.ireturn] 62 = true := qck_r (nn_ _) (by decide +kernel)
theorem bs_X10_review_61 {P : Zt → Option Zv → Prop} (K : Int → Zl → List Zv → Zt → Prop) : sx_ K P [.ireturn] 62 = x_ireturn P := (xe_ireturn)
abbrev po_X10_review (T : Zt) (N : Int) (m i k s a b : Int) : Zt → Option Zv → Prop := fun T' r => ∃ x : Int, r = some (vI x) ∧ fr_ [(103, [3, 4, 5, 15, 16, 17]), (466, []), (467, []), (468, []), (469, []), (472, []), (473, []), (470, []), (471, []), (190, []), (191, [0])] T T' ∧ LP_ (N + 1) T' ∧ lh_ T T' ∧ T' 191 0 0 ≤ T 191 0 0 + 600
set_option maxHeartbeats 4000000 in
theorem ct_X10_review {T : Zt} {N : Int} {m i k s a b : Int} (hka : KA_ T) (hkm : KM_ T) (hkr : KR_ T) (hlp : LP_ N T) (hN : 0 ≤ N ∧ N ≤ 511) (h9 : 0 ≤ T 191 0 0 ∧ T 191 0 0 ≤ 900000000) : Ct_ yX10_review zX10_review T [vR 110 0, vI m, vI i, vI k, vI s, vI a, vI b] (po_X10_review T N m i k s a b) := by
  refine ct_of pn_10 rfl rfl (Nat.le_of_ble_eq_true rfl) (fun hT hav => ?_)
  have hr_m : -2147483648 ≤ m ∧ m ≤ 2147483647 := hav (vI m) (by simp)
  have hr_i : -2147483648 ≤ i ∧ i ≤ 2147483647 := hav (vI i) (by simp)
  have hr_k : -2147483648 ≤ k ∧ k ≤ 2147483647 := hav (vI k) (by simp)
  have hr_s : -2147483648 ≤ s ∧ s ≤ 2147483647 := hav (vI s) (by simp)
  have hr_a : -2147483648 ≤ a ∧ a ≤ 2147483647 := hav (vI a) (by simp)
  have hr_b : -2147483648 ≤ b ∧ b ≤ 2147483647 := hav (vI b) (by simp)
  have hz : zX10_review.2.2.2.1 = some .boolean → ∀ (T' : Zt) (x : Int), po_X10_review T N m i k s a b T' (some (vI x)) → 0 ≤ x ∧ x ≤ 1 := fun h => by cases h
  have hb_matchCount : 0 ≤ T 106 0 4 ∧ T 106 0 4 ≤ 400 := bd_f hT 106 4 (by decide +kernel : (tf_ 106)[4]? = some (0, 0, 0, 400)) 0
  show J_ zX10_review T (po_X10_review T N m i k s a b) 127 4064 0 [some (vR 110 0), some (vI m), some (vI i), some (vI k), some (vI s), some (vI a), some (vI b), none] [] T
  refine j_blx (F := fX10) tb_X10 (nn_ _) bk_X10_review_0 bs_X10_review_0 hz (fun K hK => ?_)
  refine hK 2 _ [vI m, vR 110 0] T ?_
  refine j_callV (y := yX10_isMatch) (Yc := zX10_isMatch) (rest := []) [vI m] (ct_X10_isMatch (T := T)) cl_X10_195 (qd_c (by decide +kernel)) (nn_ _) rfl (rf_of rfl) (Nat.le_of_ble_eq_true rfl) (Nat.le_of_ble_eq_true rfl) (Nat.le_of_ble_eq_true rfl) rfl ?_
  rintro _ _ ⟨rfl, x1, rfl, hx1⟩
  show J_ zX10_review T (po_X10_review T N m i k s a b) 127 4064 5 _ [vI x1] T
  refine j_blx (F := fX10) tb_X10 (nn_ _) bk_X10_review_5 bs_X10_review_5 hz (fun K hK => ?_)
  refine And.intro (fun c2 => ?_) (fun c2 => ?_)
  · refine hK 11 _ [] T ?_
    refine j_blx (F := fX10) tb_X10 (nn_ _) bk_X10_review_11 bs_X10_review_11 hz (fun K hK => ?_)
    refine ix_i (by omega) ?_
    refine And.intro (fun c3 => ?_) (fun c3 => ?_)
    · exact absurd (show T 523 0 (m) = 0 by omega) (hka.2 _ (by omega) (by omega))
    · refine And.intro (fun c4 => ?_) (fun c4 => ?_)
      · refine hK 42 [some (vR 110 0), some (vI m), some (vI i), some (vI k), some (vI s), some (vI a), some (vI b), some (vN)] [] T ?_
        refine j_blx (F := fX10) tb_X10 (nn_ _) bk_X10_review_42 bs_X10_review_42 hz (fun K hK => ?_)
        refine (show po_X10_review T N m i k s a b T (some (vI (-2))) from ?_)
        exact ⟨_, rfl, fr_0 _ _, LP_f (ws := []) hlp (by omega) lh_r (fr_0 _ _) ⟨rfl, rfl, rfl, rfl, rfl, rfl, rfl, rfl, rfl, rfl, rfl⟩, lh_r, by omega⟩
      · have hl := hlp m (by omega) (by omega) (by omega)
        obtain ⟨⟨a1, a2, a3, a4, a5, a6, a7, a8, a9⟩, b1, b2, b3⟩ := hl
        have hr := hkr _ a8 a9
        have z1 := lz_b b1
        have z2 := lz_b b2
        have g14 : (-2147483648) ≤ T 103 m 14 ∧ T 103 m 14 ≤ 2147483647 := bd_f hT 103 14 (by decide +kernel : (tf_ 103)[14]? = some (3, 190, (-2147483648), 2147483647)) m
        have g16 : (-2147483648) ≤ T 103 m 16 ∧ T 103 m 16 ≤ 2147483647 := bd_f hT 103 16 (by decide +kernel : (tf_ 103)[16]? = some (3, 190, (-2147483648), 2147483647)) m
        intro b5 b5b
        refine hK 36 [some (vR 110 0), some (vI m), some (vI i), some (vI k), some (vI s), some (vI a), some (vI b), some (vR 103 m)] [vI (T 103 m 15), vI i] T ?_
        refine j_callS (y := yX10_isBelow) (Yc := zX10_isBelow) (rest := []) [vI i, vI (T 103 m 15)] (ct_X10_isBelow (T := T)) cl_X10_115 (qd_c (by decide +kernel)) (nn_ _) rfl (rf_of rfl) (Nat.le_of_ble_eq_true rfl) (Nat.le_of_ble_eq_true rfl) (Nat.le_of_ble_eq_true rfl) rfl ?_
        rintro _ _ ⟨rfl, x6, rfl, hx6⟩
        show J_ zX10_review T (po_X10_review T N m i k s a b) 127 4064 39 _ [vI x6] T
        refine j_blx (F := fX10) tb_X10 (nn_ _) bk_X10_review_39 bs_X10_review_39 hz (fun K hK => ?_)
        refine And.intro (fun c7 => ?_) (fun c7 => ?_)
        · refine hK 45 _ [] T ?_
          refine j_blx (F := fX10) tb_X10 (nn_ _) bk_X10_review_45 bs_X10_review_45 hz (fun K hK => ?_)
          refine And.intro (fun c8 => ?_) (fun c8 => ?_)
          · refine hK 62 _ [] T ?_
            refine j_blx (F := fX10) tb_X10 (nn_ _) bk_X10_review_62 bs_X10_review_62 hz (fun K hK => ?_)
            refine hK 67 _ [vI s, vI k, vR 103 m] T ?_
            refine j_callV (y := yX3_isFormed) (Yc := zX3_isFormed) (rest := []) [vI k, vI s] (ct_X3_isFormed (T := T)) cl_X10_305 (qd_c (by decide +kernel)) (nn_ _) rfl (rf_of rfl) (Nat.le_of_ble_eq_true rfl) (Nat.le_of_ble_eq_true rfl) (Nat.le_of_ble_eq_true rfl) rfl ?_
            rintro _ _ ⟨rfl, x9, rfl, hx9⟩
            show J_ zX10_review T (po_X10_review T N m i k s a b) 127 4064 70 _ [vI x9] T
            refine j_blx (F := fX10) tb_X10 (nn_ _) bk_X10_review_70 bs_X10_review_70 hz (fun K hK => ?_)
            refine And.intro (fun c10 => ?_) (fun c10 => ?_)
            · refine hK 76 _ [] T ?_
              refine j_blx (F := fX10) tb_X10 (nn_ _) bk_X10_review_76 bs_X10_review_76 hz (fun K hK => ?_)
              refine hK 81 _ [vI b, vI k, vR 103 m] T ?_
              refine j_callV (y := yX3_isBounded) (Yc := zX3_isBounded) (rest := []) [vI k, vI b] (ct_X3_isBounded (T := T)) cl_X10_308 (qd_c (by decide +kernel)) (nn_ _) rfl (rf_of rfl) (Nat.le_of_ble_eq_true rfl) (Nat.le_of_ble_eq_true rfl) (Nat.le_of_ble_eq_true rfl) rfl ?_
              rintro _ _ ⟨rfl, x11, rfl, hx11⟩
              show J_ zX10_review T (po_X10_review T N m i k s a b) 127 4064 84 _ [vI x11] T
              refine j_blx (F := fX10) tb_X10 (nn_ _) bk_X10_review_84 bs_X10_review_84 hz (fun K hK => ?_)
              refine And.intro (fun c12 => ?_) (fun c12 => ?_)
              · refine hK 90 _ [] T ?_
                refine j_blx (F := fX10) tb_X10 (nn_ _) bk_X10_review_90 bs_X10_review_90 hz (fun K hK => ?_)
                refine hK 100 _ [vI b, vI a, vI s, vI k, vI i, vR 103 m] T ?_
                refine j_callV (y := yX3_isSameRow) (Yc := zX3_isSameRow) (rest := []) [vI i, vI k, vI s, vI a, vI b] (ct_X3_isSameRow (T := T) (by omega)) cl_X10_311 (qd_c (by decide +kernel)) (nn_ _) rfl (rf_of rfl) (Nat.le_of_ble_eq_true rfl) (Nat.le_of_ble_eq_true rfl) (Nat.le_of_ble_eq_true rfl) rfl ?_
                rintro _ _ ⟨rfl, x13, rfl, hx13⟩
                show J_ zX10_review T (po_X10_review T N m i k s a b) 127 4064 103 _ [vI x13] T
                refine j_blx (F := fX10) tb_X10 (nn_ _) bk_X10_review_103 bs_X10_review_103 hz (fun K hK => ?_)
                refine And.intro (fun c14 => ?_) (fun c14 => ?_)
                · refine hK 109 _ [] T ?_
                  refine j_blx (F := fX10) tb_X10 (nn_ _) bk_X10_review_109 bs_X10_review_109 hz (fun K hK => ?_)
                  refine hK 119 _ [vI b, vI a, vI s, vI k, vI i, vR 103 m] T ?_
                  refine j_callV (y := yX3_putInPlace) (Yc := zX3_putInPlace) (rest := []) [vI i, vI k, vI s, vI a, vI b] (ct_X3_putInPlace (T := T) (by omega)) cl_X10_315 (qd_c (by decide +kernel)) (nn_ _) rfl (rf_of rfl) (Nat.le_of_ble_eq_true rfl) (Nat.le_of_ble_eq_true rfl) (Nat.le_of_ble_eq_true rfl) rfl ?_
                  rintro U15 _ ⟨rfl, fU15, lU15⟩
                  show J_ zX10_review T (po_X10_review T N m i k s a b) 127 4064 122 _ [] U15
                  refine j_blx (F := fX10) tb_X10 (nn_ _) bk_X10_review_122 bs_X10_review_122 hz (fun K hK => ?_)
                  refine hK 124 _ [vR 103 m] U15 ?_
                  have e17 : U15 103 m 0 = T 103 m 0 := fU15 103 m 0 rfl
                  have e18 : U15 401 (T 103 m 0) 9 = T 401 (T 103 m 0) 9 := fU15 401 (T 103 m 0) 9 rfl
                  have r19 : U15 401 (U15 103 m 0) 9 = T 401 (T 103 m 0) 9 := by rw [e17]; exact e18
                  have e20 : U15 103 m 15 = T 103 m 15 := fU15 103 m 15 rfl
                  have e21 : U15 103 m 17 = T 103 m 17 := fU15 103 m 17 rfl
                  have e22 : U15 103 m 14 = T 103 m 14 := fU15 103 m 14 rfl
                  have e23 : U15 103 m 16 = T 103 m 16 := fU15 103 m 16 rfl
                  have e24 : U15 191 0 0 = T 191 0 0 := fU15 191 0 0 rfl
                  have e25 : U15 103 m 14 = T 103 m 14 := fU15 103 m 14 rfl
                  have w1 : U15 190 (U15 103 m 14) (-2) = T 190 (T 103 m 14) (-2) := by rw [e25]; exact lU15 _
                  have e26 : U15 103 m 16 = T 103 m 16 := fU15 103 m 16 rfl
                  have w2 : U15 190 (U15 103 m 16) (-2) = T 190 (T 103 m 16) (-2) := by rw [e26]; exact lU15 _
                  refine j_callV (y := yX3_runAnew) (Yc := zX3_runAnew) (rest := []) [] (ct_X3_runAnew (T := U15) (by omega) (by omega) (by omega) (by rw [w2]; exact b2) (by omega)) cl_X10_302 (qd_c (by decide +kernel)) (nn_ _) rfl (rf_of rfl) (Nat.le_of_ble_eq_true rfl) (Nat.le_of_ble_eq_true rfl) (Nat.le_of_ble_eq_true rfl) rfl ?_
                  rintro U27 _ ⟨x28, rfl, fU27, qU27o, lU27, nU27, mU27, zU27, kU27, qU27⟩
                  show J_ zX10_review T (po_X10_review T N m i k s a b) 0 0 127 _ [vI x28] U27
                  refine j_blx (F := fX10) tb_X10 (nn_ _) bk_X10_review_127 bs_X10_review_127 hz (fun K hK => ?_)
                  refine (show po_X10_review T N m i k s a b U27 (some (vI x28)) from ?_)
                  have e29 : U27 103 m 0 = T 103 m 0 := (fU27 103 m 0 rfl).trans (fU15 103 m 0 rfl)
                  have e30 : U27 103 m 14 = T 103 m 14 := (fU27 103 m 14 rfl).trans (fU15 103 m 14 rfl)
                  have e31 : U15 103 m 15 = T 103 m 15 := fU15 103 m 15 rfl
                  have e32 : U15 103 m 17 = T 103 m 17 := fU15 103 m 17 rfl
                  have e33 : U15 103 m 14 = T 103 m 14 := fU15 103 m 14 rfl
                  have e34 : U15 103 m 16 = T 103 m 16 := fU15 103 m 16 rfl
                  have e35 : U27 106 0 4 = T 106 0 4 := (fU27 106 0 4 rfl).trans (fU15 106 0 4 rfl)
                  have e36 : U27 106 0 2 = T 106 0 2 := (fU27 106 0 2 rfl).trans (fU15 106 0 2 rfl)
                  have e37 : U15 191 0 0 = T 191 0 0 := fU15 191 0 0 rfl
                  have e38 : U27 103 m 14 = T 103 m 14 := (fU27 103 m 14 rfl).trans (fU15 103 m 14 rfl)
                  have d0 : U27 103 m 14 = U15 103 m 14 := fU27 103 m 14 rfl
                  have d1 : U27 190 (U27 103 m 14) (-2) = T 190 (T 103 m 14) (-2) := by rw [e38]; exact (lU27 _ (by omega)).trans (lU15 _)
                  have d5 : U27 190 (U15 103 m 14) (-2) = T 190 (T 103 m 14) (-2) := by rw [show U15 103 m 14 = T 103 m 14 by omega]; exact (lU27 _ (by omega)).trans (lU15 _)
                  have d2 : lh_ T U27 := ⟨fun x hx => (lU27 x (by omega)).trans (lU15 _), by omega⟩
                  have d3 : ∀ k i j, i ≠ m → k ≠ 190 → k ≠ 191 → k ≠ 106 → U27 k i j = T k i j := fun k i j a b c d => (qU27o k i j a b c).trans (fU15 k i j (by simp [fw_, b]))
                  have d4 : Lp_ (N + 1) U27 m := ⟨⟨by omega, by omega, by omega, by omega, by omega, by omega, by omega, by omega, by omega⟩, by rw [d1]; exact b1, zU27, qU27⟩
                  exact ⟨_, rfl, fr_t (fr_t (fr_0 _ _) (fr_s fU15 rfl)) (fr_s fU27 rfl), LP_q hlp (by omega) d2 d3 (by omega) (by omega) (fun _ => d4), d2, by omega⟩
                · refine (show po_X10_review T N m i k s a b T (some (vI (-20))) from ?_)
                  exact ⟨_, rfl, fr_0 _ _, LP_f (ws := []) hlp (by omega) lh_r (fr_0 _ _) ⟨rfl, rfl, rfl, rfl, rfl, rfl, rfl, rfl, rfl, rfl, rfl⟩, lh_r, by omega⟩
              · refine (show po_X10_review T N m i k s a b T (some (vI (-17))) from ?_)
                exact ⟨_, rfl, fr_0 _ _, LP_f (ws := []) hlp (by omega) lh_r (fr_0 _ _) ⟨rfl, rfl, rfl, rfl, rfl, rfl, rfl, rfl, rfl, rfl, rfl⟩, lh_r, by omega⟩
            · refine (show po_X10_review T N m i k s a b T (some (vI (-12))) from ?_)
              exact ⟨_, rfl, fr_0 _ _, LP_f (ws := []) hlp (by omega) lh_r (fr_0 _ _) ⟨rfl, rfl, rfl, rfl, rfl, rfl, rfl, rfl, rfl, rfl, rfl⟩, lh_r, by omega⟩
          · refine hK 53 _ [vI i, vR 103 m] T ?_
            refine j_callV (y := yX3_takeOut) (Yc := zX3_takeOut) (rest := []) [vI i] (ct_X3_takeOut (T := T) (by omega)) cl_X10_298 (qd_c (by decide +kernel)) (nn_ _) rfl (rf_of rfl) (Nat.le_of_ble_eq_true rfl) (Nat.le_of_ble_eq_true rfl) (Nat.le_of_ble_eq_true rfl) rfl ?_
            rintro U39 _ ⟨rfl, fU39, qU39o, nU39, lU39⟩
            show J_ zX10_review T (po_X10_review T N m i k s a b) 127 4064 56 _ [] U39
            refine j_blx (F := fX10) tb_X10 (nn_ _) bk_X10_review_56 bs_X10_review_56 hz (fun K hK => ?_)
            refine hK 58 _ [vR 103 m] U39 ?_
            have e41 : U39 103 m 0 = T 103 m 0 := fU39 103 m 0 rfl
            have e42 : U39 401 (T 103 m 0) 9 = T 401 (T 103 m 0) 9 := fU39 401 (T 103 m 0) 9 rfl
            have r43 : U39 401 (U39 103 m 0) 9 = T 401 (T 103 m 0) 9 := by rw [e41]; exact e42
            have e44 : U39 103 m 17 = T 103 m 17 := fU39 103 m 17 rfl
            have e45 : U39 103 m 14 = T 103 m 14 := fU39 103 m 14 rfl
            have e46 : U39 103 m 16 = T 103 m 16 := fU39 103 m 16 rfl
            have e47 : U39 191 0 0 = T 191 0 0 := fU39 191 0 0 rfl
            have e48 : U39 103 m 14 = T 103 m 14 := fU39 103 m 14 rfl
            have w1 : U39 190 (U39 103 m 14) (-2) = T 190 (T 103 m 14) (-2) := by rw [e48]; exact lU39 _
            have e49 : U39 103 m 16 = T 103 m 16 := fU39 103 m 16 rfl
            have w2 : U39 190 (U39 103 m 16) (-2) = T 190 (T 103 m 16) (-2) := by rw [e49]; exact lU39 _
            refine j_callV (y := yX3_runAnew) (Yc := zX3_runAnew) (rest := []) [] (ct_X3_runAnew (T := U39) (by omega) (by omega) (by omega) (by rw [w2]; exact b2) (by omega)) cl_X10_302 (qd_c (by decide +kernel)) (nn_ _) rfl (rf_of rfl) (Nat.le_of_ble_eq_true rfl) (Nat.le_of_ble_eq_true rfl) (Nat.le_of_ble_eq_true rfl) rfl ?_
            rintro U50 _ ⟨x51, rfl, fU50, qU50o, lU50, nU50, mU50, zU50, kU50, qU50⟩
            show J_ zX10_review T (po_X10_review T N m i k s a b) 0 0 61 _ [vI x51] U50
            refine j_blx (F := fX10) tb_X10 (nn_ _) bk_X10_review_61 bs_X10_review_61 hz (fun K hK => ?_)
            refine (show po_X10_review T N m i k s a b U50 (some (vI x51)) from ?_)
            have e52 : U50 103 m 0 = T 103 m 0 := (fU50 103 m 0 rfl).trans (fU39 103 m 0 rfl)
            have e53 : U50 103 m 14 = T 103 m 14 := (fU50 103 m 14 rfl).trans (fU39 103 m 14 rfl)
            have e54 : U39 103 m 17 = T 103 m 17 := fU39 103 m 17 rfl
            have e55 : U39 103 m 14 = T 103 m 14 := fU39 103 m 14 rfl
            have e56 : U39 103 m 16 = T 103 m 16 := fU39 103 m 16 rfl
            have e57 : U50 106 0 4 = T 106 0 4 := (fU50 106 0 4 rfl).trans (fU39 106 0 4 rfl)
            have e58 : U50 106 0 2 = T 106 0 2 := (fU50 106 0 2 rfl).trans (fU39 106 0 2 rfl)
            have e59 : U39 191 0 0 = T 191 0 0 := fU39 191 0 0 rfl
            have e60 : U50 103 m 14 = T 103 m 14 := (fU50 103 m 14 rfl).trans (fU39 103 m 14 rfl)
            have d0 : U50 103 m 14 = U39 103 m 14 := fU50 103 m 14 rfl
            have d1 : U50 190 (U50 103 m 14) (-2) = T 190 (T 103 m 14) (-2) := by rw [e60]; exact (lU50 _ (by omega)).trans (lU39 _)
            have d5 : U50 190 (U39 103 m 14) (-2) = T 190 (T 103 m 14) (-2) := by rw [show U39 103 m 14 = T 103 m 14 by omega]; exact (lU50 _ (by omega)).trans (lU39 _)
            have d2 : lh_ T U50 := ⟨fun x hx => (lU50 x (by omega)).trans (lU39 _), by omega⟩
            have d3 : ∀ k i j, i ≠ m → k ≠ 190 → k ≠ 191 → k ≠ 106 → U50 k i j = T k i j := fun k i j a b c d => (qU50o k i j a b c).trans (qU39o k i j a b c)
            have d4 : Lp_ (N + 1) U50 m := ⟨⟨by omega, by omega, by omega, by omega, by omega, by omega, by omega, by omega, by omega⟩, by rw [d1]; exact b1, zU50, qU50⟩
            exact ⟨_, rfl, fr_t (fr_t (fr_0 _ _) (fr_s fU39 rfl)) (fr_s fU50 rfl), LP_q hlp (by omega) d2 d3 (by omega) (by omega) (fun _ => d4), d2, by omega⟩
        · refine (show po_X10_review T N m i k s a b T (some (vI (-2))) from ?_)
          exact ⟨_, rfl, fr_0 _ _, LP_f (ws := []) hlp (by omega) lh_r (fr_0 _ _) ⟨rfl, rfl, rfl, rfl, rfl, rfl, rfl, rfl, rfl, rfl, rfl⟩, lh_r, by omega⟩
  · refine (show po_X10_review T N m i k s a b T (some (vI (-2))) from ?_)
    exact ⟨_, rfl, fr_0 _ _, LP_f (ws := []) hlp (by omega) lh_r (fr_0 _ _) ⟨rfl, rfl, rfl, rfl, rfl, rfl, rfl, rfl, rfl, rfl, rfl⟩, lh_r, by omega⟩
abbrev cX10_row : ByteArray := prog_1_method_26_code
def yX10_row : MethodName := ⟨RX10, "row", "(III)I"⟩
def zX10_row : Zm := (RX10, cX10_row, 7, (some .int), { frames := 2, cells := 0, slots := 0, locals := 42 })
theorem bk_X10_row_0 : ck_ fX10 (some .int) cX10_row 0 [.aload 0, .iload 1] 2 = true := qck_r (nn_ _) (by decide +kernel)
theorem bs_X10_row_0 {P : Zt → Option Zv → Prop} (K : Int → Zl → List Zv → Zt → Prop) : sx_ K P [.aload 0, .iload 1] 2 = x_aload 0 (x_iload 1 (K 2)) := ((xe_aload 0).trans (congrArg (x_aload 0) ((xe_iload 1).trans (congrArg (x_iload 1) xe_nil))))
theorem bk_X10_row_5 : ck_ fX10 (some .int) cX10_row 5 [.ifCond .ne 11, .iconst (-2), .ireturn] 11 = true := qck_r (nn_ _) (by decide +kernel)
theorem bs_X10_row_5 {P : Zt → Option Zv → Prop} (K : Int → Zl → List Zv → Zt → Prop) : sx_ K P [.ifCond .ne 11, .iconst (-2), .ireturn] 11 = x_ifCond .ne 11 K (x_iconst (-2) (x_ireturn P)) := ((xe_ifCond .ne 11).trans (congrArg (x_ifCond .ne 11 K) ((xe_iconst (-2)).trans (congrArg (x_iconst (-2)) (xe_ireturn)))))
theorem bk_X10_row_11 : ck_ fX10 (some .int) cX10_row 11 [.aload 0, .tableswitch 0 10 2 #[], .tableswitch 0 6 3 #[], .iload 1, .aaload, .tableswitch 0 2 10 #[], .astore 4, .aload 4, .ifnonnull 33, .iconst (-2), .ireturn] 33 = true := qck_r (nn_ _) (by decide +kernel)
theorem bs_X10_row_11 {P : Zt → Option Zv → Prop} (K : Int → Zl → List Zv → Zt → Prop) : sx_ K P [.aload 0, .tableswitch 0 10 2 #[], .tableswitch 0 6 3 #[], .iload 1, .aaload, .tableswitch 0 2 10 #[], .astore 4, .aload 4, .ifnonnull 33, .iconst (-2), .ireturn] 33 = x_aload 0 (x_g1 110 106 (x_g1 106 523 (x_iload 1 (x_aaload (x_g4 102 103 10 (x_astore 4 (x_aload 4 (x_ifnonnull 33 K (x_iconst (-2) (x_ireturn P)))))))))) := ((xe_aload 0).trans (congrArg (x_aload 0) ((xe_g1 (kk := 110) rfl tl_10_2).trans (congrArg (x_g1 110 106) ((xe_g1 (kk := 106) rfl tl_6_3).trans (congrArg (x_g1 106 523) ((xe_iload 1).trans (congrArg (x_iload 1) ((xe_aaload).trans (congrArg (x_aaload) ((xe_g4 (kk := 102) rfl tl_2_10).trans (congrArg (x_g4 102 103 10) ((xe_astore 4).trans (congrArg (x_astore 4) ((xe_aload 4).trans (congrArg (x_aload 4) ((xe_ifnonnull 33).trans (congrArg (x_ifnonnull 33 K) ((xe_iconst (-2)).trans (congrArg (x_iconst (-2)) (xe_ireturn)))))))))))))))))))))
theorem bk_X10_row_33 : ck_ fX10 (some .int) cX10_row 33 [.iload 2, .aload 4, .tableswitch 0 3 15 #[]] 39 = true := qck_r (nn_ _) (by decide +kernel)
theorem bs_X10_row_33 {P : Zt → Option Zv → Prop} (K : Int → Zl → List Zv → Zt → Prop) : sx_ K P [.iload 2, .aload 4, .tableswitch 0 3 15 #[]] 39 = x_iload 2 (x_aload 4 (x_g0 103 15 0 3000 (K 39))) := ((xe_iload 2).trans (congrArg (x_iload 2) ((xe_aload 4).trans (congrArg (x_aload 4) ((xe_g0 (kk := 103) rfl tl_3_15).trans (congrArg (x_g0 103 15 0 3000) xe_nil))))))
theorem bk_X10_row_42 : ck_ fX10 (some .int) cX10_row 42 [.istore 5, .iload 2, .aload 4, .tableswitch 0 3 17 #[]] 50 = true := qck_r (nn_ _) (by decide +kernel)
theorem bs_X10_row_42 {P : Zt → Option Zv → Prop} (K : Int → Zl → List Zv → Zt → Prop) : sx_ K P [.istore 5, .iload 2, .aload 4, .tableswitch 0 3 17 #[]] 50 = x_istore 5 (x_iload 2 (x_aload 4 (x_g0 103 17 0 3000 (K 50)))) := ((xe_istore 5).trans (congrArg (x_istore 5) ((xe_iload 2).trans (congrArg (x_iload 2) ((xe_aload 4).trans (congrArg (x_aload 4) ((xe_g0 (kk := 103) rfl tl_3_17).trans (congrArg (x_g0 103 17 0 3000) xe_nil))))))))
theorem bk_X10_row_53 : ck_ fX10 (some .int) cX10_row 53 [.istore 6, .iload 3, .ifCond .lt 65, .iload 3, .iconst 7, .if_icmp .le 83, .iload 5, .ifCond .ne 75, .iload 6, .ifCond .eq 80, .iconst (-3), .goto 82] 80 = true := qck_r (nn_ _) (by decide +kernel)
theorem bs_X10_row_53 {P : Zt → Option Zv → Prop} (K : Int → Zl → List Zv → Zt → Prop) : sx_ K P [.istore 6, .iload 3, .ifCond .lt 65, .iload 3, .iconst 7, .if_icmp .le 83, .iload 5, .ifCond .ne 75, .iload 6, .ifCond .eq 80, .iconst (-3), .goto 82] 80 = x_istore 6 (x_iload 3 (x_ifCond .lt 65 K (x_iload 3 (x_iconst 7 (x_if_icmp .le 83 K (x_iload 5 (x_ifCond .ne 75 K (x_iload 6 (x_ifCond .eq 80 K (x_iconst (-3) (x_goto 82 K))))))))))) := ((xe_istore 6).trans (congrArg (x_istore 6) ((xe_iload 3).trans (congrArg (x_iload 3) ((xe_ifCond .lt 65).trans (congrArg (x_ifCond .lt 65 K) ((xe_iload 3).trans (congrArg (x_iload 3) ((xe_iconst 7).trans (congrArg (x_iconst 7) ((xe_if_icmp .le 83).trans (congrArg (x_if_icmp .le 83 K) ((xe_iload 5).trans (congrArg (x_iload 5) ((xe_ifCond .ne 75).trans (congrArg (x_ifCond .ne 75 K) ((xe_iload 6).trans (congrArg (x_iload 6) ((xe_ifCond .eq 80).trans (congrArg (x_ifCond .eq 80 K) ((xe_iconst (-3)).trans (congrArg (x_iconst (-3)) (xe_goto 82)))))))))))))))))))))))
theorem bk_X10_row_65 : ck_ fX10 (some .int) cX10_row 65 [.iload 5, .ifCond .ne 75, .iload 6, .ifCond .eq 80, .iconst (-3), .goto 82] 80 = true := qck_r (nn_ _) (by decide +kernel)
theorem bs_X10_row_65 {P : Zt → Option Zv → Prop} (K : Int → Zl → List Zv → Zt → Prop) : sx_ K P [.iload 5, .ifCond .ne 75, .iload 6, .ifCond .eq 80, .iconst (-3), .goto 82] 80 = x_iload 5 (x_ifCond .ne 75 K (x_iload 6 (x_ifCond .eq 80 K (x_iconst (-3) (x_goto 82 K))))) := ((xe_iload 5).trans (congrArg (x_iload 5) ((xe_ifCond .ne 75).trans (congrArg (x_ifCond .ne 75 K) ((xe_iload 6).trans (congrArg (x_iload 6) ((xe_ifCond .eq 80).trans (congrArg (x_ifCond .eq 80 K) ((xe_iconst (-3)).trans (congrArg (x_iconst (-3)) (xe_goto 82)))))))))))
theorem bk_X10_row_75 : ck_ fX10 (some .int) cX10_row 75 [.iconst (-3), .goto 82] 80 = true := qck_r (nn_ _) (by decide +kernel)
theorem bs_X10_row_75 {P : Zt → Option Zv → Prop} (K : Int → Zl → List Zv → Zt → Prop) : sx_ K P [.iconst (-3), .goto 82] 80 = x_iconst (-3) (x_goto 82 K) := ((xe_iconst (-3)).trans (congrArg (x_iconst (-3)) (xe_goto 82)))
theorem bk_X10_row_82 : ck_ fX10 (some .int) cX10_row 82 [.ireturn] 83 = true := qck_r (nn_ _) (by decide +kernel)
theorem bs_X10_row_82 {P : Zt → Option Zv → Prop} (K : Int → Zl → List Zv → Zt → Prop) : sx_ K P [.ireturn] 83 = x_ireturn P := (xe_ireturn)
theorem bk_X10_row_80 : ck_ fX10 (some .int) cX10_row 80 [.iconst (-2), .ireturn] 83 = true := qck_r (nn_ _) (by decide +kernel)
theorem bs_X10_row_80 {P : Zt → Option Zv → Prop} (K : Int → Zl → List Zv → Zt → Prop) : sx_ K P [.iconst (-2), .ireturn] 83 = x_iconst (-2) (x_ireturn P) := ((xe_iconst (-2)).trans (congrArg (x_iconst (-2)) (xe_ireturn)))
theorem bk_X10_row_83 : ck_ fX10 (some .int) cX10_row 83 [.iload 3, .iconst 4, .if_icmp .ge 110, .iload 5, .ifCond .eq 107, .aload 4, .tableswitch 0 3 14 #[], .iload 2, .iconst 4, .imul, .iload 3, .iadd, .iaload, .goto 109] 107 = true := qck_r (nn_ _) (by decide +kernel)
theorem bs_X10_row_83 {P : Zt → Option Zv → Prop} (K : Int → Zl → List Zv → Zt → Prop) : sx_ K P [.iload 3, .iconst 4, .if_icmp .ge 110, .iload 5, .ifCond .eq 107, .aload 4, .tableswitch 0 3 14 #[], .iload 2, .iconst 4, .imul, .iload 3, .iadd, .iaload, .goto 109] 107 = x_iload 3 (x_iconst 4 (x_if_icmp .ge 110 K (x_iload 5 (x_ifCond .eq 107 K (x_aload 4 (x_g3 103 190 14 (x_iload 2 (x_iconst 4 (x_imul (x_iload 3 (x_iadd (x_iaload (x_goto 109 K))))))))))))) := ((xe_iload 3).trans (congrArg (x_iload 3) ((xe_iconst 4).trans (congrArg (x_iconst 4) ((xe_if_icmp .ge 110).trans (congrArg (x_if_icmp .ge 110 K) ((xe_iload 5).trans (congrArg (x_iload 5) ((xe_ifCond .eq 107).trans (congrArg (x_ifCond .eq 107 K) ((xe_aload 4).trans (congrArg (x_aload 4) ((xe_g3 (kk := 103) rfl tl_3_14).trans (congrArg (x_g3 103 190 14) ((xe_iload 2).trans (congrArg (x_iload 2) ((xe_iconst 4).trans (congrArg (x_iconst 4) ((xe_imul).trans (congrArg (x_imul) ((xe_iload 3).trans (congrArg (x_iload 3) ((xe_iadd).trans (congrArg (x_iadd) ((xe_iaload).trans (congrArg (x_iaload) (xe_goto 109)))))))))))))))))))))))))))
theorem bk_X10_row_110 : ck_ fX10 (some .int) cX10_row 110 [.iload 6, .ifCond .eq 131, .aload 4, .tableswitch 0 3 16 #[], .iload 2, .iconst 4, .imul, .iload 3, .iadd, .iconst 4, .isub, .iaload, .goto 133] 131 = true := qck_r (nn_ _) (by decide +kernel)
theorem bs_X10_row_110 {P : Zt → Option Zv → Prop} (K : Int → Zl → List Zv → Zt → Prop) : sx_ K P [.iload 6, .ifCond .eq 131, .aload 4, .tableswitch 0 3 16 #[], .iload 2, .iconst 4, .imul, .iload 3, .iadd, .iconst 4, .isub, .iaload, .goto 133] 131 = x_iload 6 (x_ifCond .eq 131 K (x_aload 4 (x_g3 103 190 16 (x_iload 2 (x_iconst 4 (x_imul (x_iload 3 (x_iadd (x_iconst 4 (x_isub (x_iaload (x_goto 133 K)))))))))))) := ((xe_iload 6).trans (congrArg (x_iload 6) ((xe_ifCond .eq 131).trans (congrArg (x_ifCond .eq 131 K) ((xe_aload 4).trans (congrArg (x_aload 4) ((xe_g3 (kk := 103) rfl tl_3_16).trans (congrArg (x_g3 103 190 16) ((xe_iload 2).trans (congrArg (x_iload 2) ((xe_iconst 4).trans (congrArg (x_iconst 4) ((xe_imul).trans (congrArg (x_imul) ((xe_iload 3).trans (congrArg (x_iload 3) ((xe_iadd).trans (congrArg (x_iadd) ((xe_iconst 4).trans (congrArg (x_iconst 4) ((xe_isub).trans (congrArg (x_isub) ((xe_iaload).trans (congrArg (x_iaload) (xe_goto 133)))))))))))))))))))))))))
theorem bk_X10_row_131 : ck_ fX10 (some .int) cX10_row 131 [.iconst (-2), .ireturn] 134 = true := qck_r (nn_ _) (by decide +kernel)
theorem bs_X10_row_131 {P : Zt → Option Zv → Prop} (K : Int → Zl → List Zv → Zt → Prop) : sx_ K P [.iconst (-2), .ireturn] 134 = x_iconst (-2) (x_ireturn P) := ((xe_iconst (-2)).trans (congrArg (x_iconst (-2)) (xe_ireturn)))
theorem bk_X10_row_133 : ck_ fX10 (some .int) cX10_row 133 [.ireturn] 134 = true := qck_r (nn_ _) (by decide +kernel)
theorem bs_X10_row_133 {P : Zt → Option Zv → Prop} (K : Int → Zl → List Zv → Zt → Prop) : sx_ K P [.ireturn] 134 = x_ireturn P := (xe_ireturn)
theorem bk_X10_row_107 : ck_ fX10 (some .int) cX10_row 107 [.iconst (-2), .ireturn] 110 = true := qck_r (nn_ _) (by decide +kernel)
theorem bs_X10_row_107 {P : Zt → Option Zv → Prop} (K : Int → Zl → List Zv → Zt → Prop) : sx_ K P [.iconst (-2), .ireturn] 110 = x_iconst (-2) (x_ireturn P) := ((xe_iconst (-2)).trans (congrArg (x_iconst (-2)) (xe_ireturn)))
theorem bk_X10_row_109 : ck_ fX10 (some .int) cX10_row 109 [.ireturn] 110 = true := qck_r (nn_ _) (by decide +kernel)
theorem bs_X10_row_109 {P : Zt → Option Zv → Prop} (K : Int → Zl → List Zv → Zt → Prop) : sx_ K P [.ireturn] 110 = x_ireturn P := (xe_ireturn)
abbrev po_X10_row (T : Zt) (N : Int) (m i w : Int) : Zt → Option Zv → Prop := fun T' r => T = T' ∧ ∃ x : Int, r = some (vI x) ∧ (True)
set_option maxHeartbeats 4000000 in
theorem ct_X10_row {T : Zt} {N : Int} {m i w : Int} (hka : KA_ T) (hkm : KM_ T) (hkr : KR_ T) (hlp : LP_ N T) (hN : 0 ≤ N ∧ N ≤ 511) (h9 : 0 ≤ T 191 0 0 ∧ T 191 0 0 ≤ 900000000) : Ct_ yX10_row zX10_row T [vR 110 0, vI m, vI i, vI w] (po_X10_row T N m i w) := by
  refine ct_of pn_10 rfl rfl (Nat.le_of_ble_eq_true rfl) (fun hT hav => ?_)
  have hr_m : -2147483648 ≤ m ∧ m ≤ 2147483647 := hav (vI m) (by simp)
  have hr_i : -2147483648 ≤ i ∧ i ≤ 2147483647 := hav (vI i) (by simp)
  have hr_w : -2147483648 ≤ w ∧ w ≤ 2147483647 := hav (vI w) (by simp)
  have hz : zX10_row.2.2.2.1 = some .boolean → ∀ (T' : Zt) (x : Int), po_X10_row T N m i w T' (some (vI x)) → 0 ≤ x ∧ x ≤ 1 := fun h => by cases h
  have hb_matchCount : 0 ≤ T 106 0 4 ∧ T 106 0 4 ≤ 400 := bd_f hT 106 4 (by decide +kernel : (tf_ 106)[4]? = some (0, 0, 0, 400)) 0
  show J_ zX10_row T (po_X10_row T N m i w) 0 0 0 [some (vR 110 0), some (vI m), some (vI i), some (vI w), none, none, none] [] T
  refine j_blx (F := fX10) tb_X10 (nn_ _) bk_X10_row_0 bs_X10_row_0 hz (fun K hK => ?_)
  refine hK 2 _ [vI m, vR 110 0] T ?_
  refine j_callV (y := yX10_isMatch) (Yc := zX10_isMatch) (rest := []) [vI m] (ct_X10_isMatch (T := T)) cl_X10_195 (qd_c (by decide +kernel)) (nn_ _) rfl (rf_of rfl) (Nat.le_of_ble_eq_true rfl) (Nat.le_of_ble_eq_true rfl) (Nat.le_of_ble_eq_true rfl) rfl ?_
  rintro _ _ ⟨rfl, x1, rfl, hx1⟩
  show J_ zX10_row T (po_X10_row T N m i w) 0 0 5 _ [vI x1] T
  refine j_blx (F := fX10) tb_X10 (nn_ _) bk_X10_row_5 bs_X10_row_5 hz (fun K hK => ?_)
  refine And.intro (fun c2 => ?_) (fun c2 => ?_)
  · refine hK 11 _ [] T ?_
    refine j_blx (F := fX10) tb_X10 (nn_ _) bk_X10_row_11 bs_X10_row_11 hz (fun K hK => ?_)
    refine ix_i (by omega) ?_
    refine And.intro (fun c3 => ?_) (fun c3 => ?_)
    · exact absurd (show T 523 0 (m) = 0 by omega) (hka.2 _ (by omega) (by omega))
    · refine And.intro (fun c4 => ?_) (fun c4 => ?_)
      · refine (show po_X10_row T N m i w T (some (vI (-2))) from ?_)
        exact ⟨rfl, _, rfl, by trivial⟩
      · have hl := hlp m (by omega) (by omega) (by omega)
        obtain ⟨⟨a1, a2, a3, a4, a5, a6, a7, a8, a9⟩, b1, b2, b3⟩ := hl
        have hr := hkr _ a8 a9
        have z1 := lz_b b1
        have z2 := lz_b b2
        have g14 : (-2147483648) ≤ T 103 m 14 ∧ T 103 m 14 ≤ 2147483647 := bd_f hT 103 14 (by decide +kernel : (tf_ 103)[14]? = some (3, 190, (-2147483648), 2147483647)) m
        have g16 : (-2147483648) ≤ T 103 m 16 ∧ T 103 m 16 ≤ 2147483647 := bd_f hT 103 16 (by decide +kernel : (tf_ 103)[16]? = some (3, 190, (-2147483648), 2147483647)) m
        refine hK 33 [some (vR 110 0), some (vI m), some (vI i), some (vI w), some (vR 103 m), none, none] [] T ?_
        refine j_blx (F := fX10) tb_X10 (nn_ _) bk_X10_row_33 bs_X10_row_33 hz (fun K hK => ?_)
        intro b5 b5b
        refine hK 39 _ [vI (T 103 m 15), vI i] T ?_
        refine j_callS (y := yX10_isBelow) (Yc := zX10_isBelow) (rest := []) [vI i, vI (T 103 m 15)] (ct_X10_isBelow (T := T)) cl_X10_115 (qd_c (by decide +kernel)) (nn_ _) rfl (rf_of rfl) (Nat.le_of_ble_eq_true rfl) (Nat.le_of_ble_eq_true rfl) (Nat.le_of_ble_eq_true rfl) rfl ?_
        rintro _ _ ⟨rfl, x6, rfl, hx6⟩
        show J_ zX10_row T (po_X10_row T N m i w) 0 0 42 _ [vI x6] T
        refine j_blx (F := fX10) tb_X10 (nn_ _) bk_X10_row_42 bs_X10_row_42 hz (fun K hK => ?_)
        intro b7 b7b
        refine hK 50 [some (vR 110 0), some (vI m), some (vI i), some (vI w), some (vR 103 m), some (vI x6), none] [vI (T 103 m 17), vI i] T ?_
        refine j_callS (y := yX10_isBelow) (Yc := zX10_isBelow) (rest := []) [vI i, vI (T 103 m 17)] (ct_X10_isBelow (T := T)) cl_X10_115 (qd_c (by decide +kernel)) (nn_ _) rfl (rf_of rfl) (Nat.le_of_ble_eq_true rfl) (Nat.le_of_ble_eq_true rfl) (Nat.le_of_ble_eq_true rfl) rfl ?_
        rintro _ _ ⟨rfl, x8, rfl, hx8⟩
        show J_ zX10_row T (po_X10_row T N m i w) 0 0 53 _ [vI x8] T
        refine j_blx (F := fX10) tb_X10 (nn_ _) bk_X10_row_53 bs_X10_row_53 hz (fun K hK => ?_)
        refine And.intro (fun c9 => ?_) (fun c9 => ?_)
        · refine hK 65 [some (vR 110 0), some (vI m), some (vI i), some (vI w), some (vR 103 m), some (vI x6), some (vI x8)] [] T ?_
          refine j_blx (F := fX10) tb_X10 (nn_ _) bk_X10_row_65 bs_X10_row_65 hz (fun K hK => ?_)
          refine And.intro (fun c10 => ?_) (fun c10 => ?_)
          · refine hK 75 _ [] T ?_
            refine j_blx (F := fX10) tb_X10 (nn_ _) bk_X10_row_75 bs_X10_row_75 hz (fun K hK => ?_)
            refine hK 82 _ [vI (-3)] T ?_
            refine j_blx (F := fX10) tb_X10 (nn_ _) bk_X10_row_82 bs_X10_row_82 hz (fun K hK => ?_)
            refine (show po_X10_row T N m i w T (some (vI (-3))) from ?_)
            exact ⟨rfl, _, rfl, by trivial⟩
          · refine And.intro (fun c11 => ?_) (fun c11 => ?_)
            · refine hK 80 _ [] T ?_
              refine j_blx (F := fX10) tb_X10 (nn_ _) bk_X10_row_80 bs_X10_row_80 hz (fun K hK => ?_)
              refine (show po_X10_row T N m i w T (some (vI (-2))) from ?_)
              exact ⟨rfl, _, rfl, by trivial⟩
            · refine hK 82 _ [vI (-3)] T ?_
              refine j_blx (F := fX10) tb_X10 (nn_ _) bk_X10_row_82 bs_X10_row_82 hz (fun K hK => ?_)
              refine (show po_X10_row T N m i w T (some (vI (-3))) from ?_)
              exact ⟨rfl, _, rfl, by trivial⟩
        · refine And.intro (fun c12 => ?_) (fun c12 => ?_)
          · refine hK 83 _ [] T ?_
            refine j_blx (F := fX10) tb_X10 (nn_ _) bk_X10_row_83 bs_X10_row_83 hz (fun K hK => ?_)
            refine And.intro (fun c13 => ?_) (fun c13 => ?_)
            · refine hK 110 _ [] T ?_
              refine j_blx (F := fX10) tb_X10 (nn_ _) bk_X10_row_110 bs_X10_row_110 hz (fun K hK => ?_)
              refine And.intro (fun c14 => ?_) (fun c14 => ?_)
              · refine hK 131 _ [] T ?_
                refine j_blx (F := fX10) tb_X10 (nn_ _) bk_X10_row_131 bs_X10_row_131 hz (fun K hK => ?_)
                refine (show po_X10_row T N m i w T (some (vI (-2))) from ?_)
                exact ⟨rfl, _, rfl, by trivial⟩
              · refine rg_i (by omega) ?_
                refine rg_i (by omega) ?_
                refine rg_i (by omega) ?_
                refine ix_i (by omega) ?_
                intro b16 b16b
                refine hK 133 _ [vI (T 190 (T 103 m 16) (((i * 4) + w) - 4))] T ?_
                refine j_blx (F := fX10) tb_X10 (nn_ _) bk_X10_row_133 bs_X10_row_133 hz (fun K hK => ?_)
                refine (show po_X10_row T N m i w T (some (vI (T 190 (T 103 m 16) (((i * 4) + w) - 4)))) from ?_)
                exact ⟨rfl, _, rfl, by trivial⟩
            · refine And.intro (fun c17 => ?_) (fun c17 => ?_)
              · refine hK 107 _ [] T ?_
                refine j_blx (F := fX10) tb_X10 (nn_ _) bk_X10_row_107 bs_X10_row_107 hz (fun K hK => ?_)
                refine (show po_X10_row T N m i w T (some (vI (-2))) from ?_)
                exact ⟨rfl, _, rfl, by trivial⟩
              · refine rg_i (by omega) ?_
                refine rg_i (by omega) ?_
                refine ix_i (by omega) ?_
                intro b19 b19b
                refine hK 109 _ [vI (T 190 (T 103 m 14) ((i * 4) + w))] T ?_
                refine j_blx (F := fX10) tb_X10 (nn_ _) bk_X10_row_109 bs_X10_row_109 hz (fun K hK => ?_)
                refine (show po_X10_row T N m i w T (some (vI (T 190 (T 103 m 14) ((i * 4) + w)))) from ?_)
                exact ⟨rfl, _, rfl, by trivial⟩
          · refine And.intro (fun c20 => ?_) (fun c20 => ?_)
            · refine hK 75 _ [] T ?_
              refine j_blx (F := fX10) tb_X10 (nn_ _) bk_X10_row_75 bs_X10_row_75 hz (fun K hK => ?_)
              refine hK 82 _ [vI (-3)] T ?_
              refine j_blx (F := fX10) tb_X10 (nn_ _) bk_X10_row_82 bs_X10_row_82 hz (fun K hK => ?_)
              refine (show po_X10_row T N m i w T (some (vI (-3))) from ?_)
              exact ⟨rfl, _, rfl, by trivial⟩
            · refine And.intro (fun c21 => ?_) (fun c21 => ?_)
              · refine hK 80 _ [] T ?_
                refine j_blx (F := fX10) tb_X10 (nn_ _) bk_X10_row_80 bs_X10_row_80 hz (fun K hK => ?_)
                refine (show po_X10_row T N m i w T (some (vI (-2))) from ?_)
                exact ⟨rfl, _, rfl, by trivial⟩
              · refine hK 82 _ [vI (-3)] T ?_
                refine j_blx (F := fX10) tb_X10 (nn_ _) bk_X10_row_82 bs_X10_row_82 hz (fun K hK => ?_)
                refine (show po_X10_row T N m i w T (some (vI (-3))) from ?_)
                exact ⟨rfl, _, rfl, by trivial⟩
  · refine (show po_X10_row T N m i w T (some (vI (-2))) from ?_)
    exact ⟨rfl, _, rfl, by trivial⟩
abbrev cX10_start : ByteArray := prog_1_method_21_code
def yX10_start : MethodName := ⟨RX10, "start", "(I)I"⟩
def zX10_start : Zm := (RX10, cX10_start, 3, (some .int), { frames := 2, cells := 11, slots := 130, locals := 53 })
theorem bk_X10_start_0 : ck_ fX10 (some .int) cX10_start 0 [.aload 0, .iload 1] 2 = true := qck_r (nn_ _) (by decide +kernel)
theorem bs_X10_start_0 {P : Zt → Option Zv → Prop} (K : Int → Zl → List Zv → Zt → Prop) : sx_ K P [.aload 0, .iload 1] 2 = x_aload 0 (x_iload 1 (K 2)) := ((xe_aload 0).trans (congrArg (x_aload 0) ((xe_iload 1).trans (congrArg (x_iload 1) xe_nil))))
theorem bk_X10_start_5 : ck_ fX10 (some .int) cX10_start 5 [.ifCond .ne 11, .iconst (-2), .ireturn] 11 = true := qck_r (nn_ _) (by decide +kernel)
theorem bs_X10_start_5 {P : Zt → Option Zv → Prop} (K : Int → Zl → List Zv → Zt → Prop) : sx_ K P [.ifCond .ne 11, .iconst (-2), .ireturn] 11 = x_ifCond .ne 11 K (x_iconst (-2) (x_ireturn P)) := ((xe_ifCond .ne 11).trans (congrArg (x_ifCond .ne 11 K) ((xe_iconst (-2)).trans (congrArg (x_iconst (-2)) (xe_ireturn)))))
theorem bk_X10_start_11 : ck_ fX10 (some .int) cX10_start 11 [.aload 0, .tableswitch 0 10 2 #[], .tableswitch 0 6 3 #[], .iload 1, .aaload, .astore 2, .aload 2] 22 = true := qck_r (nn_ _) (by decide +kernel)
theorem bs_X10_start_11 {P : Zt → Option Zv → Prop} (K : Int → Zl → List Zv → Zt → Prop) : sx_ K P [.aload 0, .tableswitch 0 10 2 #[], .tableswitch 0 6 3 #[], .iload 1, .aaload, .astore 2, .aload 2] 22 = x_aload 0 (x_g1 110 106 (x_g1 106 523 (x_iload 1 (x_aaload (x_astore 2 (x_aload 2 (K 22))))))) := ((xe_aload 0).trans (congrArg (x_aload 0) ((xe_g1 (kk := 110) rfl tl_10_2).trans (congrArg (x_g1 110 106) ((xe_g1 (kk := 106) rfl tl_6_3).trans (congrArg (x_g1 106 523) ((xe_iload 1).trans (congrArg (x_iload 1) ((xe_aaload).trans (congrArg (x_aaload) ((xe_astore 2).trans (congrArg (x_astore 2) ((xe_aload 2).trans (congrArg (x_aload 2) xe_nil))))))))))))))
theorem bk_X10_start_25 : ck_ fX10 (some .int) cX10_start 25 [.ifCond .ne 49, .aload 2, .tableswitch 0 2 5 #[], .aload 0, .tableswitch 0 10 1 #[], .tableswitch 0 8 13 #[], .if_icmp .ne 49, .aload 2] 43 = true := qck_r (nn_ _) (by decide +kernel)
theorem bs_X10_start_25 {P : Zt → Option Zv → Prop} (K : Int → Zl → List Zv → Zt → Prop) : sx_ K P [.ifCond .ne 49, .aload 2, .tableswitch 0 2 5 #[], .aload 0, .tableswitch 0 10 1 #[], .tableswitch 0 8 13 #[], .if_icmp .ne 49, .aload 2] 43 = x_ifCond .ne 49 K (x_aload 2 (x_g0 102 5 0 999 (x_aload 0 (x_g1 110 108 (x_g0 108 13 0 999 (x_if_icmp .ne 49 K (x_aload 2 (K 43)))))))) := ((xe_ifCond .ne 49).trans (congrArg (x_ifCond .ne 49 K) ((xe_aload 2).trans (congrArg (x_aload 2) ((xe_g0 (kk := 102) rfl tl_2_5).trans (congrArg (x_g0 102 5 0 999) ((xe_aload 0).trans (congrArg (x_aload 0) ((xe_g1 (kk := 110) rfl tl_10_1).trans (congrArg (x_g1 110 108) ((xe_g0 (kk := 108) rfl tl_8_13).trans (congrArg (x_g0 108 13 0 999) ((xe_if_icmp .ne 49).trans (congrArg (x_if_icmp .ne 49 K) ((xe_aload 2).trans (congrArg (x_aload 2) xe_nil))))))))))))))))
theorem bk_X10_start_49 : ck_ fX10 (some .int) cX10_start 49 [.iconst (-4), .ireturn] 52 = true := qck_r (nn_ _) (by decide +kernel)
theorem bs_X10_start_49 {P : Zt → Option Zv → Prop} (K : Int → Zl → List Zv → Zt → Prop) : sx_ K P [.iconst (-4), .ireturn] 52 = x_iconst (-4) (x_ireturn P) := ((xe_iconst (-4)).trans (congrArg (x_iconst (-4)) (xe_ireturn)))
set_option maxRecDepth 100000 in
theorem cl_X10_264 : cv_ RX10 264 yX2_hasEnoughListed zX2_hasEnoughListed 2 0 := ⟨gi_V (lw_b4 175 (by decide +kernel) rfl : Cond.methodLink RX10 264 yX2_hasEnoughListed ∈ lw_g) (lw_b4 176 (by decide +kernel) rfl : Cond.instanceMethod yX2_hasEnoughListed ∈ lw_g) (lw_b4 177 (by decide +kernel) rfl : Cond.selects yX2_hasEnoughListed.cls yX2_hasEnoughListed yX2_hasEnoughListed ∈ lw_g) (lw_b1 16 (by decide +kernel) rfl : Cond.initialized yX2_hasEnoughListed.cls ∈ lw_g) (lw_b4 178 rfl rfl : Cond.code yX2_hasEnoughListed cX2_hasEnoughListed 1 (some .boolean) ∈ lw_g), ⟨by decide, by decide, by decide +kernel⟩, ⟨_, _, rfl⟩⟩
theorem bk_X10_start_46 : ck_ fX10 (some .int) cX10_start 46 [.ifCond .ne 52, .iconst (-4), .ireturn] 52 = true := qck_r (nn_ _) (by decide +kernel)
theorem bs_X10_start_46 {P : Zt → Option Zv → Prop} (K : Int → Zl → List Zv → Zt → Prop) : sx_ K P [.ifCond .ne 52, .iconst (-4), .ireturn] 52 = x_ifCond .ne 52 K (x_iconst (-4) (x_ireturn P)) := ((xe_ifCond .ne 52).trans (congrArg (x_ifCond .ne 52 K) ((xe_iconst (-4)).trans (congrArg (x_iconst (-4)) (xe_ireturn)))))
theorem bk_X10_start_52 : ck_ fX10 (some .int) cX10_start 52 [.aload 2] 53 = true := qck_r (nn_ _) (by decide +kernel)
theorem bs_X10_start_52 {P : Zt → Option Zv → Prop} (K : Int → Zl → List Zv → Zt → Prop) : sx_ K P [.aload 2] 53 = x_aload 2 (K 53) := ((xe_aload 2).trans (congrArg (x_aload 2) xe_nil))
theorem bk_X10_start_56 : ck_ fX10 (some .int) cX10_start 56 [.dup, .aload 2, .tableswitch 0 2 0 #[], .tableswitch 0 0 1 #[], .aload 2, .tableswitch 0 2 8 #[], .aload 2, .tableswitch 0 2 9 #[]] 72 = true := qck_r (nn_ _) (by decide +kernel)
theorem bs_X10_start_56 {P : Zt → Option Zv → Prop} (K : Int → Zl → List Zv → Zt → Prop) : sx_ K P [.dup, .aload 2, .tableswitch 0 2 0 #[], .tableswitch 0 0 1 #[], .aload 2, .tableswitch 0 2 8 #[], .aload 2, .tableswitch 0 2 9 #[]] 72 = x_dup (x_aload 2 (x_g3 102 100 0 (x_g2 100 401 (x_aload 2 (x_g2 102 448 (x_aload 2 (x_g2 102 449 (K 72)))))))) := ((xe_dup).trans (congrArg (x_dup) ((xe_aload 2).trans (congrArg (x_aload 2) ((xe_g3 (kk := 102) rfl tl_2_0).trans (congrArg (x_g3 102 100 0) ((xe_g2 (kk := 100) rfl tl_0_1).trans (congrArg (x_g2 100 401) ((xe_aload 2).trans (congrArg (x_aload 2) ((xe_g2 (kk := 102) rfl tl_2_8).trans (congrArg (x_g2 102 448) ((xe_aload 2).trans (congrArg (x_aload 2) ((xe_g2 (kk := 102) rfl tl_2_9).trans (congrArg (x_g2 102 449) xe_nil))))))))))))))))
set_option maxRecDepth 100000 in
theorem ci_X10_269 : ci_ RX10 269 yX3_init zX3_init 3 := ⟨gi_c (lw_b4 183 rfl rfl : Cond.code yX3_init cX3_init 4 none ∈ lw_g), (lw_b1 18 (by decide +kernel) rfl : Cond.initialized yX3_init.cls ∈ lw_g), (lw_b4 181 (by decide +kernel) rfl : Cond.methodLink RX10 269 yX3_init ∈ lw_g), (lw_b4 182 (by decide +kernel) rfl : Cond.instanceMethod yX3_init ∈ lw_g), rfl, rfl, ⟨by decide, by decide, by decide +kernel⟩⟩
theorem fr5_X10_272 : fr5_ RX10 272 2 10 := ⟨_, _, _, rfl, by decide, by decide, (lw_b4 25 (by decide +kernel) rfl : Cond.fieldLink RX10 272 _ _ _ ∈ lw_g), rfl, fun a => ⟨.object "SportsHouse$Play", by decide +kernel, rfl, rfl⟩⟩
theorem bk_X10_start_78 : ck_ fX10 (some .int) cX10_start 78 [.aload 2, .tableswitch 0 2 10 #[]] 82 = true := qck_r (nn_ _) (by decide +kernel)
theorem bs_X10_start_78 {P : Zt → Option Zv → Prop} (K : Int → Zl → List Zv → Zt → Prop) : sx_ K P [.aload 2, .tableswitch 0 2 10 #[]] 82 = x_aload 2 (x_g4 102 103 10 (K 82)) := ((xe_aload 2).trans (congrArg (x_aload 2) ((xe_g4 (kk := 102) rfl tl_2_10).trans (congrArg (x_g4 102 103 10) xe_nil))))
set_option maxRecDepth 100000 in
theorem cl_X10_276 : cv_ RX10 276 yX3_backToBeginning zX3_backToBeginning 3 0 := ⟨gi_V (lw_b5 14 (by decide +kernel) rfl : Cond.methodLink RX10 276 yX3_backToBeginning ∈ lw_g) (lw_b5 15 (by decide +kernel) rfl : Cond.instanceMethod yX3_backToBeginning ∈ lw_g) (lw_b5 16 (by decide +kernel) rfl : Cond.selects yX3_backToBeginning.cls yX3_backToBeginning yX3_backToBeginning ∈ lw_g) (lw_b1 18 (by decide +kernel) rfl : Cond.initialized yX3_backToBeginning.cls ∈ lw_g) (lw_b5 17 rfl rfl : Cond.code yX3_backToBeginning cX3_backToBeginning 3 none ∈ lw_g), ⟨by decide, by decide, by decide +kernel⟩, ⟨_, _, rfl⟩⟩
theorem bk_X10_start_85 : ck_ fX10 (some .int) cX10_start 85 [.iconst 1, .ireturn] 87 = true := qck_r (nn_ _) (by decide +kernel)
theorem bs_X10_start_85 {P : Zt → Option Zv → Prop} (K : Int → Zl → List Zv → Zt → Prop) : sx_ K P [.iconst 1, .ireturn] 87 = x_iconst 1 (x_ireturn P) := ((xe_iconst 1).trans (congrArg (x_iconst 1) (xe_ireturn)))
abbrev po_X10_start (T : Zt) (N : Int) (m : Int) : Zt → Option Zv → Prop := fun T' r => ∃ x : Int, r = some (vI x) ∧ fr_ [(153, []), (103, []), (102, [10]), (466, []), (467, []), (468, []), (469, []), (470, []), (471, []), (472, []), (473, []), (190, []), (191, [0])] T T' ∧ LP_ N T' ∧ lh_ T T' ∧ T' 191 0 0 ≤ T 191 0 0 + 600 ∧ NA_ T' ∧ ∀ k i j, i ≠ m → k ≠ 190 → k ≠ 191 → T' k i j = T k i j
set_option maxHeartbeats 4000000 in
theorem ct_X10_start {T : Zt} {N : Int} {m : Int} (hka : KA_ T) (hkm : KM_ T) (hkr : KR_ T) (hlp : LP_ N T) (hN : 0 ≤ N ∧ N ≤ 511) (h9 : 0 ≤ T 191 0 0 ∧ T 191 0 0 ≤ 900000000) (hna : NA_ T) : Ct_ yX10_start zX10_start T [vR 110 0, vI m] (po_X10_start T N m) := by
  refine ct_of pn_10 rfl rfl (Nat.le_of_ble_eq_true rfl) (fun hT hav => ?_)
  have hr_m : -2147483648 ≤ m ∧ m ≤ 2147483647 := hav (vI m) (by simp)
  have hz : zX10_start.2.2.2.1 = some .boolean → ∀ (T' : Zt) (x : Int), po_X10_start T N m T' (some (vI x)) → 0 ≤ x ∧ x ≤ 1 := fun h => by cases h
  have hb_matchCount : 0 ≤ T 106 0 4 ∧ T 106 0 4 ≤ 400 := bd_f hT 106 4 (by decide +kernel : (tf_ 106)[4]? = some (0, 0, 0, 400)) 0
  have hb_competitionCount : 0 ≤ T 106 0 2 ∧ T 106 0 2 ≤ 4 := bd_f hT 106 2 (by decide +kernel : (tf_ 106)[2]? = some (0, 0, 0, 4)) 0
  show J_ zX10_start T (po_X10_start T N m) 11 130 0 [some (vR 110 0), some (vI m), none] [] T
  refine j_blx (F := fX10) tb_X10 (nn_ _) bk_X10_start_0 bs_X10_start_0 hz (fun K hK => ?_)
  refine hK 2 _ [vI m, vR 110 0] T ?_
  refine j_callV (y := yX10_isMatch) (Yc := zX10_isMatch) (rest := []) [vI m] (ct_X10_isMatch (T := T)) cl_X10_195 (qd_c (by decide +kernel)) (nn_ _) rfl (rf_of rfl) (Nat.le_of_ble_eq_true rfl) (Nat.le_of_ble_eq_true rfl) (Nat.le_of_ble_eq_true rfl) rfl ?_
  rintro _ _ ⟨rfl, x1, rfl, hx1⟩
  show J_ zX10_start T (po_X10_start T N m) 11 130 5 _ [vI x1] T
  refine j_blx (F := fX10) tb_X10 (nn_ _) bk_X10_start_5 bs_X10_start_5 hz (fun K hK => ?_)
  refine And.intro (fun c2 => ?_) (fun c2 => ?_)
  · refine hK 11 _ [] T ?_
    refine j_blx (F := fX10) tb_X10 (nn_ _) bk_X10_start_11 bs_X10_start_11 hz (fun K hK => ?_)
    refine ix_i (by omega) ?_
    refine And.intro (fun c3 => ?_) (fun c3 => ?_)
    · exact absurd (show T 523 0 (m) = 0 by omega) (hka.2 _ (by omega) (by omega))
    · refine hK 22 [some (vR 110 0), some (vI m), some (vR 102 m)] [vR 102 m] T ?_
      refine j_callV (y := yX2_phaseOfLife) (Yc := zX2_phaseOfLife) (rest := []) [] (ct_X2_phaseOfLife (T := T)) cl_X10_223 (qd_c (by decide +kernel)) (nn_ _) rfl (rf_of rfl) (Nat.le_of_ble_eq_true rfl) (Nat.le_of_ble_eq_true rfl) (Nat.le_of_ble_eq_true rfl) rfl ?_
      rintro _ _ ⟨rfl, x4, rfl, hx4⟩
      show J_ zX10_start T (po_X10_start T N m) 11 130 25 _ [vI x4] T
      refine j_blx (F := fX10) tb_X10 (nn_ _) bk_X10_start_25 bs_X10_start_25 hz (fun K hK => ?_)
      refine And.intro (fun c5 => ?_) (fun c5 => ?_)
      · refine hK 49 _ [] T ?_
        refine j_blx (F := fX10) tb_X10 (nn_ _) bk_X10_start_49 bs_X10_start_49 hz (fun K hK => ?_)
        refine (show po_X10_start T N m T (some (vI (-4))) from ?_)
        exact ⟨_, rfl, fr_0 _ _, LP_f (ws := []) hlp (by omega) lh_r (fr_0 _ _) ⟨rfl, rfl, rfl, rfl, rfl, rfl, rfl, rfl, rfl, rfl, rfl⟩, lh_r, by omega, hna, fun _ _ _ _ _ _ => rfl⟩
      · intro b6 b6b
        intro b7 b7b
        refine And.intro (fun c8 => ?_) (fun c8 => ?_)
        · refine hK 49 _ [] T ?_
          refine j_blx (F := fX10) tb_X10 (nn_ _) bk_X10_start_49 bs_X10_start_49 hz (fun K hK => ?_)
          refine (show po_X10_start T N m T (some (vI (-4))) from ?_)
          exact ⟨_, rfl, fr_0 _ _, LP_f (ws := []) hlp (by omega) lh_r (fr_0 _ _) ⟨rfl, rfl, rfl, rfl, rfl, rfl, rfl, rfl, rfl, rfl, rfl⟩, lh_r, by omega, hna, fun _ _ _ _ _ _ => rfl⟩
        · refine hK 43 _ [vR 102 m] T ?_
          refine j_callV (y := yX2_hasEnoughListed) (Yc := zX2_hasEnoughListed) (rest := []) [] (ct_X2_hasEnoughListed (T := T)) cl_X10_264 (qd_c (by decide +kernel)) (nn_ _) rfl (rf_of rfl) (Nat.le_of_ble_eq_true rfl) (Nat.le_of_ble_eq_true rfl) (Nat.le_of_ble_eq_true rfl) rfl ?_
          rintro _ _ ⟨rfl, x9, rfl, hx9⟩
          show J_ zX10_start T (po_X10_start T N m) 11 130 46 _ [vI x9] T
          refine j_blx (F := fX10) tb_X10 (nn_ _) bk_X10_start_46 bs_X10_start_46 hz (fun K hK => ?_)
          refine And.intro (fun c10 => ?_) (fun c10 => ?_)
          · refine hK 52 _ [] T ?_
            refine j_blx (F := fX10) tb_X10 (nn_ _) bk_X10_start_52 bs_X10_start_52 hz (fun K hK => ?_)
            refine hK 53 _ [vR 102 m] T ?_
            have hpl : T 102 m 10 = 0 := by omega
            have hm0 := hkm m (by omega) (by omega)
            have hr := hkr (T 102 m 0) (by omega) (by omega)
            have hm9 : 0 ≤ m ∧ m < T 106 0 4 := by omega
            clear hx1 hx4 hx9
            refine j_newO (bc' := 10) (bs' := 112) (pc := 53) (ci := 3) (i := m) (by decide) (by decide) vi_3 tyX3_ok (nf_3 _) (lw_b4 179 (by decide +kernel) rfl : Cond.classLink RX10 267 RX3 ∈ lw_g) (lw_b4 180 (by decide +kernel) rfl : Cond.instantiable RX3 18 ∈ lw_g) (lw_b1 18 (by decide +kernel) rfl : Cond.initialized RX3 ∈ lw_g) (hna.1.2.2 m) (by omega) (by omega) (by decide +kernel) ?_
            refine j_nm (fun U11 hU11 => ?_)
            have fU11 := nu_fr hU11
            have zU11 := nu_tz hU11
            have oU11 := nu_to hU11
            have vU11 := nu_tv hU11
            show J_ zX10_start T (po_X10_start T N m) 10 112 56 _ [vR 153 m, vR 102 m] U11
            refine j_blx (F := fX10) tb_X10 (nn_ _) bk_X10_start_56 bs_X10_start_56 hz (fun K hK => ?_)
            have e13 : U11 102 m 0 = T 102 m 0 := fU11 102 m 0 rfl
            refine hK 72 _ [vR 449 m, vR 448 m, vR 401 (U11 102 m 0), vR 153 m, vR 153 m, vR 102 m] U11 ?_
            have e14 : U11 102 m 0 = T 102 m 0 := fU11 102 m 0 rfl
            have e15 : U11 191 0 0 = T 191 0 0 := fU11 191 0 0 rfl
            refine j_callI (y := yX3_init) (Yc := zX3_init) (rest := [vR 153 m, vR 102 m]) [vR 401 (U11 102 m 0), vR 448 m, vR 449 m] (ct_X3_init (T := U11) (by omega) (fun k a b => by show ¬ U11 k m (-1) = 1; rw [oU11 k m (-1) (fun z => by omega)]; intro h; exact (hT.2.2.2.2.2.2.2.1 k m 103 (ow_3 a b) h).elim (hna.2.2.2 m (Or.inr hpl)) (hna.1.2.2 m))) ci_X10_269 (qd_c (by decide +kernel)) (nn_ _) rfl (rf_of rfl) (Nat.le_of_ble_eq_true rfl) (Nat.le_of_ble_eq_true rfl) (Nat.le_of_ble_eq_true rfl) rfl ?_
            rintro U16 _ ⟨rfl, fU16, qU16o, ⟨t0U16, t1U16, t2U16, t14U16, t16U16⟩, ⟨t6U16, t7U16, t8U16, t9U16, t10U16, t11U16, t12U16, t13U16⟩, ⟨t3U16, t4U16, t5U16, t15U16, t17U16⟩, lgU16, laU16, a9U16, lU16⟩
            show J_ zX10_start T (po_X10_start T N m) 0 1 75 _ [vR 153 m, vR 102 m] U16
            refine j_ok (fun gt3 _ => ?_)
            have e18 : U16 103 m (-1) = T 103 m (-1) := (fU16 103 m (-1) rfl).trans (fU11 103 m (-1) rfl)
            have e19 : U11 102 m 0 = T 102 m 0 := fU11 102 m 0 rfl
            refine j_conv (k := 103) (i := m) (g := g3_ U16 m) (by decide) (by show ¬ U16 103 m (-1) = 1; rw [e18]; exact hna.2.2.2 m (Or.inr hpl)) (hna.1.2.2 m) (cg_3 gt3 (by omega) (by omega) t1U16 t2U16 t6U16 t7U16 t8U16 t9U16 t10U16 t11U16 t12U16 t13U16 (by omega) (by omega)) rfl rfl ?_
            refine j_nm (fun U20 hU20 => ?_)
            have fU20 := cw_fr hU20
            have sU20 := cw_ts hU20
            have oU20 := cw_to hU20
            have rU20 := cw_r hU20
            show J_ zX10_start T (po_X10_start T N m) 0 1 75 _ [vR 103 m, vR 102 m] U20
            refine j_putV (pc := 75) (ci := 2) (j := 10) (z := 1) (by decide) fr5_X10_272 (by decide +kernel : (tf_ 102)[10]? = some (4, 103, (-2147483648), 2147483647)) (by decide +kernel) rfl (by omega) (by omega) ?_
            refine j_nm (fun U21 hU21 => ?_)
            have e22 := up_f hU21
            show J_ zX10_start T (po_X10_start T N m) 0 1 78 _ [] U21
            refine j_blx (F := fX10) tb_X10 (nn_ _) bk_X10_start_78 bs_X10_start_78 hz (fun K hK => ?_)
            have e24 : U21 102 m 10 = 1 := up_f hU21
            refine And.intro (fun c23 => ?_) (fun c23 => ?_)
            · exact absurd c23 (by omega)
            · refine hK 82 _ [vR 103 m] U21 ?_
              have w0 : U20 103 m 0 = U16 153 m 0 - 1 := (sU20 0 (by decide)).trans (by unfold g3_; rw [if_pos (by decide)])
              have w14 : U20 103 m 14 = U16 153 m 14 - 1 := (sU20 14 (by decide)).trans (by unfold g3_; rw [if_pos (by decide)])
              have w16 : U20 103 m 16 = U16 153 m 16 - 1 := (sU20 16 (by decide)).trans (by unfold g3_; rw [if_pos (by decide)])
              have w3 : U20 103 m 3 = U16 153 m 3 := (sU20 3 (by decide)).trans (by unfold g3_; rw [if_neg (by decide)])
              have w15 : U20 103 m 15 = U16 153 m 15 := (sU20 15 (by decide)).trans (by unfold g3_; rw [if_neg (by decide)])
              have w17 : U20 103 m 17 = U16 153 m 17 := (sU20 17 (by decide)).trans (by unfold g3_; rw [if_neg (by decide)])
              have v15 : U11 153 m 15 = 0 := zU11 15 (by decide)
              have v17 : U11 153 m 17 = 0 := zU11 17 (by decide)
              have e25 : U11 191 0 0 = T 191 0 0 := fU11 191 0 0 rfl
              have e26 : U11 102 m 0 = T 102 m 0 := fU11 102 m 0 rfl
              have e27 : U21 103 m 0 = U20 103 m 0 := up_k hU21 (by exact Nat.ne_of_beq_eq_false rfl) m 0
              have k0 : U21 103 m 0 = T 102 m 0 := by omega
              have e28 : U21 401 (T 102 m 0) 9 = T 401 (T 102 m 0) 9 := (up_k hU21 (by exact Nat.ne_of_beq_eq_false rfl) (T 102 m 0) 9).trans ((fU20 401 (T 102 m 0) 9 rfl).trans ((fU16 401 (T 102 m 0) 9 rfl).trans (fU11 401 (T 102 m 0) 9 rfl)))
              have k9 : U21 401 (U21 103 m 0) 9 = T 401 (T 102 m 0) 9 := by rw [k0]; exact e28
              refine j_callV (y := yX3_backToBeginning) (Yc := zX3_backToBeginning) (rest := []) [] (ct_X3_backToBeginning (T := U21) (by omega)) cl_X10_276 (qd_c (by decide +kernel)) (nn_ _) rfl (rf_of rfl) (Nat.le_of_ble_eq_true rfl) (Nat.le_of_ble_eq_true rfl) (Nat.le_of_ble_eq_true rfl) rfl ?_
              rintro U29 _ ⟨rfl, fU29, qU29o, qU29, tU29⟩
              show J_ zX10_start T (po_X10_start T N m) 0 1 85 _ [] U29
              refine j_blx (F := fX10) tb_X10 (nn_ _) bk_X10_start_85 bs_X10_start_85 hz (fun K hK => ?_)
              refine (show po_X10_start T N m U29 (some (vI 1)) from ?_)
              have e31 : U29 191 0 0 = U16 191 0 0 := (fU29 191 0 0 rfl).trans ((up_k hU21 (by exact Nat.ne_of_beq_eq_false rfl) 0 0).trans (fU20 191 0 0 rfl))
              have e32 : U29 103 m 0 = U20 103 m 0 := (fU29 103 m 0 rfl).trans (up_k hU21 (by exact Nat.ne_of_beq_eq_false rfl) m 0)
              have e33 : U29 103 m 14 = U20 103 m 14 := (fU29 103 m 14 rfl).trans (up_k hU21 (by exact Nat.ne_of_beq_eq_false rfl) m 14)
              have e34 : U29 103 m 15 = U20 103 m 15 := (fU29 103 m 15 rfl).trans (up_k hU21 (by exact Nat.ne_of_beq_eq_false rfl) m 15)
              have e35 : U29 103 m 16 = U20 103 m 16 := (fU29 103 m 16 rfl).trans (up_k hU21 (by exact Nat.ne_of_beq_eq_false rfl) m 16)
              have e36 : U29 103 m 17 = U20 103 m 17 := (fU29 103 m 17 rfl).trans (up_k hU21 (by exact Nat.ne_of_beq_eq_false rfl) m 17)
              have e37 : U29 191 0 0 = U16 191 0 0 := (fU29 191 0 0 rfl).trans ((up_k hU21 (by exact Nat.ne_of_beq_eq_false rfl) 0 0).trans (fU20 191 0 0 rfl))
              have e38 : U29 106 0 4 = T 106 0 4 := (fU29 106 0 4 rfl).trans ((up_k hU21 (by exact Nat.ne_of_beq_eq_false rfl) 0 4).trans ((fU20 106 0 4 rfl).trans ((fU16 106 0 4 rfl).trans (fU11 106 0 4 rfl))))
              have e39 : U29 106 0 2 = T 106 0 2 := (fU29 106 0 2 rfl).trans ((up_k hU21 (by exact Nat.ne_of_beq_eq_false rfl) 0 2).trans ((fU20 106 0 2 rfl).trans ((fU16 106 0 2 rfl).trans (fU11 106 0 2 rfl))))
              have e40 : U29 102 m 10 = 1 := (fU29 102 m 10 rfl).trans (up_f hU21)
              have x14 : U29 103 m 14 = U11 191 0 0 := by omega
              have x16 : U29 103 m 16 = U11 191 0 0 + 1 := by omega
              have d1 : U29 190 (U29 103 m 14) (-2) = 32 := by rw [x14]; exact ((fU29 190 _ _ rfl).trans ((up_k hU21 (by exact Nat.ne_of_beq_eq_false rfl) _ _).trans (fU20 190 _ _ rfl))).trans lgU16
              have d2 : U29 190 (U29 103 m 16) (-2) = 16 := by rw [x16]; exact ((fU29 190 _ _ rfl).trans ((up_k hU21 (by exact Nat.ne_of_beq_eq_false rfl) _ _).trans (fU20 190 _ _ rfl))).trans laU16
              have d3 : lh_ T U29 := ⟨fun x hx => ((fU29 190 _ _ rfl).trans ((up_k hU21 (by exact Nat.ne_of_beq_eq_false rfl) _ _).trans (fU20 190 _ _ rfl))).trans ((lU16 x (by omega)).trans (fU11 190 _ _ rfl)), by omega⟩
              have d4 : ∀ k i j, i ≠ m → k ≠ 190 → k ≠ 191 → U29 k i j = T k i j := fun k i j a b c => (qU29o k i j a).trans ((up_g hU21 (fun z => a z.2.1)).trans ((oU20 k i j a).trans ((qU16o k i j a b c).trans (oU11 k i j (fun z => a z.2)))))
              have d5 : Lp_ N U29 m := ⟨⟨by omega, by omega, by omega, by omega, by omega, by omega, by omega, by omega, by omega⟩, by rw [d1]; exact Or.inr (Or.inl rfl), by rw [d2]; exact Or.inl rfl, fun _ => qU29⟩
              have e41 : U29 153 m (-1) = U20 153 m (-1) := (fU29 153 m (-1) rfl).trans (up_k hU21 (by exact Nat.ne_of_beq_eq_false rfl) m (-1))
              have n1 : NR_ U29 := by
                refine ⟨fun i => by rw [show U29 150 i (-1) = T 150 i (-1) from (fU29 150 _ _ rfl).trans ((up_k hU21 (by exact Nat.ne_of_beq_eq_false rfl) _ _).trans ((fU20 150 _ _ rfl).trans ((fU16 150 _ _ rfl).trans (fU11 150 _ _ rfl))))]; exact hna.1.1 i, fun i => by rw [show U29 152 i (-1) = T 152 i (-1) from (fU29 152 _ _ rfl).trans ((up_k hU21 (by exact Nat.ne_of_beq_eq_false rfl) _ _).trans ((fU20 152 _ _ rfl).trans ((fU16 152 _ _ rfl).trans (fU11 152 _ _ rfl))))]; exact hna.1.2.1 i, fun i => ?_⟩
                · by_cases z : i = m
                  · rw [z, e41]; exact rU20
                  · rw [d4 153 i (-1) z (by decide) (by decide)]; exact hna.1.2.2 i
              have n2 : NA_ U29 := by
                refine ⟨n1, fun i hi => by rw [show U29 100 i (-1) = T 100 i (-1) from (fU29 100 _ _ rfl).trans ((up_k hU21 (by exact Nat.ne_of_beq_eq_false rfl) _ _).trans ((fU20 100 _ _ rfl).trans ((fU16 100 _ _ rfl).trans (fU11 100 _ _ rfl))))]; exact hna.2.1 i (by omega), fun i hi => by rw [show U29 102 i (-1) = T 102 i (-1) from (fU29 102 _ _ rfl).trans ((up_j hU21 (by decide) _ _).trans ((fU20 102 _ _ rfl).trans ((fU16 102 _ _ rfl).trans (fU11 102 _ _ rfl))))]; exact hna.2.2.1 i (by omega), fun i hi => ?_⟩
                · by_cases z : i = m
                  · rw [z] at hi; exact absurd hi (by omega)
                  · rw [d4 103 i (-1) z (by decide) (by decide)]; rw [d4 102 i 10 z (by decide) (by decide)] at hi; exact hna.2.2.2 i (by omega)
              exact ⟨_, rfl, fr_t (fr_u (fr_t (fr_t (fr_t (fr_0 _ _) (fr_s fU11 rfl)) (fr_s fU16 rfl)) (fr_s fU20 rfl)) hU21 rfl) (fr_s fU29 rfl), LP_q hlp (by omega) d3 (fun k i j a b c _ => d4 k i j a b c) (by omega) (by omega) (fun _ => d5), d3, by omega, n2, d4⟩
          · refine (show po_X10_start T N m T (some (vI (-4))) from ?_)
            exact ⟨_, rfl, fr_0 _ _, LP_f (ws := []) hlp (by omega) lh_r (fr_0 _ _) ⟨rfl, rfl, rfl, rfl, rfl, rfl, rfl, rfl, rfl, rfl, rfl⟩, lh_r, by omega, hna, fun _ _ _ _ _ _ => rfl⟩
  · refine (show po_X10_start T N m T (some (vI (-2))) from ?_)
    exact ⟨_, rfl, fr_0 _ _, LP_f (ws := []) hlp (by omega) lh_r (fr_0 _ _) ⟨rfl, rfl, rfl, rfl, rfl, rfl, rfl, rfl, rfl, rfl, rfl⟩, lh_r, by omega, hna, fun _ _ _ _ _ _ => rfl⟩
