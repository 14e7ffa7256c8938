theorem cv3_ {k : Nat} {x n : Int} (h : 1 ≤ x) : fv_ 3 k (x - 1) n = fv_ 5 k x n := by
  show vR k (x - 1) = (if x = 0 then vN else vR k (x - 1))
  rw [if_neg (by omega)]
def g0_ (T : Zt) (n j : Int) : Int := if False then T 150 n j - 1 else T 150 n j
theorem cg_0 {T : Zt} {n : Int} (hT : ok_T T) (hn : 0 ≤ n ∧ n ≤ 2000000000) (e1 : T 150 n 1 = n + 1) (e2 : T 150 n 2 = n + 1) (e3 : T 150 n 3 = n + 1) (e4 : T 150 n 4 = n + 1) : ∀ (j c k1 : Nat) (lo hi : Int), (tf_ 100)[j]? = some (c, k1, lo, hi) → ∃ c2 k2 lo2 hi2, (tf_ (100 + 50))[j]? = some (c2, k2, lo2, hi2) ∧ fv_ c k1 (g0_ T n j) n = fv_ c2 k2 (T (100 + 50) n j) n ∧ lo ≤ g0_ T n j ∧ g0_ T n j ≤ hi := by
  intro j c k1 lo hi h
  have hlt : j < 9 := by
    by_cases z : j < 9
    · exact z
    · rw [List.getElem?_eq_none (by rw [show (tf_ 100).length = 9 by decide +kernel]; omega)] at h; cases h
  match j, h, hlt with
  | 0, h, _ =>
    rw [show (tf_ 100)[0]? = some (0, 0, 0, 3) by decide +kernel] at h
    cases h
    have eg : g0_ T n (0 : Nat) = T 150 n 0 := by
      unfold g0_
      rw [if_neg (by decide)]
      rfl
    have hb : 0 ≤ T 150 n 0 ∧ T 150 n 0 ≤ 3 := bd_f hT 150 0 (by decide +kernel : (tf_ 150)[0]? = some (0, 0, 0, 3)) n
    rw [eg]
    exact ⟨0, 0, 0, 3, by decide +kernel, rfl, by omega, by omega⟩
  | 1, h, _ =>
    rw [show (tf_ 100)[1]? = some (2, 401, (-2147483648), 2147483647) by decide +kernel] at h
    cases h
    have eg : g0_ T n (1 : Nat) = T 150 n 1 := by
      unfold g0_
      rw [if_neg (by decide)]
      rfl
    have hb : (-2147483648) ≤ T 150 n 1 ∧ T 150 n 1 ≤ 2147483647 := bd_f hT 150 1 (by decide +kernel : (tf_ 150)[1]? = some (5, 401, (-2147483648), 2147483647)) n
    rw [eg]
    exact ⟨5, 401, (-2147483648), 2147483647, by decide +kernel, (by show vR 401 n = fv_ 5 401 (T 150 n 1) n; rw [e1]; exact (fv5_ hn.1).symm), by omega, by omega⟩
  | 2, h, _ =>
    rw [show (tf_ 100)[2]? = some (2, 402, (-2147483648), 2147483647) by decide +kernel] at h
    cases h
    have eg : g0_ T n (2 : Nat) = T 150 n 2 := by
      unfold g0_
      rw [if_neg (by decide)]
      rfl
    have hb : (-2147483648) ≤ T 150 n 2 ∧ T 150 n 2 ≤ 2147483647 := bd_f hT 150 2 (by decide +kernel : (tf_ 150)[2]? = some (5, 402, (-2147483648), 2147483647)) n
    rw [eg]
    exact ⟨5, 402, (-2147483648), 2147483647, by decide +kernel, (by show vR 402 n = fv_ 5 402 (T 150 n 2) n; rw [e2]; exact (fv5_ hn.1).symm), by omega, by omega⟩
  | 3, h, _ =>
    rw [show (tf_ 100)[3]? = some (2, 403, (-2147483648), 2147483647) by decide +kernel] at h
    cases h
    have eg : g0_ T n (3 : Nat) = T 150 n 3 := by
      unfold g0_
      rw [if_neg (by decide)]
      rfl
    have hb : (-2147483648) ≤ T 150 n 3 ∧ T 150 n 3 ≤ 2147483647 := bd_f hT 150 3 (by decide +kernel : (tf_ 150)[3]? = some (5, 403, (-2147483648), 2147483647)) n
    rw [eg]
    exact ⟨5, 403, (-2147483648), 2147483647, by decide +kernel, (by show vR 403 n = fv_ 5 403 (T 150 n 3) n; rw [e3]; exact (fv5_ hn.1).symm), by omega, by omega⟩
  | 4, h, _ =>
    rw [show (tf_ 100)[4]? = some (2, 404, (-2147483648), 2147483647) by decide +kernel] at h
    cases h
    have eg : g0_ T n (4 : Nat) = T 150 n 4 := by
      unfold g0_
      rw [if_neg (by decide)]
      rfl
    have hb : (-2147483648) ≤ T 150 n 4 ∧ T 150 n 4 ≤ 2147483647 := bd_f hT 150 4 (by decide +kernel : (tf_ 150)[4]? = some (5, 404, (-2147483648), 2147483647)) n
    rw [eg]
    exact ⟨5, 404, (-2147483648), 2147483647, by decide +kernel, (by show vR 404 n = fv_ 5 404 (T 150 n 4) n; rw [e4]; exact (fv5_ hn.1).symm), by omega, by omega⟩
  | 5, h, _ =>
    rw [show (tf_ 100)[5]? = some (0, 0, 0, 12) by decide +kernel] at h
    cases h
    have eg : g0_ T n (5 : Nat) = T 150 n 5 := by
      unfold g0_
      rw [if_neg (by decide)]
      rfl
    have hb : 0 ≤ T 150 n 5 ∧ T 150 n 5 ≤ 12 := bd_f hT 150 5 (by decide +kernel : (tf_ 150)[5]? = some (0, 0, 0, 12)) n
    rw [eg]
    exact ⟨0, 0, 0, 12, by decide +kernel, rfl, by omega, by omega⟩
  | 6, h, _ =>
    rw [show (tf_ 100)[6]? = some (0, 0, 0, 1) by decide +kernel] at h
    cases h
    have eg : g0_ T n (6 : Nat) = T 150 n 6 := by
      unfold g0_
      rw [if_neg (by decide)]
      rfl
    have hb : 0 ≤ T 150 n 6 ∧ T 150 n 6 ≤ 1 := bd_f hT 150 6 (by decide +kernel : (tf_ 150)[6]? = some (0, 0, 0, 1)) n
    rw [eg]
    exact ⟨0, 0, 0, 1, by decide +kernel, rfl, by omega, by omega⟩
  | 7, h, _ =>
    rw [show (tf_ 100)[7]? = some (0, 0, 0, 400) by decide +kernel] at h
    cases h
    have eg : g0_ T n (7 : Nat) = T 150 n 7 := by
      unfold g0_
      rw [if_neg (by decide)]
      rfl
    have hb : 0 ≤ T 150 n 7 ∧ T 150 n 7 ≤ 400 := bd_f hT 150 7 (by decide +kernel : (tf_ 150)[7]? = some (0, 0, 0, 400)) n
    rw [eg]
    exact ⟨0, 0, 0, 400, by decide +kernel, rfl, by omega, by omega⟩
  | 8, h, _ =>
    rw [show (tf_ 100)[8]? = some (0, 0, 0, 400) by decide +kernel] at h
    cases h
    have eg : g0_ T n (8 : Nat) = T 150 n 8 := by
      unfold g0_
      rw [if_neg (by decide)]
      rfl
    have hb : 0 ≤ T 150 n 8 ∧ T 150 n 8 ≤ 400 := bd_f hT 150 8 (by decide +kernel : (tf_ 150)[8]? = some (0, 0, 0, 400)) n
    rw [eg]
    exact ⟨0, 0, 0, 400, by decide +kernel, rfl, by omega, by omega⟩
def g2_ (T : Zt) (n j : Int) : Int := if j = 0 then T 152 n j - 1 else T 152 n j
theorem cg_2 {T : Zt} {n : Int} (hT : ok_T T) (hn : 0 ≤ n ∧ n ≤ 2000000000) (e0 : 1 ≤ T 152 n 0) (e8 : T 152 n 8 = n + 1) (e9 : T 152 n 9 = n + 1) (e10 : T 152 n 10 = 0) : ∀ (j c k1 : Nat) (lo hi : Int), (tf_ 102)[j]? = some (c, k1, lo, hi) → ∃ c2 k2 lo2 hi2, (tf_ (102 + 50))[j]? = some (c2, k2, lo2, hi2) ∧ fv_ c k1 (g2_ T n j) n = fv_ c2 k2 (T (102 + 50) n j) n ∧ lo ≤ g2_ T n j ∧ g2_ T n j ≤ hi := by
  intro j c k1 lo hi h
  have hlt : j < 11 := by
    by_cases z : j < 11
    · exact z
    · rw [List.getElem?_eq_none (by rw [show (tf_ 102).length = 11 by decide +kernel]; omega)] at h; cases h
  match j, h, hlt with
  | 0, h, _ =>
    rw [show (tf_ 102)[0]? = some (3, 100, (-2147483648), 2147483647) by decide +kernel] at h
    cases h
    have eg : g2_ T n (0 : Nat) = T 152 n 0 - 1 := by
      unfold g2_
      rw [if_pos (by decide)]
      rfl
    have hb : (-2147483648) ≤ T 152 n 0 ∧ T 152 n 0 ≤ 2147483647 := bd_f hT 152 0 (by decide +kernel : (tf_ 152)[0]? = some (5, 100, (-2147483648), 2147483647)) n
    rw [eg]
    exact ⟨5, 100, (-2147483648), 2147483647, by decide +kernel, (cv3_ e0), by omega, by omega⟩
  | 1, h, _ =>
    rw [show (tf_ 102)[1]? = some (0, 0, 0, 399) by decide +kernel] at h
    cases h
    have eg : g2_ T n (1 : Nat) = T 152 n 1 := by
      unfold g2_
      rw [if_neg (by decide)]
      rfl
    have hb : 0 ≤ T 152 n 1 ∧ T 152 n 1 ≤ 399 := bd_f hT 152 1 (by decide +kernel : (tf_ 152)[1]? = some (0, 0, 0, 399)) n
    rw [eg]
    exact ⟨0, 0, 0, 399, by decide +kernel, rfl, by omega, by omega⟩
  | 2, h, _ =>
    rw [show (tf_ 102)[2]? = some (0, 0, (-2147483648), 2147483647) by decide +kernel] at h
    cases h
    have eg : g2_ T n (2 : Nat) = T 152 n 2 := by
      unfold g2_
      rw [if_neg (by decide)]
      rfl
    have hb : (-2147483648) ≤ T 152 n 2 ∧ T 152 n 2 ≤ 2147483647 := bd_f hT 152 2 (by decide +kernel : (tf_ 152)[2]? = some (0, 0, (-2147483648), 2147483647)) n
    rw [eg]
    exact ⟨0, 0, (-2147483648), 2147483647, by decide +kernel, rfl, by omega, by omega⟩
  | 3, h, _ =>
    rw [show (tf_ 102)[3]? = some (0, 0, 0, 11) by decide +kernel] at h
    cases h
    have eg : g2_ T n (3 : Nat) = T 152 n 3 := by
      unfold g2_
      rw [if_neg (by decide)]
      rfl
    have hb : 0 ≤ T 152 n 3 ∧ T 152 n 3 ≤ 11 := bd_f hT 152 3 (by decide +kernel : (tf_ 152)[3]? = some (0, 0, 0, 11)) n
    rw [eg]
    exact ⟨0, 0, 0, 11, by decide +kernel, rfl, by omega, by omega⟩
  | 4, h, _ =>
    rw [show (tf_ 102)[4]? = some (0, 0, 0, 11) by decide +kernel] at h
    cases h
    have eg : g2_ T n (4 : Nat) = T 152 n 4 := by
      unfold g2_
      rw [if_neg (by decide)]
      rfl
    have hb : 0 ≤ T 152 n 4 ∧ T 152 n 4 ≤ 11 := bd_f hT 152 4 (by decide +kernel : (tf_ 152)[4]? = some (0, 0, 0, 11)) n
    rw [eg]
    exact ⟨0, 0, 0, 11, by decide +kernel, rfl, by omega, by omega⟩
  | 5, h, _ =>
    rw [show (tf_ 102)[5]? = some (0, 0, 0, 999) by decide +kernel] at h
    cases h
    have eg : g2_ T n (5 : Nat) = T 152 n 5 := by
      unfold g2_
      rw [if_neg (by decide)]
      rfl
    have hb : 0 ≤ T 152 n 5 ∧ T 152 n 5 ≤ 999 := bd_f hT 152 5 (by decide +kernel : (tf_ 152)[5]? = some (0, 0, 0, 999)) n
    rw [eg]
    exact ⟨0, 0, 0, 999, by decide +kernel, rfl, by omega, by omega⟩
  | 6, h, _ =>
    rw [show (tf_ 102)[6]? = some (0, 0, (-1), 1) by decide +kernel] at h
    cases h
    have eg : g2_ T n (6 : Nat) = T 152 n 6 := by
      unfold g2_
      rw [if_neg (by decide)]
      rfl
    have hb : (-1) ≤ T 152 n 6 ∧ T 152 n 6 ≤ 1 := bd_f hT 152 6 (by decide +kernel : (tf_ 152)[6]? = some (0, 0, (-1), 1)) n
    rw [eg]
    exact ⟨0, 0, (-1), 1, by decide +kernel, rfl, by omega, by omega⟩
  | 7, h, _ =>
    rw [show (tf_ 102)[7]? = some (0, 0, (-1), 7) by decide +kernel] at h
    cases h
    have eg : g2_ T n (7 : Nat) = T 152 n 7 := by
      unfold g2_
      rw [if_neg (by decide)]
      rfl
    have hb : (-1) ≤ T 152 n 7 ∧ T 152 n 7 ≤ 7 := bd_f hT 152 7 (by decide +kernel : (tf_ 152)[7]? = some (0, 0, (-1), 7)) n
    rw [eg]
    exact ⟨0, 0, (-1), 7, by decide +kernel, rfl, by omega, by omega⟩
  | 8, h, _ =>
    rw [show (tf_ 102)[8]? = some (2, 448, (-2147483648), 2147483647) by decide +kernel] at h
    cases h
    have eg : g2_ T n (8 : Nat) = T 152 n 8 := by
      unfold g2_
      rw [if_neg (by decide)]
      rfl
    have hb : (-2147483648) ≤ T 152 n 8 ∧ T 152 n 8 ≤ 2147483647 := bd_f hT 152 8 (by decide +kernel : (tf_ 152)[8]? = some (5, 448, (-2147483648), 2147483647)) n
    rw [eg]
    exact ⟨5, 448, (-2147483648), 2147483647, by decide +kernel, (by show vR 448 n = fv_ 5 448 (T 152 n 8) n; rw [e8]; exact (fv5_ hn.1).symm), by omega, by omega⟩
  | 9, h, _ =>
    rw [show (tf_ 102)[9]? = some (2, 449, (-2147483648), 2147483647) by decide +kernel] at h
    cases h
    have eg : g2_ T n (9 : Nat) = T 152 n 9 := by
      unfold g2_
      rw [if_neg (by decide)]
      rfl
    have hb : (-2147483648) ≤ T 152 n 9 ∧ T 152 n 9 ≤ 2147483647 := bd_f hT 152 9 (by decide +kernel : (tf_ 152)[9]? = some (5, 449, (-2147483648), 2147483647)) n
    rw [eg]
    exact ⟨5, 449, (-2147483648), 2147483647, by decide +kernel, (by show vR 449 n = fv_ 5 449 (T 152 n 9) n; rw [e9]; exact (fv5_ hn.1).symm), by omega, by omega⟩
  | 10, h, _ =>
    rw [show (tf_ 102)[10]? = some (4, 103, (-2147483648), 2147483647) by decide +kernel] at h
    cases h
    have eg : g2_ T n (10 : Nat) = T 152 n 10 := by
      unfold g2_
      rw [if_neg (by decide)]
      rfl
    have hb : (-2147483648) ≤ T 152 n 10 ∧ T 152 n 10 ≤ 2147483647 := bd_f hT 152 10 (by decide +kernel : (tf_ 152)[10]? = some (5, 103, (-2147483648), 2147483647)) n
    rw [eg]
    exact ⟨5, 103, (-2147483648), 2147483647, by decide +kernel, (by show fv_ 4 103 (T 152 n 10) n = fv_ 5 103 (T 152 n 10) n; rw [e10]; rfl), by omega, by omega⟩
def g3_ (T : Zt) (n j : Int) : Int := if j = 0 ∨ j = 14 ∨ j = 16 then T 153 n j - 1 else T 153 n j
theorem cg_3 {T : Zt} {n : Int} (hT : ok_T T) (hn : 0 ≤ n ∧ n ≤ 2000000000) (e0 : 1 ≤ T 153 n 0) (e1 : T 153 n 1 = n + 1) (e2 : T 153 n 2 = n + 1) (e6 : T 153 n 6 = n + 1) (e7 : T 153 n 7 = n + 1) (e8 : T 153 n 8 = n + 1) (e9 : T 153 n 9 = n + 1) (e10 : T 153 n 10 = n + 1) (e11 : T 153 n 11 = n + 1) (e12 : T 153 n 12 = n + 1) (e13 : T 153 n 13 = n + 1) (e14 : 1 ≤ T 153 n 14) (e16 : 1 ≤ T 153 n 16) : ∀ (j c k1 : Nat) (lo hi : Int), (tf_ 103)[j]? = some (c, k1, lo, hi) → ∃ c2 k2 lo2 hi2, (tf_ (103 + 50))[j]? = some (c2, k2, lo2, hi2) ∧ fv_ c k1 (g3_ T n j) n = fv_ c2 k2 (T (103 + 50) n j) n ∧ lo ≤ g3_ T n j ∧ g3_ T n j ≤ hi := by
  intro j c k1 lo hi h
  have hlt : j < 18 := by
    by_cases z : j < 18
    · exact z
    · rw [List.getElem?_eq_none (by rw [show (tf_ 103).length = 18 by decide +kernel]; omega)] at h; cases h
  match j, h, hlt with
  | 0, h, _ =>
    rw [show (tf_ 103)[0]? = some (3, 401, (-2147483648), 2147483647) by decide +kernel] at h
    cases h
    have eg : g3_ T n (0 : Nat) = T 153 n 0 - 1 := by
      unfold g3_
      rw [if_pos (by decide)]
      rfl
    have hb : (-2147483648) ≤ T 153 n 0 ∧ T 153 n 0 ≤ 2147483647 := bd_f hT 153 0 (by decide +kernel : (tf_ 153)[0]? = some (5, 401, (-2147483648), 2147483647)) n
    rw [eg]
    exact ⟨5, 401, (-2147483648), 2147483647, by decide +kernel, (cv3_ e0), by omega, by omega⟩
  | 1, h, _ =>
    rw [show (tf_ 103)[1]? = some (2, 448, (-2147483648), 2147483647) by decide +kernel] at h
    cases h
    have eg : g3_ T n (1 : Nat) = T 153 n 1 := by
      unfold g3_
      rw [if_neg (by decide)]
      rfl
    have hb : (-2147483648) ≤ T 153 n 1 ∧ T 153 n 1 ≤ 2147483647 := bd_f hT 153 1 (by decide +kernel : (tf_ 153)[1]? = some (5, 448, (-2147483648), 2147483647)) n
    rw [eg]
    exact ⟨5, 448, (-2147483648), 2147483647, by decide +kernel, (by show vR 448 n = fv_ 5 448 (T 153 n 1) n; rw [e1]; exact (fv5_ hn.1).symm), by omega, by omega⟩
  | 2, h, _ =>
    rw [show (tf_ 103)[2]? = some (2, 449, (-2147483648), 2147483647) by decide +kernel] at h
    cases h
    have eg : g3_ T n (2 : Nat) = T 153 n 2 := by
      unfold g3_
      rw [if_neg (by decide)]
      rfl
    have hb : (-2147483648) ≤ T 153 n 2 ∧ T 153 n 2 ≤ 2147483647 := bd_f hT 153 2 (by decide +kernel : (tf_ 153)[2]? = some (5, 449, (-2147483648), 2147483647)) n
    rw [eg]
    exact ⟨5, 449, (-2147483648), 2147483647, by decide +kernel, (by show vR 449 n = fv_ 5 449 (T 153 n 2) n; rw [e2]; exact (fv5_ hn.1).symm), by omega, by omega⟩
  | 3, h, _ =>
    rw [show (tf_ 103)[3]? = some (0, 0, 0, 1) by decide +kernel] at h
    cases h
    have eg : g3_ T n (3 : Nat) = T 153 n 3 := by
      unfold g3_
      rw [if_neg (by decide)]
      rfl
    have hb : 0 ≤ T 153 n 3 ∧ T 153 n 3 ≤ 1 := bd_f hT 153 3 (by decide +kernel : (tf_ 153)[3]? = some (0, 0, 0, 1)) n
    rw [eg]
    exact ⟨0, 0, 0, 1, by decide +kernel, rfl, by omega, by omega⟩
  | 4, h, _ =>
    rw [show (tf_ 103)[4]? = some (0, 0, (-2147483648), 2147483647) by decide +kernel] at h
    cases h
    have eg : g3_ T n (4 : Nat) = T 153 n 4 := by
      unfold g3_
      rw [if_neg (by decide)]
      rfl
    have hb : (-2147483648) ≤ T 153 n 4 ∧ T 153 n 4 ≤ 2147483647 := bd_f hT 153 4 (by decide +kernel : (tf_ 153)[4]? = some (0, 0, (-2147483648), 2147483647)) n
    rw [eg]
    exact ⟨0, 0, (-2147483648), 2147483647, by decide +kernel, rfl, by omega, by omega⟩
  | 5, h, _ =>
    rw [show (tf_ 103)[5]? = some (0, 0, 0, 1) by decide +kernel] at h
    cases h
    have eg : g3_ T n (5 : Nat) = T 153 n 5 := by
      unfold g3_
      rw [if_neg (by decide)]
      rfl
    have hb : 0 ≤ T 153 n 5 ∧ T 153 n 5 ≤ 1 := bd_f hT 153 5 (by decide +kernel : (tf_ 153)[5]? = some (0, 0, 0, 1)) n
    rw [eg]
    exact ⟨0, 0, 0, 1, by decide +kernel, rfl, by omega, by omega⟩
  | 6, h, _ =>
    rw [show (tf_ 103)[6]? = some (2, 466, (-2147483648), 2147483647) by decide +kernel] at h
    cases h
    have eg : g3_ T n (6 : Nat) = T 153 n 6 := by
      unfold g3_
      rw [if_neg (by decide)]
      rfl
    have hb : (-2147483648) ≤ T 153 n 6 ∧ T 153 n 6 ≤ 2147483647 := bd_f hT 153 6 (by decide +kernel : (tf_ 153)[6]? = some (5, 466, (-2147483648), 2147483647)) n
    rw [eg]
    exact ⟨5, 466, (-2147483648), 2147483647, by decide +kernel, (by show vR 466 n = fv_ 5 466 (T 153 n 6) n; rw [e6]; exact (fv5_ hn.1).symm), by omega, by omega⟩
  | 7, h, _ =>
    rw [show (tf_ 103)[7]? = some (2, 467, (-2147483648), 2147483647) by decide +kernel] at h
    cases h
    have eg : g3_ T n (7 : Nat) = T 153 n 7 := by
      unfold g3_
      rw [if_neg (by decide)]
      rfl
    have hb : (-2147483648) ≤ T 153 n 7 ∧ T 153 n 7 ≤ 2147483647 := bd_f hT 153 7 (by decide +kernel : (tf_ 153)[7]? = some (5, 467, (-2147483648), 2147483647)) n
    rw [eg]
    exact ⟨5, 467, (-2147483648), 2147483647, by decide +kernel, (by show vR 467 n = fv_ 5 467 (T 153 n 7) n; rw [e7]; exact (fv5_ hn.1).symm), by omega, by omega⟩
  | 8, h, _ =>
    rw [show (tf_ 103)[8]? = some (2, 468, (-2147483648), 2147483647) by decide +kernel] at h
    cases h
    have eg : g3_ T n (8 : Nat) = T 153 n 8 := by
      unfold g3_
      rw [if_neg (by decide)]
      rfl
    have hb : (-2147483648) ≤ T 153 n 8 ∧ T 153 n 8 ≤ 2147483647 := bd_f hT 153 8 (by decide +kernel : (tf_ 153)[8]? = some (5, 468, (-2147483648), 2147483647)) n
    rw [eg]
    exact ⟨5, 468, (-2147483648), 2147483647, by decide +kernel, (by show vR 468 n = fv_ 5 468 (T 153 n 8) n; rw [e8]; exact (fv5_ hn.1).symm), by omega, by omega⟩
  | 9, h, _ =>
    rw [show (tf_ 103)[9]? = some (2, 469, (-2147483648), 2147483647) by decide +kernel] at h
    cases h
    have eg : g3_ T n (9 : Nat) = T 153 n 9 := by
      unfold g3_
      rw [if_neg (by decide)]
      rfl
    have hb : (-2147483648) ≤ T 153 n 9 ∧ T 153 n 9 ≤ 2147483647 := bd_f hT 153 9 (by decide +kernel : (tf_ 153)[9]? = some (5, 469, (-2147483648), 2147483647)) n
    rw [eg]
    exact ⟨5, 469, (-2147483648), 2147483647, by decide +kernel, (by show vR 469 n = fv_ 5 469 (T 153 n 9) n; rw [e9]; exact (fv5_ hn.1).symm), by omega, by omega⟩
  | 10, h, _ =>
    rw [show (tf_ 103)[10]? = some (2, 470, (-2147483648), 2147483647) by decide +kernel] at h
    cases h
    have eg : g3_ T n (10 : Nat) = T 153 n 10 := by
      unfold g3_
      rw [if_neg (by decide)]
      rfl
    have hb : (-2147483648) ≤ T 153 n 10 ∧ T 153 n 10 ≤ 2147483647 := bd_f hT 153 10 (by decide +kernel : (tf_ 153)[10]? = some (5, 470, (-2147483648), 2147483647)) n
    rw [eg]
    exact ⟨5, 470, (-2147483648), 2147483647, by decide +kernel, (by show vR 470 n = fv_ 5 470 (T 153 n 10) n; rw [e10]; exact (fv5_ hn.1).symm), by omega, by omega⟩
  | 11, h, _ =>
    rw [show (tf_ 103)[11]? = some (2, 471, (-2147483648), 2147483647) by decide +kernel] at h
    cases h
    have eg : g3_ T n (11 : Nat) = T 153 n 11 := by
      unfold g3_
      rw [if_neg (by decide)]
      rfl
    have hb : (-2147483648) ≤ T 153 n 11 ∧ T 153 n 11 ≤ 2147483647 := bd_f hT 153 11 (by decide +kernel : (tf_ 153)[11]? = some (5, 471, (-2147483648), 2147483647)) n
    rw [eg]
    exact ⟨5, 471, (-2147483648), 2147483647, by decide +kernel, (by show vR 471 n = fv_ 5 471 (T 153 n 11) n; rw [e11]; exact (fv5_ hn.1).symm), by omega, by omega⟩
  | 12, h, _ =>
    rw [show (tf_ 103)[12]? = some (2, 472, (-2147483648), 2147483647) by decide +kernel] at h
    cases h
    have eg : g3_ T n (12 : Nat) = T 153 n 12 := by
      unfold g3_
      rw [if_neg (by decide)]
      rfl
    have hb : (-2147483648) ≤ T 153 n 12 ∧ T 153 n 12 ≤ 2147483647 := bd_f hT 153 12 (by decide +kernel : (tf_ 153)[12]? = some (5, 472, (-2147483648), 2147483647)) n
    rw [eg]
    exact ⟨5, 472, (-2147483648), 2147483647, by decide +kernel, (by show vR 472 n = fv_ 5 472 (T 153 n 12) n; rw [e12]; exact (fv5_ hn.1).symm), by omega, by omega⟩
  | 13, h, _ =>
    rw [show (tf_ 103)[13]? = some (2, 473, (-2147483648), 2147483647) by decide +kernel] at h
    cases h
    have eg : g3_ T n (13 : Nat) = T 153 n 13 := by
      unfold g3_
      rw [if_neg (by decide)]
      rfl
    have hb : (-2147483648) ≤ T 153 n 13 ∧ T 153 n 13 ≤ 2147483647 := bd_f hT 153 13 (by decide +kernel : (tf_ 153)[13]? = some (5, 473, (-2147483648), 2147483647)) n
    rw [eg]
    exact ⟨5, 473, (-2147483648), 2147483647, by decide +kernel, (by show vR 473 n = fv_ 5 473 (T 153 n 13) n; rw [e13]; exact (fv5_ hn.1).symm), by omega, by omega⟩
  | 14, h, _ =>
    rw [show (tf_ 103)[14]? = some (3, 190, (-2147483648), 2147483647) by decide +kernel] at h
    cases h
    have eg : g3_ T n (14 : Nat) = T 153 n 14 - 1 := by
      unfold g3_
      rw [if_pos (by decide)]
      rfl
    have hb : (-2147483648) ≤ T 153 n 14 ∧ T 153 n 14 ≤ 2147483647 := bd_f hT 153 14 (by decide +kernel : (tf_ 153)[14]? = some (5, 190, (-2147483648), 2147483647)) n
    rw [eg]
    exact ⟨5, 190, (-2147483648), 2147483647, by decide +kernel, (cv3_ e14), by omega, by omega⟩
  | 15, h, _ =>
    rw [show (tf_ 103)[15]? = some (0, 0, 0, 3000) by decide +kernel] at h
    cases h
    have eg : g3_ T n (15 : Nat) = T 153 n 15 := by
      unfold g3_
      rw [if_neg (by decide)]
      rfl
    have hb : 0 ≤ T 153 n 15 ∧ T 153 n 15 ≤ 3000 := bd_f hT 153 15 (by decide +kernel : (tf_ 153)[15]? = some (0, 0, 0, 3000)) n
    rw [eg]
    exact ⟨0, 0, 0, 3000, by decide +kernel, rfl, by omega, by omega⟩
  | 16, h, _ =>
    rw [show (tf_ 103)[16]? = some (3, 190, (-2147483648), 2147483647) by decide +kernel] at h
    cases h
    have eg : g3_ T n (16 : Nat) = T 153 n 16 - 1 := by
      unfold g3_
      rw [if_pos (by decide)]
      rfl
    have hb : (-2147483648) ≤ T 153 n 16 ∧ T 153 n 16 ≤ 2147483647 := bd_f hT 153 16 (by decide +kernel : (tf_ 153)[16]? = some (5, 190, (-2147483648), 2147483647)) n
    rw [eg]
    exact ⟨5, 190, (-2147483648), 2147483647, by decide +kernel, (cv3_ e16), by omega, by omega⟩
  | 17, h, _ =>
    rw [show (tf_ 103)[17]? = some (0, 0, 0, 3000) by decide +kernel] at h
    cases h
    have eg : g3_ T n (17 : Nat) = T 153 n 17 := by
      unfold g3_
      rw [if_neg (by decide)]
      rfl
    have hb : 0 ≤ T 153 n 17 ∧ T 153 n 17 ≤ 3000 := bd_f hT 153 17 (by decide +kernel : (tf_ 153)[17]? = some (0, 0, 0, 3000)) n
    rw [eg]
    exact ⟨0, 0, 0, 3000, by decide +kernel, rfl, by omega, by omega⟩
theorem cw_fr {T U : Zt} {k : Nat} {i : Int} {g : Int → Int} (h : U = cw_ T k i g) : fr_ [(k, []), (k + 50, [-1])] T U := fun k' i' j w => by
  subst h
  by_cases z : k' = k
  · rw [z] at w
    simp [fw_] at w
  · by_cases y : k' = k + 50 ∧ j = -1
    · rw [y.1, y.2] at w
      simp [fw_] at w
    · unfold cw_
      rw [if_neg (fun q => z q.1), if_neg (fun q => y ⟨q.1, q.2.2⟩)]
theorem cw_ts {T U : Zt} {k : Nat} {i : Int} {g : Int → Int} (h : U = cw_ T k i g) (j : Int) (hj : 0 ≤ j) : U k i j = g j := by rw [h, cw_s hj]
theorem cw_to {T U : Zt} {k : Nat} {i : Int} {g : Int → Int} (h : U = cw_ T k i g) (k' : Nat) (i' j : Int) (hi : i' ≠ i) : U k' i' j = T k' i' j := by rw [h, cw_o (fun q => hi q.2) (fun q => hi q.2)]
theorem cw_r {T U : Zt} {k : Nat} {i : Int} {g : Int → Int} (h : U = cw_ T k i g) : ¬ U (k + 50) i (-1) = 1 := by
  rw [h]
  unfold cw_
  rw [if_neg (fun q => by omega), if_pos ⟨rfl, rfl, rfl⟩]
  decide
theorem ow_3 {k : Nat} (a : 460 ≤ k) (b : k < 480) : ow_ k = some 103 := by
  unfold ow_
  rw [if_neg (by omega), if_neg (by omega), if_pos ⟨a, b⟩]
/-- what is sure of a play p, where at most N rows were ever told -/
def Lp_ (N : Int) (T : Zt) (p : Int) : Prop := (0 ≤ T 103 p 15 ∧ 0 ≤ T 103 p 17 ∧ T 103 p 15 + T 103 p 17 ≤ N ∧ 4 * T 103 p 15 ≤ T 190 (T 103 p 14) (-2) ∧ 4 * T 103 p 17 ≤ T 190 (T 103 p 16) (-2) ∧ T 103 p 14 < T 191 0 0 ∧ T 103 p 16 < T 191 0 0 ∧ 0 ≤ T 103 p 0 ∧ T 103 p 0 < T 106 0 2) ∧ lz_ (T 190 (T 103 p 14) (-2)) ∧ lz_ (T 190 (T 103 p 16) (-2)) ∧ (T 103 p 3 = 0 → 1 ≤ T 470 p 0 ∧ 1 ≤ T 470 p 1)
def LP_ (N : Int) (T : Zt) : Prop := ∀ p : Int, 0 ≤ p → p < T 106 0 4 → T 102 p 10 ≠ 0 → Lp_ N T p
/-- rows of any length: what was there keeps its length -/
def lh_ (T T' : Zt) : Prop := (∀ x, x < T 191 0 0 → T' 190 x (-2) = T 190 x (-2)) ∧ T 191 0 0 ≤ T' 191 0 0
theorem lh_r {T : Zt} : lh_ T T := ⟨fun _ _ => rfl, by omega⟩
theorem lh_t {T T1 T2 : Zt} (h : lh_ T T1) (g : lh_ T1 T2) : lh_ T T2 := ⟨fun x hx => (g.1 x (by have := h.2; omega)).trans (h.1 x hx), by have := h.2; have := g.2; omega⟩
theorem lh_f {ws : List (Nat × List Int)} {T T1 T2 : Zt} (h : lh_ T T1) (g : fr_ ws T1 T2) (a : fw_ ws 190 (-2) = false) (b : fw_ ws 191 0 = false) : lh_ T T2 := lh_t h ⟨fun x _ => g 190 x (-2) a, by rw [g 191 0 0 b]; omega⟩
theorem lh_u {T T1 T2 : Zt} {k : Nat} {i j v : Int} (h : lh_ T T1) (e : T2 = up_ T1 k i j v) (hk : k < 190) : lh_ T T2 := lh_t h ⟨fun x _ => up_k e (by omega) _ _, by rw [up_k e (by omega)]; omega⟩
theorem Lp_o {N N' : Int} {T T' : Zt} {q : Int} (h : Lp_ N T q) (hN : N ≤ N') (l : lh_ T T') (hc : T 106 0 2 ≤ T' 106 0 2) (o : T' 103 q 0 = T 103 q 0 ∧ T' 103 q 3 = T 103 q 3 ∧ T' 103 q 14 = T 103 q 14 ∧ T' 103 q 15 = T 103 q 15 ∧ T' 103 q 16 = T 103 q 16 ∧ T' 103 q 17 = T 103 q 17 ∧ T' 470 q 0 = T 470 q 0 ∧ T' 470 q 1 = T 470 q 1) : Lp_ N' T' q := by
  obtain ⟨⟨a1, a2, a3, a4, a5, a6, a7, a8, a9⟩, b1, b2, b3⟩ := h
  obtain ⟨o0, o3, o14, o15, o16, o17, g0, g1⟩ := o
  have l14 : T' 190 (T' 103 q 14) (-2) = T 190 (T 103 q 14) (-2) := by rw [o14]; exact l.1 _ a6
  have l16 : T' 190 (T' 103 q 16) (-2) = T 190 (T 103 q 16) (-2) := by rw [o16]; exact l.1 _ a7
  have l9 := l.2
  refine ⟨⟨by omega, by omega, by omega, by omega, by omega, by omega, by omega, by omega, by omega⟩, by rw [l14]; exact b1, by rw [l16]; exact b2, fun z => ?_⟩
  have := b3 (by omega)
  omega
theorem LP_f {ws : List (Nat × List Int)} {N N' : Int} {T T' : Zt} (h : LP_ N T) (hN : N ≤ N') (l : lh_ T T') (f : fr_ ws T T') (w : fw_ ws 106 4 = false ∧ fw_ ws 106 2 = false ∧ fw_ ws 102 10 = false ∧ fw_ ws 103 0 = false ∧ fw_ ws 103 3 = false ∧ fw_ ws 103 14 = false ∧ fw_ ws 103 15 = false ∧ fw_ ws 103 16 = false ∧ fw_ ws 103 17 = false ∧ fw_ ws 470 0 = false ∧ fw_ ws 470 1 = false) : LP_ N' T' := by
  obtain ⟨w1, w2, w3, w4, w5, w6, w7, w8, w9, w10, w11⟩ := w
  intro p h0 h1 h2
  rw [f 106 0 _ w1] at h1
  rw [f 102 p _ w3] at h2
  exact Lp_o (h p h0 h1 h2) hN l (by rw [f 106 0 _ w2]; omega) ⟨f _ _ _ w4, f _ _ _ w5, f _ _ _ w6, f _ _ _ w7, f _ _ _ w8, f _ _ _ w9, f _ _ _ w10, f _ _ _ w11⟩
/-- one play is told of anew, the others stay -/
theorem LP_q {N N' : Int} {T T' : Zt} {m : Int} (h : LP_ N T) (hN : N ≤ N') (l : lh_ T T') (o : ∀ k i j, i ≠ m → k ≠ 190 → k ≠ 191 → k ≠ 106 → T' k i j = T k i j) (hm : T' 106 0 4 = T 106 0 4) (hc : T' 106 0 2 = T 106 0 2) (n : T' 102 m 10 ≠ 0 → Lp_ N' T' m) : LP_ N' T' := by
  intro p h0 h1 h2
  by_cases z : p = m
  · rw [z] at h2 ⊢
    exact n h2
  · rw [hm] at h1
    have e : ∀ k j, k ≠ 190 → k ≠ 191 → k ≠ 106 → T' k p j = T k p j := fun k j a b c => o k p j z a b c
    rw [e 102 10 (by decide) (by decide) (by decide)] at h2
    exact Lp_o (h p h0 h1 h2) hN l (by omega) ⟨e _ _ (by decide) (by decide) (by decide), e _ _ (by decide) (by decide) (by decide), e _ _ (by decide) (by decide) (by decide), e _ _ (by decide) (by decide) (by decide), e _ _ (by decide) (by decide) (by decide), e _ _ (by decide) (by decide) (by decide), e _ _ (by decide) (by decide) (by decide), e _ _ (by decide) (by decide) (by decide)⟩
/-- what is not there yet -/
def NR_ (T : Zt) : Prop := (∀ i, ¬ T 150 i (-1) = 1) ∧ (∀ i, ¬ T 152 i (-1) = 1) ∧ (∀ i, ¬ T 153 i (-1) = 1)
def NA_ (T : Zt) : Prop := NR_ T ∧ (∀ i, T 106 0 2 ≤ i → ¬ T 100 i (-1) = 1) ∧ (∀ i, T 106 0 4 ≤ i → ¬ T 102 i (-1) = 1) ∧ ∀ i, (T 106 0 4 ≤ i ∨ T 102 i 10 = 0) → ¬ T 103 i (-1) = 1
theorem NA_f {ws : List (Nat × List Int)} {T T' : Zt} (h : NA_ T) (f : fr_ ws T T') (w : fw_ ws 150 (-1) = false ∧ fw_ ws 152 (-1) = false ∧ fw_ ws 153 (-1) = false ∧ fw_ ws 100 (-1) = false ∧ fw_ ws 102 (-1) = false ∧ fw_ ws 103 (-1) = false ∧ fw_ ws 102 10 = false ∧ fw_ ws 106 4 = false ∧ fw_ ws 106 2 = false) : NA_ T' := by
  obtain ⟨w1, w2, w3, w4, w5, w6, w7, w8, w9⟩ := w
  obtain ⟨⟨a, b, c⟩, d, e, g⟩ := h
  refine ⟨⟨fun i => by rw [f 150 i _ w1]; exact a i, fun i => by rw [f 152 i _ w2]; exact b i, fun i => by rw [f 153 i _ w3]; exact c i⟩, fun i hi => ?_, fun i hi => ?_, fun i hi => ?_⟩
  · rw [f 100 i _ w4]; rw [f 106 0 _ w9] at hi; exact d i hi
  · rw [f 102 i _ w5]; rw [f 106 0 _ w8] at hi; exact e i hi
  · rw [f 103 i _ w6]; rw [f 106 0 _ w8, f 102 i _ w7] at hi; exact g i hi

