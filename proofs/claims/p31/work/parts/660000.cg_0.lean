theorem cv3_ {k : Nat} {x n : Int} (h : 1 ≤ x) : fv_ 3 k (x - 1) n = fv_ 5 k x n := by
  show vR k (x - 1) = (if x = 0 then vN else vR k (x - 1))
  rw [if_neg (by omega)]
def g0_ (T : Zt) (n j : Int) : Int := if False then T 150 n j - 1 else T 150 n j
theorem cg_0 {T : Zt} {n : Int} (hT : ok_T T) (hn : 0 ≤ n ∧ n ≤ 2000000000) (e1 : T 150 n 1 = n + 1) (e2 : T 150 n 2 = n + 1) (e3 : T 150 n 3 = n + 1) (e4 : T 150 n 4 = n + 1) : ∀ (j c k1 : Nat) (lo hi : Int), (tf_ 100)[j]? = some (c, k1, lo, hi) → ∃ c2 k2 lo2 hi2, (tf_ (100 + 50))[j]? = some (c2, k2, lo2, hi2) ∧ fv_ c k1 (g0_ T n j) n = fv_ c2 k2 (T (100 + 50) n j) n ∧ lo ≤ g0_ T n j ∧ g0_ T n j ≤ hi := by
  intro j c k1 lo hi h
  have hlt : j < 9 := by
    by_cases z : j < 9
    · exact z
    · rw [List.getElem?_eq_none (by rw [show (tf_ 100).length = 9 by decide +kernel]; omega)] at h; cases h
  match j, h, hlt with
  | 0, h, _ =>
    rw [show (tf_ 100)[0]? = some (0, 0, 0, 3) by decide +kernel] at h
    cases h
    have eg : g0_ T n (0 : Nat) = T 150 n 0 := by
      unfold g0_
      rw [if_neg (by decide)]
      rfl
    have hb : 0 ≤ T 150 n 0 ∧ T 150 n 0 ≤ 3 := bd_f hT 150 0 (by decide +kernel : (tf_ 150)[0]? = some (0, 0, 0, 3)) n
    rw [eg]
    exact ⟨0, 0, 0, 3, by decide +kernel, rfl, by omega, by omega⟩
  | 1, h, _ =>
    rw [show (tf_ 100)[1]? = some (2, 401, (-2147483648), 2147483647) by decide +kernel] at h
    cases h
    have eg : g0_ T n (1 : Nat) = T 150 n 1 := by
      unfold g0_
      rw [if_neg (by decide)]
      rfl
    have hb : (-2147483648) ≤ T 150 n 1 ∧ T 150 n 1 ≤ 2147483647 := bd_f hT 150 1 (by decide +kernel : (tf_ 150)[1]? = some (5, 401, (-2147483648), 2147483647)) n
    rw [eg]
    exact ⟨5, 401, (-2147483648), 2147483647, by decide +kernel, (by show vR 401 n = fv_ 5 401 (T 150 n 1) n; rw [e1]; exact (fv5_ hn.1).symm), by omega, by omega⟩
  | 2, h, _ =>
    rw [show (tf_ 100)[2]? = some (2, 402, (-2147483648), 2147483647) by decide +kernel] at h
    cases h
    have eg : g0_ T n (2 : Nat) = T 150 n 2 := by
      unfold g0_
      rw [if_neg (by decide)]
      rfl
    have hb : (-2147483648) ≤ T 150 n 2 ∧ T 150 n 2 ≤ 2147483647 := bd_f hT 150 2 (by decide +kernel : (tf_ 150)[2]? = some (5, 402, (-2147483648), 2147483647)) n
    rw [eg]
    exact ⟨5, 402, (-2147483648), 2147483647, by decide +kernel, (by show vR 402 n = fv_ 5 402 (T 150 n 2) n; rw [e2]; exact (fv5_ hn.1).symm), by omega, by omega⟩
  | 3, h, _ =>
    rw [show (tf_ 100)[3]? = some (2, 403, (-2147483648), 2147483647) by decide +kernel] at h
    cases h
    have eg : g0_ T n (3 : Nat) = T 150 n 3 := by
      unfold g0_
      rw [if_neg (by decide)]
      rfl
    have hb : (-2147483648) ≤ T 150 n 3 ∧ T 150 n 3 ≤ 2147483647 := bd_f hT 150 3 (by decide +kernel : (tf_ 150)[3]? = some (5, 403, (-2147483648), 2147483647)) n
    rw [eg]
    exact ⟨5, 403, (-2147483648), 2147483647, by decide +kernel, (by show vR 403 n = fv_ 5 403 (T 150 n 3) n; rw [e3]; exact (fv5_ hn.1).symm), by omega, by omega⟩
  | 4, h, _ =>
    rw [show (tf_ 100)[4]? = some (2, 404, (-2147483648), 2147483647) by decide +kernel] at h
    cases h
    have eg : g0_ T n (4 : Nat) = T 150 n 4 := by
      unfold g0_
      rw [if_neg (by decide)]
      rfl
    have hb : (-2147483648) ≤ T 150 n 4 ∧ T 150 n 4 ≤ 2147483647 := bd_f hT 150 4 (by decide +kernel : (tf_ 150)[4]? = some (5, 404, (-2147483648), 2147483647)) n
    rw [eg]
    exact ⟨5, 404, (-2147483648), 2147483647, by decide +kernel, (by show vR 404 n = fv_ 5 404 (T 150 n 4) n; rw [e4]; exact (fv5_ hn.1).symm), by omega, by omega⟩
  | 5, h, _ =>
    rw [show (tf_ 100)[5]? = some (0, 0, 0, 12) by decide +kernel] at h
    cases h
    have eg : g0_ T n (5 : Nat) = T 150 n 5 := by
      unfold g0_
      rw [if_neg (by decide)]
      rfl
    have hb : 0 ≤ T 150 n 5 ∧ T 150 n 5 ≤ 12 := bd_f hT 150 5 (by decide +kernel : (tf_ 150)[5]? = some (0, 0, 0, 12)) n
    rw [eg]
    exact ⟨0, 0, 0, 12, by decide +kernel, rfl, by omega, by omega⟩
  | 6, h, _ =>
    rw [show (tf_ 100)[6]? = some (0, 0, 0, 1) by decide +kernel] at h
    cases h
    have eg : g0_ T n (6 : Nat) = T 150 n 6 := by
      unfold g0_
      rw [if_neg (by decide)]
      rfl
    have hb : 0 ≤ T 150 n 6 ∧ T 150 n 6 ≤ 1 := bd_f hT 150 6 (by decide +kernel : (tf_ 150)[6]? = some (0, 0, 0, 1)) n
    rw [eg]
    exact ⟨0, 0, 0, 1, by decide +kernel, rfl, by omega, by omega⟩
  | 7, h, _ =>
    rw [show (tf_ 100)[7]? = some (0, 0, 0, 400) by decide +kernel] at h
    cases h
    have eg : g0_ T n (7 : Nat) = T 150 n 7 := by
      unfold g0_
      rw [if_neg (by decide)]
      rfl
    have hb : 0 ≤ T 150 n 7 ∧ T 150 n 7 ≤ 400 := bd_f hT 150 7 (by decide +kernel : (tf_ 150)[7]? = some (0, 0, 0, 400)) n
    rw [eg]
    exact ⟨0, 0, 0, 400, by decide +kernel, rfl, by omega, by omega⟩
  | 8, h, _ =>
    rw [show (tf_ 100)[8]? = some (0, 0, 0, 400) by decide +kernel] at h
    cases h
    have eg : g0_ T n (8 : Nat) = T 150 n 8 := by
      unfold g0_
      rw [if_neg (by decide)]
      rfl
    have hb : 0 ≤ T 150 n 8 ∧ T 150 n 8 ≤ 400 := bd_f hT 150 8 (by decide +kernel : (tf_ 150)[8]? = some (0, 0, 0, 400)) n
    rw [eg]
    exact ⟨0, 0, 0, 400, by decide +kernel, rfl, by omega, by omega⟩
