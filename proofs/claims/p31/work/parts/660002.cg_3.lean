def g3_ (T : Zt) (n j : Int) : Int := if j = 0 ∨ j = 14 ∨ j = 16 then T 153 n j - 1 else T 153 n j
theorem cg_3 {T : Zt} {n : Int} (hT : ok_T T) (hn : 0 ≤ n ∧ n ≤ 2000000000) (e0 : 1 ≤ T 153 n 0) (e1 : T 153 n 1 = n + 1) (e2 : T 153 n 2 = n + 1) (e6 : T 153 n 6 = n + 1) (e7 : T 153 n 7 = n + 1) (e8 : T 153 n 8 = n + 1) (e9 : T 153 n 9 = n + 1) (e10 : T 153 n 10 = n + 1) (e11 : T 153 n 11 = n + 1) (e12 : T 153 n 12 = n + 1) (e13 : T 153 n 13 = n + 1) (e14 : 1 ≤ T 153 n 14) (e16 : 1 ≤ T 153 n 16) : ∀ (j c k1 : Nat) (lo hi : Int), (tf_ 103)[j]? = some (c, k1, lo, hi) → ∃ c2 k2 lo2 hi2, (tf_ (103 + 50))[j]? = some (c2, k2, lo2, hi2) ∧ fv_ c k1 (g3_ T n j) n = fv_ c2 k2 (T (103 + 50) n j) n ∧ lo ≤ g3_ T n j ∧ g3_ T n j ≤ hi := by
  intro j c k1 lo hi h
  have hlt : j < 18 := by
    by_cases z : j < 18
    · exact z
    · rw [List.getElem?_eq_none (by rw [show (tf_ 103).length = 18 by decide +kernel]; omega)] at h; cases h
  match j, h, hlt with
  | 0, h, _ =>
    rw [show (tf_ 103)[0]? = some (3, 401, (-2147483648), 2147483647) by decide +kernel] at h
    cases h
    have eg : g3_ T n (0 : Nat) = T 153 n 0 - 1 := by
      unfold g3_
      rw [if_pos (by decide)]
      rfl
    have hb : (-2147483648) ≤ T 153 n 0 ∧ T 153 n 0 ≤ 2147483647 := bd_f hT 153 0 (by decide +kernel : (tf_ 153)[0]? = some (5, 401, (-2147483648), 2147483647)) n
    rw [eg]
    exact ⟨5, 401, (-2147483648), 2147483647, by decide +kernel, (cv3_ e0), by omega, by omega⟩
  | 1, h, _ =>
    rw [show (tf_ 103)[1]? = some (2, 448, (-2147483648), 2147483647) by decide +kernel] at h
    cases h
    have eg : g3_ T n (1 : Nat) = T 153 n 1 := by
      unfold g3_
      rw [if_neg (by decide)]
      rfl
    have hb : (-2147483648) ≤ T 153 n 1 ∧ T 153 n 1 ≤ 2147483647 := bd_f hT 153 1 (by decide +kernel : (tf_ 153)[1]? = some (5, 448, (-2147483648), 2147483647)) n
    rw [eg]
    exact ⟨5, 448, (-2147483648), 2147483647, by decide +kernel, (by show vR 448 n = fv_ 5 448 (T 153 n 1) n; rw [e1]; exact (fv5_ hn.1).symm), by omega, by omega⟩
  | 2, h, _ =>
    rw [show (tf_ 103)[2]? = some (2, 449, (-2147483648), 2147483647) by decide +kernel] at h
    cases h
    have eg : g3_ T n (2 : Nat) = T 153 n 2 := by
      unfold g3_
      rw [if_neg (by decide)]
      rfl
    have hb : (-2147483648) ≤ T 153 n 2 ∧ T 153 n 2 ≤ 2147483647 := bd_f hT 153 2 (by decide +kernel : (tf_ 153)[2]? = some (5, 449, (-2147483648), 2147483647)) n
    rw [eg]
    exact ⟨5, 449, (-2147483648), 2147483647, by decide +kernel, (by show vR 449 n = fv_ 5 449 (T 153 n 2) n; rw [e2]; exact (fv5_ hn.1).symm), by omega, by omega⟩
  | 3, h, _ =>
    rw [show (tf_ 103)[3]? = some (0, 0, 0, 1) by decide +kernel] at h
    cases h
    have eg : g3_ T n (3 : Nat) = T 153 n 3 := by
      unfold g3_
      rw [if_neg (by decide)]
      rfl
    have hb : 0 ≤ T 153 n 3 ∧ T 153 n 3 ≤ 1 := bd_f hT 153 3 (by decide +kernel : (tf_ 153)[3]? = some (0, 0, 0, 1)) n
    rw [eg]
    exact ⟨0, 0, 0, 1, by decide +kernel, rfl, by omega, by omega⟩
  | 4, h, _ =>
    rw [show (tf_ 103)[4]? = some (0, 0, (-2147483648), 2147483647) by decide +kernel] at h
    cases h
    have eg : g3_ T n (4 : Nat) = T 153 n 4 := by
      unfold g3_
      rw [if_neg (by decide)]
      rfl
    have hb : (-2147483648) ≤ T 153 n 4 ∧ T 153 n 4 ≤ 2147483647 := bd_f hT 153 4 (by decide +kernel : (tf_ 153)[4]? = some (0, 0, (-2147483648), 2147483647)) n
    rw [eg]
    exact ⟨0, 0, (-2147483648), 2147483647, by decide +kernel, rfl, by omega, by omega⟩
  | 5, h, _ =>
    rw [show (tf_ 103)[5]? = some (0, 0, 0, 1) by decide +kernel] at h
    cases h
    have eg : g3_ T n (5 : Nat) = T 153 n 5 := by
      unfold g3_
      rw [if_neg (by decide)]
      rfl
    have hb : 0 ≤ T 153 n 5 ∧ T 153 n 5 ≤ 1 := bd_f hT 153 5 (by decide +kernel : (tf_ 153)[5]? = some (0, 0, 0, 1)) n
    rw [eg]
    exact ⟨0, 0, 0, 1, by decide +kernel, rfl, by omega, by omega⟩
  | 6, h, _ =>
    rw [show (tf_ 103)[6]? = some (2, 466, (-2147483648), 2147483647) by decide +kernel] at h
    cases h
    have eg : g3_ T n (6 : Nat) = T 153 n 6 := by
      unfold g3_
      rw [if_neg (by decide)]
      rfl
    have hb : (-2147483648) ≤ T 153 n 6 ∧ T 153 n 6 ≤ 2147483647 := bd_f hT 153 6 (by decide +kernel : (tf_ 153)[6]? = some (5, 466, (-2147483648), 2147483647)) n
    rw [eg]
    exact ⟨5, 466, (-2147483648), 2147483647, by decide +kernel, (by show vR 466 n = fv_ 5 466 (T 153 n 6) n; rw [e6]; exact (fv5_ hn.1).symm), by omega, by omega⟩
  | 7, h, _ =>
    rw [show (tf_ 103)[7]? = some (2, 467, (-2147483648), 2147483647) by decide +kernel] at h
    cases h
    have eg : g3_ T n (7 : Nat) = T 153 n 7 := by
      unfold g3_
      rw [if_neg (by decide)]
      rfl
    have hb : (-2147483648) ≤ T 153 n 7 ∧ T 153 n 7 ≤ 2147483647 := bd_f hT 153 7 (by decide +kernel : (tf_ 153)[7]? = some (5, 467, (-2147483648), 2147483647)) n
    rw [eg]
    exact ⟨5, 467, (-2147483648), 2147483647, by decide +kernel, (by show vR 467 n = fv_ 5 467 (T 153 n 7) n; rw [e7]; exact (fv5_ hn.1).symm), by omega, by omega⟩
  | 8, h, _ =>
    rw [show (tf_ 103)[8]? = some (2, 468, (-2147483648), 2147483647) by decide +kernel] at h
    cases h
    have eg : g3_ T n (8 : Nat) = T 153 n 8 := by
      unfold g3_
      rw [if_neg (by decide)]
      rfl
    have hb : (-2147483648) ≤ T 153 n 8 ∧ T 153 n 8 ≤ 2147483647 := bd_f hT 153 8 (by decide +kernel : (tf_ 153)[8]? = some (5, 468, (-2147483648), 2147483647)) n
    rw [eg]
    exact ⟨5, 468, (-2147483648), 2147483647, by decide +kernel, (by show vR 468 n = fv_ 5 468 (T 153 n 8) n; rw [e8]; exact (fv5_ hn.1).symm), by omega, by omega⟩
  | 9, h, _ =>
    rw [show (tf_ 103)[9]? = some (2, 469, (-2147483648), 2147483647) by decide +kernel] at h
    cases h
    have eg : g3_ T n (9 : Nat) = T 153 n 9 := by
      unfold g3_
      rw [if_neg (by decide)]
      rfl
    have hb : (-2147483648) ≤ T 153 n 9 ∧ T 153 n 9 ≤ 2147483647 := bd_f hT 153 9 (by decide +kernel : (tf_ 153)[9]? = some (5, 469, (-2147483648), 2147483647)) n
    rw [eg]
    exact ⟨5, 469, (-2147483648), 2147483647, by decide +kernel, (by show vR 469 n = fv_ 5 469 (T 153 n 9) n; rw [e9]; exact (fv5_ hn.1).symm), by omega, by omega⟩
  | 10, h, _ =>
    rw [show (tf_ 103)[10]? = some (2, 470, (-2147483648), 2147483647) by decide +kernel] at h
    cases h
    have eg : g3_ T n (10 : Nat) = T 153 n 10 := by
      unfold g3_
      rw [if_neg (by decide)]
      rfl
    have hb : (-2147483648) ≤ T 153 n 10 ∧ T 153 n 10 ≤ 2147483647 := bd_f hT 153 10 (by decide +kernel : (tf_ 153)[10]? = some (5, 470, (-2147483648), 2147483647)) n
    rw [eg]
    exact ⟨5, 470, (-2147483648), 2147483647, by decide +kernel, (by show vR 470 n = fv_ 5 470 (T 153 n 10) n; rw [e10]; exact (fv5_ hn.1).symm), by omega, by omega⟩
  | 11, h, _ =>
    rw [show (tf_ 103)[11]? = some (2, 471, (-2147483648), 2147483647) by decide +kernel] at h
    cases h
    have eg : g3_ T n (11 : Nat) = T 153 n 11 := by
      unfold g3_
      rw [if_neg (by decide)]
      rfl
    have hb : (-2147483648) ≤ T 153 n 11 ∧ T 153 n 11 ≤ 2147483647 := bd_f hT 153 11 (by decide +kernel : (tf_ 153)[11]? = some (5, 471, (-2147483648), 2147483647)) n
    rw [eg]
    exact ⟨5, 471, (-2147483648), 2147483647, by decide +kernel, (by show vR 471 n = fv_ 5 471 (T 153 n 11) n; rw [e11]; exact (fv5_ hn.1).symm), by omega, by omega⟩
  | 12, h, _ =>
    rw [show (tf_ 103)[12]? = some (2, 472, (-2147483648), 2147483647) by decide +kernel] at h
    cases h
    have eg : g3_ T n (12 : Nat) = T 153 n 12 := by
      unfold g3_
      rw [if_neg (by decide)]
      rfl
    have hb : (-2147483648) ≤ T 153 n 12 ∧ T 153 n 12 ≤ 2147483647 := bd_f hT 153 12 (by decide +kernel : (tf_ 153)[12]? = some (5, 472, (-2147483648), 2147483647)) n
    rw [eg]
    exact ⟨5, 472, (-2147483648), 2147483647, by decide +kernel, (by show vR 472 n = fv_ 5 472 (T 153 n 12) n; rw [e12]; exact (fv5_ hn.1).symm), by omega, by omega⟩
  | 13, h, _ =>
    rw [show (tf_ 103)[13]? = some (2, 473, (-2147483648), 2147483647) by decide +kernel] at h
    cases h
    have eg : g3_ T n (13 : Nat) = T 153 n 13 := by
      unfold g3_
      rw [if_neg (by decide)]
      rfl
    have hb : (-2147483648) ≤ T 153 n 13 ∧ T 153 n 13 ≤ 2147483647 := bd_f hT 153 13 (by decide +kernel : (tf_ 153)[13]? = some (5, 473, (-2147483648), 2147483647)) n
    rw [eg]
    exact ⟨5, 473, (-2147483648), 2147483647, by decide +kernel, (by show vR 473 n = fv_ 5 473 (T 153 n 13) n; rw [e13]; exact (fv5_ hn.1).symm), by omega, by omega⟩
  | 14, h, _ =>
    rw [show (tf_ 103)[14]? = some (3, 190, (-2147483648), 2147483647) by decide +kernel] at h
    cases h
    have eg : g3_ T n (14 : Nat) = T 153 n 14 - 1 := by
      unfold g3_
      rw [if_pos (by decide)]
      rfl
    have hb : (-2147483648) ≤ T 153 n 14 ∧ T 153 n 14 ≤ 2147483647 := bd_f hT 153 14 (by decide +kernel : (tf_ 153)[14]? = some (5, 190, (-2147483648), 2147483647)) n
    rw [eg]
    exact ⟨5, 190, (-2147483648), 2147483647, by decide +kernel, (cv3_ e14), by omega, by omega⟩
  | 15, h, _ =>
    rw [show (tf_ 103)[15]? = some (0, 0, 0, 3000) by decide +kernel] at h
    cases h
    have eg : g3_ T n (15 : Nat) = T 153 n 15 := by
      unfold g3_
      rw [if_neg (by decide)]
      rfl
    have hb : 0 ≤ T 153 n 15 ∧ T 153 n 15 ≤ 3000 := bd_f hT 153 15 (by decide +kernel : (tf_ 153)[15]? = some (0, 0, 0, 3000)) n
    rw [eg]
    exact ⟨0, 0, 0, 3000, by decide +kernel, rfl, by omega, by omega⟩
  | 16, h, _ =>
    rw [show (tf_ 103)[16]? = some (3, 190, (-2147483648), 2147483647) by decide +kernel] at h
    cases h
    have eg : g3_ T n (16 : Nat) = T 153 n 16 - 1 := by
      unfold g3_
      rw [if_pos (by decide)]
      rfl
    have hb : (-2147483648) ≤ T 153 n 16 ∧ T 153 n 16 ≤ 2147483647 := bd_f hT 153 16 (by decide +kernel : (tf_ 153)[16]? = some (5, 190, (-2147483648), 2147483647)) n
    rw [eg]
    exact ⟨5, 190, (-2147483648), 2147483647, by decide +kernel, (cv3_ e16), by omega, by omega⟩
  | 17, h, _ =>
    rw [show (tf_ 103)[17]? = some (0, 0, 0, 3000) by decide +kernel] at h
    cases h
    have eg : g3_ T n (17 : Nat) = T 153 n 17 := by
      unfold g3_
      rw [if_neg (by decide)]
      rfl
    have hb : 0 ≤ T 153 n 17 ∧ T 153 n 17 ≤ 3000 := bd_f hT 153 17 (by decide +kernel : (tf_ 153)[17]? = some (0, 0, 0, 3000)) n
    rw [eg]
    exact ⟨0, 0, 0, 3000, by decide +kernel, rfl, by omega, by omega⟩
