-- bans and line-ups of both sides alike
theorem coc_k {T T' : Zt} {p d : Int} (e : ∀ (k : Nat) (j : Int), k = 217 ∨ k = 218 ∨ k = 219 ∨ k = 220 → T' k 0 j = T k 0 j) (e16 : T' 111 0 16 = T 111 0 16) : co9_c T' p d = co9_c T p d := by
  unfold co9_c
  rw [e16]
  exact cnn_k e _
theorem plN_n {T : Zt} {m q s : Int} : ∀ (n : Nat) (i : Int), 0 ≤ s → 0 ≤ i → plN_ T m q s n i = -1 → ∀ k, i ≤ k → k < i + (n : Int) → T 448 m (s * 10 + k) ≠ q
  | 0, i, _, _, _, k, a, b => by omega
  | n + 1, i, s0, i0, h, k, a, b => by
    by_cases z : T 448 m (s * 10 + i) = q
    · rw [plN_t z] at h
      omega
    · rw [plN_f z] at h
      by_cases y : k = i
      · rw [y]; exact z
      · exact plN_n n (i + 1) s0 (by omega) h k (by omega) (by omega)
/-- the place on one sheet -/
theorem pl_sl1 {T : Zt} {m q s : Int} (h : SHM_ T m) (s0 : 0 ≤ s) (s1 : s ≤ 1) : (plN_ T m q s (T 449 m s).toNat 0 = -1 ∧ slR_ (rp9_ T m) s q = -1) ∨ (s * 10 ≤ plN_ T m q s (T 449 m s).toNat 0 ∧ plN_ T m q s (T 449 m s).toNat 0 < s * 10 + T 449 m s ∧ slR_ (rp9_ T m) s q = plN_ T m q s (T 449 m s).toNat 0) := by
  have g := h.1 s s0 s1
  have e48 : ∀ x, s * 10 ≤ x → x < s * 10 + T 449 m s → rp9_ T m 448 x = T 448 m x := fun x x0 x1 => by
    rw [rp_40 (by omega) (by omega)]
    exact h.2.1 s x s0 s1 x0 x1
  unfold slR_
  rw [rp_39 s0 s1, g.1]
  rcases plN_b (T := T) (m := m) (q := q) (s := s) (T 449 m s).toNat 0 with y | y
  · refine Or.inl ⟨y, ?_⟩
    rcases sln_b (a := rp9_ T m) (s := s) (q := q) (T 449 m s).toNat with w | w
    · exact w
    · exfalso
      have n := plN_n (T 449 m s).toNat 0 s0 (by decide) y (sln_ (rp9_ T m) s q (T 449 m s).toNat - s * 10) (by omega) (by omega)
      rw [show s * 10 + (sln_ (rp9_ T m) s q (T 449 m s).toNat - s * 10) = sln_ (rp9_ T m) s q (T 449 m s).toNat by omega, ← e48 _ (by omega) (by omega)] at n
      exact n w.2.2
  · have y1 : plN_ T m q s (T 449 m s).toNat 0 < s * 10 + T 449 m s := by omega
    refine Or.inr ⟨by omega, y1, ?_⟩
    refine sl_u _ (by omega) (by omega) ((e48 _ (by omega) y1).trans y.2.2) (fun x x0 x1 e => ?_)
    rw [e48 x x0 (by omega)] at e
    exact h.2.2 s x _ s0 s1 x0 (by omega) (by omega) y1 (e.trans y.2.2.symm)
/-- the place on the sheets -/
theorem pl_sl {T : Zt} {m q : Int} (m0 : 0 ≤ m) (h : SHM_ T m) : (plc_ T m q = -1 ∧ slc_ T m q = -1) ∨ (∃ t, (0 ≤ t ∧ t ≤ 1) ∧ t * 10 ≤ plc_ T m q ∧ plc_ T m q < t * 10 + T 449 m t ∧ slc_ T m q = 20 * m + plc_ T m q) := by
  have g0 := h.1 0 (by decide) (by decide)
  have g1 := h.1 1 (by decide) (by decide)
  rcases pl_sl1 (q := q) h (s := 0) (by decide) (by decide) with ⟨a, b⟩ | ⟨a, b, c⟩
  · have e0 : ab9_ m (slR_ (rp9_ T m) 0 q) = -1 := ab_1 b
    rw [plc_1 a, slc_1 rfl e0 rfl]
    rcases pl_sl1 (q := q) h (s := 1) (by decide) (by decide) with ⟨u, v⟩ | ⟨u, v, w⟩
    · exact Or.inl ⟨u, ab_1 v⟩
    · refine Or.inr ⟨1, by decide, u, v, ?_⟩
      rw [ab_2 (by omega), w]
  · have e0 : ab9_ m (slR_ (rp9_ T m) 0 q) = 20 * m + plN_ T m q 0 (T 449 m 0).toNat 0 := by rw [ab_2 (by omega), c]
    rw [plc_0 (by omega), slc_0 rfl (by omega), e0]
    exact Or.inr ⟨0, by decide, a, b, rfl⟩
/-- whether a match is decided -/
theorem pm_d {T : Zt} {m : Int} (h : PM_ T m) : (T 102 m 6 ≠ -1 ∨ (T 102 m 10 ≠ 0 ∧ T 103 m 3 ≠ 0)) ↔ (T 235 0 m = 2 ∨ T 235 0 m = 3) := by
  rcases h with z | z | z
  · have a := z.1
    have b := z.2.1
    have c := z.2.2.1
    constructor
    · intro u; omega
    · intro u; omega
  · have a := z.2.2.1
    have c := z.2.1
    constructor
    · intro u; omega
    · intro u; omega
  · obtain ⟨n, -, ps⟩ := z.2.2.2.1
    have e := ps.1.2.2.1.2.2
    rw [rp_35, show rs9_ T m 103 3 = T 103 m 3 from rs_d rfl] at e
    have a := z.1
    have b := z.2.1
    constructor
    · intro u; omega
    · intro u; omega
theorem kd_q {T : Zt} {m q : Int} (m0 : 0 ≤ m) (h : SHM_ T m) (g : PM_ T m) (d : T 235 0 m = 2 ∨ T 235 0 m = 3) : kdH_ T q m = kdR_ T q m ∧ (kdH_ T q m = 2 → yvH_ T q m = yvR_ T q m) := by
  rcases g with z | z | z
  · have c := z.2.2.1
    exfalso; omega
  · have c := z.2.1
    rw [kdH_0 (Or.inl z.1), kdR_0 (fun y => by omega)]
    exact ⟨rfl, fun y => absurd y (by decide)⟩
  · obtain ⟨n, -, ps⟩ := z.2.2.2.1
    have e3 := ps.1.2.2.1.2.2
    rw [rp_35] at e3
    have e2 : T 235 0 m = 2 := by omega
    rcases pl_sl (q := q) m0 h with ⟨a, b⟩ | ⟨t, ht, a, b, c⟩
    · rw [kdH_0 (Or.inr a), kdR_0 (fun y => y.2 b)]
      exact ⟨rfl, fun y => absurd y (by decide)⟩
    · have g49 := h.1 t ht.1 ht.2
      have r49 : rs9_ T m 449 t = T 449 m t := rs_d rfl
      have eq := ps.1.2.2.2.2 t (plc_ T m q) ht.1 ht.2 a (by rw [r49]; exact b)
      have d0 : 0 ≤ plc_ T m q ∧ plc_ T m q ≤ 19 := by omega
      rw [show rs9_ T m 472 (plc_ T m q) = T 472 m (plc_ T m q) from rs_d rfl, show rs9_ T m 473 (plc_ T m q) = T 473 m (plc_ T m q) from rs_d rfl, rp_v (m := m) (K := 242) (x := 20 * m + plc_ T m q) (dm_473 d0) rfl rfl, rp_v (m := m) (K := 243) (x := 20 * m + plc_ T m q) (dm_474 d0) rfl rfl, ← c] at eq
      have n1 : ¬ (T 102 m 10 = 0 ∨ plc_ T m q = -1) := fun y => by
        rcases y with y | y
        · exact z.2.1 y
        · omega
      have n2 : T 235 0 m = 2 ∧ slc_ T m q ≠ -1 := ⟨e2, by omega⟩
      rcases eq.2.2 with ⟨y1, -, y3⟩ | ⟨y1, -, y3⟩
      · rw [kdH_1 n1 y1, kdR_1 n2 y3]
        exact ⟨rfl, fun y => absurd y (by decide)⟩
      · rw [kdH_2 n1 y1, kdR_2 n2 (by omega)]
        exact ⟨rfl, fun _ => eq.2.1.symm⟩
