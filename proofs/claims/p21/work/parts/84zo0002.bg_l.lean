/-- how a match of the reference begins -/
def BGR_ (m : Int) (r : Int → Int) (a b : Sg_) : Prop :=
  (∀ t, 0 ≤ t → t ≤ 1 → b 449 t = a 449 t) ∧ (∀ t x, 0 ≤ t → t ≤ 1 → t * 10 ≤ x → x < t * 10 + a 449 t → b 448 x = a 448 x) ∧ (∀ t, 0 ≤ t → t ≤ 1 → b 470 t = r 9) ∧
  (∀ t x, 0 ≤ t → t ≤ 1 → t * 10 ≤ x → x < t * 10 + a 449 t → (x < t * 10 + r 9 → b 472 x = 1) ∧ (t * 10 + r 9 ≤ x → b 472 x = 0) ∧ b 473 x = 0 ∧ b 474 x = 0) ∧
  (∀ t x, 0 ≤ t → t ≤ 1 → t * 6 ≤ x → x < t * 6 + r 9 → b 471 x = 20 * m + t * 10 + (x - t * 6)) ∧
  (b 466 0 = 0 ∧ b 466 1 = 0 ∧ b 467 0 = 0 ∧ b 467 1 = 0 ∧ b 468 0 = 0 ∧ b 468 1 = 0 ∧ b 469 0 = 0 ∧ b 469 1 = 0) ∧ b 103 4 = 0 ∧ b 103 5 = cz_ (r 0 = 3) 1 0 ∧ b 103 3 = 1
theorem bg_l {T T' : Zt} {m : Int} {ru : Int → Int} (hru : RLR_ T m ru) (h9 : 1 ≤ ru 9 ∧ ru 9 ≤ 6) (g49 : ∀ t, 0 ≤ t → t ≤ 1 → 0 ≤ T 239 0 (2 * m + t) ∧ T 239 0 (2 * m + t) ≤ 10) (e39 : ∀ j, T' 239 0 j = T 239 0 j) (e40 : ∀ j, T' 240 0 j = T 240 0 j)
    (h1 : ∀ j, 2 * m ≤ j → j < 2 * m + 2 → T' 244 0 j = T 205 0 (23 * T 230 0 m + 9))
    (h2 : ∀ j, 20 * m ≤ j → j < 20 * m + 20 → j % 10 < T 239 0 (j / 10) → (j % 10 < T 205 0 (23 * T 230 0 m + 9) → T' 241 0 j = 1) ∧ (T 205 0 (23 * T 230 0 m + 9) ≤ j % 10 → T' 241 0 j = 0) ∧ T' 242 0 j = 0 ∧ T' 243 0 j = 0)
    (h3 : ∀ j, 12 * m ≤ j → j < 12 * m + 12 → j % 6 < T 205 0 (23 * T 230 0 m + 9) → T' 245 0 j = 10 * (j / 6) + j % 6)
    (h4 : ∀ j, 8 * m ≤ j → j < 8 * m + 8 → j ≠ 8 * m + 5 → T' 246 0 j = 0) (h5 : (T 205 0 (23 * T 230 0 m + 0) = 3 → T' 246 0 (8 * m + 5) = 1) ∧ (T 205 0 (23 * T 230 0 m + 0) ≠ 3 → T' 246 0 (8 * m + 5) = 0)) (h6 : T' 236 0 m = 0) (h7 : T' 237 0 m = 0) (h8 : T' 235 0 m = 1) : BGR_ m ru (rp9_ T m) (rp9_ T' m) := by
  have r9 := hru 9 (by decide) (by decide)
  have r0 := hru 0 (by decide) (by decide)
  rw [r9] at h1 h2 h3
  rw [r0] at h5
  have a49 : ∀ t, 0 ≤ t → t ≤ 1 → rp9_ T m 449 t = T 239 0 (2 * m + t) := fun t t0 t1 => rp_v (dm_449 ⟨t0, t1⟩) rfl rfl
  refine ⟨fun t t0 t1 => ?_, fun t x t0 t1 x0 x1 => ?_, fun t t0 t1 => ?_, fun t x t0 t1 x0 x1 => ?_, fun t x t0 t1 x0 x1 => ?_, ⟨?_, ?_, ?_, ?_, ?_, ?_, ?_, ?_⟩, ?_, ?_, ?_⟩
  · rw [a49 t t0 t1, rp_v (m := m) (K := 239) (x := 2 * m + t) (dm_449 ⟨t0, t1⟩) rfl rfl, e39]
  · have g := g49 t t0 t1
    rw [a49 t t0 t1] at x1
    have d : 0 ≤ x ∧ x ≤ 19 := by omega
    rw [rp_v (m := m) (K := 240) (x := 20 * m + x) (dm_448 d) rfl rfl, rp_v (m := m) (K := 240) (x := 20 * m + x) (dm_448 d) rfl rfl, e40]
  · rw [rp_v (m := m) (K := 244) (x := 2 * m + t) (dm_470 ⟨t0, t1⟩) rfl rfl]
    exact h1 _ (by omega) (by omega)
  · have g := g49 t t0 t1
    rw [a49 t t0 t1] at x1
    have d : 0 ≤ x ∧ x ≤ 19 := by omega
    have q1 : (20 * m + x) / 10 = 2 * m + t := by omega
    have q2 : (20 * m + x) % 10 = x - t * 10 := by omega
    have y := h2 (20 * m + x) (by omega) (by omega) (by rw [q1, q2]; omega)
    rw [q2] at y
    rw [rp_v (m := m) (K := 241) (x := 20 * m + x) (dm_472 d) rfl rfl, rp_v (m := m) (K := 242) (x := 20 * m + x) (dm_473 d) rfl rfl, rp_v (m := m) (K := 243) (x := 20 * m + x) (dm_474 d) rfl rfl]
    exact ⟨fun z => y.1 (by omega), fun z => y.2.1 (by omega), y.2.2⟩
  · have d : 0 ≤ x ∧ x ≤ 11 := by omega
    rw [rp_v (m := m) (K := 245) (x := 12 * m + x) (dm_471 d) rfl rfl, h3 (12 * m + x) (by omega) (by omega) (by omega)]
    omega
  · rw [rp_v (m := m) (k := 466) (j := 0) (K := 246) (x := 8 * m + 1 + 0) rfl rfl rfl]; exact h4 _ (by omega) (by omega) (by omega)
  · rw [rp_v (m := m) (k := 466) (j := 1) (K := 246) (x := 8 * m + 1 + 1) rfl rfl rfl]; exact h4 _ (by omega) (by omega) (by omega)
  · rw [rp_v (m := m) (k := 467) (j := 0) (K := 246) (x := 8 * m + 3 + 0) rfl rfl rfl]; exact h4 _ (by omega) (by omega) (by omega)
  · rw [rp_v (m := m) (k := 467) (j := 1) (K := 246) (x := 8 * m + 3 + 1) rfl rfl rfl]; exact h4 _ (by omega) (by omega) (by omega)
  · rw [rp_v (m := m) (k := 468) (j := 0) (K := 236) (x := m) rfl rfl rfl]; exact h6
  · rw [rp_v (m := m) (k := 468) (j := 1) (K := 237) (x := m) rfl rfl rfl]; exact h7
  · rw [rp_v (m := m) (k := 469) (j := 0) (K := 246) (x := 8 * m + 6 + 0) rfl rfl rfl]; exact h4 _ (by omega) (by omega) (by omega)
  · rw [rp_v (m := m) (k := 469) (j := 1) (K := 246) (x := 8 * m + 6 + 1) rfl rfl rfl]; exact h4 _ (by omega) (by omega) (by omega)
  · rw [rp_v (m := m) (k := 103) (j := 4) (K := 246) (x := 8 * m) rfl rfl rfl]; exact h4 _ (by omega) (by omega) (by omega)
  · rw [rp_v (m := m) (k := 103) (j := 5) (K := 246) (x := 8 * m + 5) rfl rfl rfl]
    by_cases z : ru 0 = 3
    · rw [cz_t z]; exact h5.1 z
    · rw [cz_f z]; exact h5.2 z
  · rw [rp_v (m := m) (k := 103) (j := 3) (K := 235) (x := m) rfl rfl rfl]; exact h8
