def DD_ (T : Zt) : Prop := ∀ i j : Int, 0 ≤ i → i < j → j < T 106 0 4 → T 102 i 6 = -1 → T 102 j 6 = -1 → T 102 i 0 = T 102 j 0 → T 102 i 3 = T 102 j 3 → T 102 i 5 ≠ T 102 j 5
theorem DD__f {ws : List (Nat × List Int)} {T T' : Zt} (h : DD_ T) (f : fr_ ws T T') (w : fw_ ws 102 0 = false ∧ fw_ ws 102 3 = false ∧ fw_ ws 102 5 = false ∧ fw_ ws 102 6 = false ∧ fw_ ws 106 4 = false ∧ True) : DD_ T' := by
  have e0 : ∀ i, T' 102 i 0 = T 102 i 0 := fun i => f 102 i 0 w.1
  have e1 : ∀ i, T' 102 i 3 = T 102 i 3 := fun i => f 102 i 3 w.2.1
  have e2 : ∀ i, T' 102 i 5 = T 102 i 5 := fun i => f 102 i 5 w.2.2.1
  have e3 : ∀ i, T' 102 i 6 = T 102 i 6 := fun i => f 102 i 6 w.2.2.2.1
  have e4 : ∀ i, T' 106 i 4 = T 106 i 4 := fun i => f 106 i 4 w.2.2.2.2.1
  simp only [DD_, e0, e1, e2, e3, e4] at h ⊢
  exact h
def KP_ (T : Zt) : Prop := ∀ m : Int, 0 ≤ m → m < T 106 0 4 → T 100 (T 102 m 0) 6 = 1
theorem KP__f {ws : List (Nat × List Int)} {T T' : Zt} (h : KP_ T) (f : fr_ ws T T') (w : fw_ ws 102 0 = false ∧ fw_ ws 100 6 = false ∧ fw_ ws 106 4 = false ∧ True) : KP_ T' := by
  have e0 : ∀ i, T' 102 i 0 = T 102 i 0 := fun i => f 102 i 0 w.1
  have e1 : ∀ i, T' 100 i 6 = T 100 i 6 := fun i => f 100 i 6 w.2.1
  have e2 : ∀ i, T' 106 i 4 = T 106 i 4 := fun i => f 106 i 4 w.2.2.1
  simp only [KP_, e0, e1, e2] at h ⊢
  exact h
def KB_ (T : Zt) : Prop := ∀ c : Int, 0 ≤ c → c < T 106 0 2 → (0 ≤ T 401 c 6 ∧ T 401 c 6 ≤ 4) ∧ 1 ≤ T 401 c 7 ∧ T 401 c 7 ≤ 30
theorem KB__f {ws : List (Nat × List Int)} {T T' : Zt} (h : KB_ T) (f : fr_ ws T T') (w : (∀ j, fw_ ws 401 j = false) ∧ fw_ ws 106 2 = false ∧ True) : KB_ T' := by
  have e0 : ∀ i j, T' 401 i j = T 401 i j := fun i j => f 401 i j (w.1 j)
  have e1 : ∀ i, T' 106 i 2 = T 106 i 2 := fun i => f 106 i 2 w.2.1
  simp only [KB_, e0, e1] at h ⊢
  exact h
/-- what a plan leaves -/
def SJ_ (T T' : Zt) (c : Int) : Prop := (0 ≤ c ∧ c < T 106 0 2 ∧ T 100 c 6 = 0) ∧ fr_ [(106, [4]), (523, []), (152, []), (102, []), (448, []), (449, []), (100, [6, 7, 8])] T T' ∧ (∀ i j, i < T 106 0 4 → T' 102 i j = T 102 i j) ∧ RK_ T' c (T 106 0 4) (T 100 c 5 + an_ (T 100 c 5) 1 - 1) 0 0 2000000 ∧ (T' 100 c 6 = 1 ∧ T' 100 c 7 = T 106 0 4 ∧ T' 100 c 8 = T' 106 0 4 - T 106 0 4) ∧ ∀ i j, i ≠ c → T' 100 i j = T 100 i j
theorem sc_ic {N : Int} {T T' : Zt} {c : Int} (h : SJ_ T T' c) (hka : KA_ T) (hkm : KM_ T) (hkc : KC_ T) (hks : KS_ T) (hkp : KP_ T) (hdd : DD_ T) (hlp : LP_ N T) (hb7 : ∀ i, 0 ≤ T 100 i 7) (hm0 : 0 ≤ T 106 0 4) : KA_ T' ∧ KM_ T' ∧ KC_ T' ∧ KS_ T' ∧ KP_ T' ∧ DD_ T' ∧ NA_ T' ∧ LP_ N T' := by
  obtain ⟨⟨c0, c1, c6⟩, f, od, ⟨⟨r1, r2, r3⟩, r4, r5, r6, r7⟩, ⟨s6, s7, s8⟩, oc⟩ := h
  have e2 : T' 106 0 2 = T 106 0 2 := f 106 0 2 rfl
  have e404 : ∀ a b, T' 404 a b = T 404 a b := fun a b => f 404 a b rfl
  refine ⟨⟨fun i a b => ?_, fun i a b => r6 i a b⟩, fun m a b => ?_, fun i a b => ?_, fun i a b m p q => ?_, fun m a b => ?_, fun i j a b d g1 g2 e1 e3 => ?_, r7, fun p a b d => ?_⟩
  · rw [e2] at b
    rw [f 521 0 i rfl]
    exact hka.1 i a b
  · rw [e2]
    by_cases z : m < T 106 0 4
    · rw [od m 1 z, od m 0 z]
      exact hkm m a z
    · obtain ⟨q1, q2, -⟩ := r4 m (by omega) b
      omega
  · rw [e2] at b
    by_cases z : i = c
    · rw [z, s7, s8]; omega
    · rw [oc i 7 z, oc i 8 z]
      have := hkc i a b
      omega
  · rw [e2] at b
    by_cases z : i = c
    · rw [z, s7] at p
      rw [z, s7, s8] at q
      rw [z]
      obtain ⟨q1, q2, q3, q4, q5, -⟩ := r4 m p (by omega)
      exact ⟨q1, q4, q5⟩
    · rw [oc i 7 z] at p
      rw [oc i 7 z, oc i 8 z] at q
      have k1 := hkc i a b
      have k2 := hb7 i
      rw [od m 0 (by omega), od m 3 (by omega), od m 4 (by omega), e404, e404]
      exact hks i a b m p q
  · by_cases z : m < T 106 0 4
    · rw [od m 0 z]
      by_cases y : T 102 m 0 = c
      · rw [y]; exact s6
      · rw [oc _ 6 y]; exact hkp m a z
    · obtain ⟨q1, -⟩ := r4 m (by omega) b
      rw [q1]; exact s6
  · by_cases z : j < T 106 0 4
    · rw [od i 0 (by omega), od j 0 z] at e1
      rw [od i 3 (by omega), od j 3 z] at e3
      rw [od i 6 (by omega)] at g1
      rw [od j 6 z] at g2
      rw [od i 5 (by omega), od j 5 z]
      exact hdd i j a b z g1 g2 e1 e3
    · by_cases y : i < T 106 0 4
      · obtain ⟨q1, -⟩ := r4 j (by omega) d
        rw [od i 0 y, q1] at e1
        have := hkp i a y
        rw [e1] at this
        omega
      · exact r5 i j (by omega) b d e3
  · by_cases z : p < T 106 0 4
    · rw [od p 10 z] at d
      refine Lp_o (hlp p a z d) (by omega) ⟨fun x _ => f 190 x _ rfl, by rw [f 191 0 0 rfl]; omega⟩ (by omega) ⟨f _ _ _ rfl, f _ _ _ rfl, f _ _ _ rfl, f _ _ _ rfl, f _ _ _ rfl, f _ _ _ rfl, f _ _ _ rfl, f _ _ _ rfl⟩
    · obtain ⟨-, -, q3, -⟩ := r4 p (by omega) b
      exact absurd q3 d
