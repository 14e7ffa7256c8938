/-- how far a place is from the round's own, in the circle -/
def lv_ (R r q : Int) : Int := if q = R then 0 else min (max (q - r) (r - q)) (R - max (q - r) (r - q))
theorem lv_R (R r : Int) : lv_ R r R = 0 := by unfold lv_; rw [if_pos rfl]
theorem lv_r {R r : Int} (h : 0 ≤ r ∧ r < R) : lv_ R r r = 0 := by unfold lv_; rw [if_neg (by omega)]; omega
theorem em_2 {x R : Int} (h : 0 ≤ x) (g : x < 2 * R) : (x < R ∧ x % R = x) ∨ (R ≤ x ∧ x % R = x - R) := by
  by_cases z : x < R
  · exact Or.inl ⟨z, Int.emod_eq_of_lt h z⟩
  · refine Or.inr ⟨by omega, ?_⟩
    rw [← Int.sub_emod_right, Int.emod_eq_of_lt (by omega) (by omega)]
theorem lv_a {R r k : Int} (hr : 0 ≤ r ∧ r < R) (hk : 1 ≤ k ∧ 2 * k ≤ R) : lv_ R r ((r + k) % R) = k := by
  have h := em_2 (x := r + k) (R := R) (by omega) (by omega)
  unfold lv_
  rw [if_neg (by omega)]
  omega
theorem lv_b {R r k : Int} (hr : 0 ≤ r ∧ r < R) (hk : 1 ≤ k ∧ 2 * k ≤ R) : lv_ R r ((r - k + R) % R) = k := by
  have h := em_2 (x := r - k + R) (R := R) (by omega) (by omega)
  unfold lv_
  rw [if_neg (by omega)]
  omega
def KEc_ (T : Zt) (c : Int) : Prop := ∀ j : Int, 0 ≤ j → j < T 100 c 5 → T 404 c (T 403 c j) = j
theorem KEc_f {ws : List (Nat × List Int)} {T T' : Zt} {c : Int} (h : KEc_ T c) (f : fr_ ws T T') (w : fw_ ws 100 5 = false ∧ (∀ j, fw_ ws 404 j = false) ∧ (∀ j, fw_ ws 403 j = false)) : KEc_ T' c := fun j a b => by
  rw [f 100 c 5 w.1] at b
  rw [f 403 c j (w.2.2 j), f 404 c _ (w.2.1 _)]
  exact h j a b
/-- the matches that a plan has laid so far, from number f on -/
def RK_ (T : Zt) (c f R r k d : Int) : Prop := (0 ≤ f ∧ f ≤ T 106 0 4 ∧ T 106 0 4 ≤ 400) ∧ (∀ i, f ≤ i → i < T 106 0 4 → T 102 i 0 = c ∧ T 102 i 1 = i ∧ T 102 i 10 = 0 ∧ 0 ≤ T 404 c (T 102 i 3) ∧ 0 ≤ T 404 c (T 102 i 4) ∧ (T 102 i 5 < d ∨ (T 102 i 5 = d ∧ lv_ R r (T 404 c (T 102 i 3)) < k))) ∧ (∀ i j, f ≤ i → i < j → j < T 106 0 4 → T 102 i 3 = T 102 j 3 → T 102 i 5 ≠ T 102 j 5) ∧ (∀ i, 0 ≤ i → i < T 106 0 4 → T 523 0 i ≠ 0) ∧ NA_ T
theorem rb_next {T : Zt} {c f R r k d r' d' : Int} (h : RK_ T c f R r k d) (hd : d < d') : RK_ T c f R r' 0 d' := by
  obtain ⟨h1, h2, h3, h4, h5⟩ := h
  refine ⟨h1, fun i a b => ?_, h3, h4, h5⟩
  obtain ⟨a1, a2, a3, a4, a5, a6⟩ := h2 i a b
  exact ⟨a1, a2, a3, a4, a5, Or.inl (by omega)⟩
theorem rb_add {T T' : Zt} {c f R r k d h a : Int} (hrb : RK_ T c f R r k d) (hke : KEc_ T c) (hh : 0 ≤ h ∧ 0 ≤ a) (hl : lv_ R r h = k) (fr : fr_ [(106, [4]), (523, []), (152, []), (102, []), (448, []), (449, [])] T T') (hx : (T' = T ∧ (T 100 c 5 ≤ h ∨ T 100 c 5 ≤ a ∨ 400 ≤ T 106 0 4)) ∨ nm_ T T' c h a d) : RK_ T' c f R r (k + 1) d ∧ (∀ i j, i < f → T' 102 i j = T 102 i j) ∧ T 106 0 4 ≤ T' 106 0 4 := by
  obtain ⟨h1, h2, h3, h4, h5⟩ := hrb
  rcases hx with ⟨rfl, -⟩ | ⟨⟨n1, n2, n3, n4⟩, n5, n6, n7, ⟨m0, m1, m3, m4, m5, m10⟩, n8⟩
  · refine ⟨⟨h1, fun i a b => ?_, h3, h4, h5⟩, fun _ _ _ => rfl, by omega⟩
    obtain ⟨a1, a2, a3, a4, a5, a6⟩ := h2 i a b
    exact ⟨a1, a2, a3, a4, a5, a6.imp id (fun z => ⟨z.1, by omega⟩)⟩
  · have e4 : ∀ x, T' 404 c x = T 404 c x := fun x => fr 404 c x rfl
    have eo : ∀ i j, i ≠ T 106 0 4 → T' 102 i j = T 102 i j := fun i j hi => n5 102 i j (Or.inl rfl) hi
    have hs : T' 404 c (T' 102 (T 106 0 4) 3) = h := by rw [e4, m3]; exact hke h hh.1 n3
    have hs2 : T' 404 c (T' 102 (T 106 0 4) 4) = a := by rw [e4, m4]; exact hke a hh.2 n4
    refine ⟨⟨⟨by omega, by omega, by omega⟩, fun i p q => ?_, fun i j p q w => ?_, fun i p q => ?_, n8⟩, fun i j hi => eo i j (by omega), by omega⟩
    · by_cases z : i = T 106 0 4
      · rw [z]
        exact ⟨m0, m1, m10, by rw [hs]; omega, by rw [hs2]; omega, Or.inr ⟨m5, by rw [hs]; omega⟩⟩
      · obtain ⟨a1, a2, a3, a4, a5, a6⟩ := h2 i p (by omega)
        rw [eo i 0 z, eo i 1 z, eo i 10 z, eo i 3 z, eo i 4 z, eo i 5 z, e4, e4]
        exact ⟨a1, a2, a3, a4, a5, a6.imp id (fun z => ⟨z.1, by omega⟩)⟩
    · by_cases z : j = T 106 0 4
      · rw [z, m5, eo i 3 (by omega), eo i 5 (by omega)]
        intro e5 e6
        obtain ⟨a1, a2, a3, a4, a5, a6⟩ := h2 i p (by omega)
        rcases a6 with a6 | ⟨-, a6⟩
        · omega
        · rw [e5, ← e4, hs] at a6
          omega
      · rw [eo i 3 (by omega), eo i 5 (by omega), eo j 3 z, eo j 5 z]
        exact h3 i j p q (by omega)
    · by_cases z : i = T 106 0 4
      · rw [z, n7]; decide
      · rw [n6 i z]
        exact h4 i p (by omega)
