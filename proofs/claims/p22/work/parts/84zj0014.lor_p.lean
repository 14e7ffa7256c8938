/-- a club comes into a pot, both sides -/
theorem lor_p {T T1 T2 : Zt} {c k x1 x2 : Int} (h : LOR_ T) (hn : T 108 0 2 = T 111 0 12) (hb : T 108 0 2 ≤ 12) (d1 : PTH_ T T1 c k x1) (f1 : fr_ [(428, []), (430, []), (101, [3, 7])] T T1) (d2 : PTR_ T1 T2 c k x2) (f2 : fr_ [(301, [])] T1 T2) : x1 = x2 ∧ LOR_ T2 := by
  have g12 := f1 111 0 12 rfl
  have g98 := f1 111 0 98 rfl
  have g99 := f1 111 0 99 rfl
  have eG : (fun j => T1 302 0 j) = (fun j => T 302 0 j) := funext (fun j => f1 302 0 j rfl)
  have eE : (fun j => T1 301 0 j) = (fun j => T 301 0 j) := funext (fun j => f1 301 0 j rfl)
  have ec := f1 301 0 c rfl
  unfold PTR_ at d2
  rw [eG, eE, g12, g98, g99, ec] at d2
  obtain ⟨⟨h1, h2, h3, h4⟩, h5, h6⟩ := h
  have key : (0 ≤ c ∧ c < T 108 0 2) → ((T 101 0 1 = 0 ∨ T 428 0 c ≠ -1 ∨ 0 < T 101 0 4) ↔ (T 111 0 98 = 0 ∨ T 301 0 c ≠ -1 ∨ cnz_ (fun j => T 302 0 j) (-1) 12 < 12)) := fun hc => by
    have z := (h5 c hc.1 (by omega)).1
    rcases h6 with h6 | h6
    · constructor
      · intro _; exact Or.inl (by omega)
      · intro _; exact Or.inl h6
    · have y := h6.2.1
      have y2 : cnz_ (fun j => T 429 0 j) (-1) 12 = cnz_ (fun j => T 302 0 j) (-1) 12 := cnz_e 12 (fun j a b => (h5 j a (by omega)).2)
      omega
  have pots : ∀ p, 0 ≤ p → p < 3 → T 101 0 1 ≠ 0 → T 430 0 p = cnz_ (fun j => T 301 0 j) p 12 ∧ T 430 0 p ≤ T 101 0 1 := fun p a b d => by
    have y := (h6.resolve_left d).2.2.1 p a (by omega)
    have y2 : cnz_ (fun j => T 428 0 j) p 12 = cnz_ (fun j => T 301 0 j) p 12 := cnz_e 12 (fun j a b => (h5 j a (by omega)).1)
    omega
  rcases d1 with ⟨rfl, a⟩ | ⟨a1, a2, a3, a4, a5, a6, a7, a8, a9⟩
  · rcases d2 with ⟨rfl, b⟩ | ⟨b1, b2, b3, b4, b5, b6⟩
    · refine ⟨?_, ⟨h1, h2, h3, h4⟩, h5, h6⟩
      rcases a with ⟨u1, u2⟩ | ⟨u1, u2, u3⟩ | ⟨u1, u2, u3, u4⟩ | ⟨u1, u2, u3, u4, u5⟩
      · rcases b with ⟨v1, v2⟩ | ⟨v1, v2, v3⟩ | ⟨v1, v2, v3, v4⟩ | ⟨v1, v2, v3, v4, v5⟩
        · omega
        · exact absurd (by omega) u2
        · exact absurd (by omega) u2
        · exact absurd (by omega) u2
      · rcases b with ⟨v1, v2⟩ | ⟨v1, v2, v3⟩ | ⟨v1, v2, v3, v4⟩ | ⟨v1, v2, v3, v4, v5⟩
        · exact absurd (by omega) v2
        · omega
        · exact absurd v2 u3
        · exact absurd v2 u3
      · rcases b with ⟨v1, v2⟩ | ⟨v1, v2, v3⟩ | ⟨v1, v2, v3, v4⟩ | ⟨v1, v2, v3, v4, v5⟩
        · exact absurd (by omega) v2
        · exact absurd u2 v3
        · omega
        · exact absurd ((key u1).mp u4) v3
      · rcases b with ⟨v1, v2⟩ | ⟨v1, v2, v3⟩ | ⟨v1, v2, v3, v4⟩ | ⟨v1, v2, v3, v4, v5⟩
        · exact absurd (by omega) v2
        · exact absurd u2 v3
        · exact absurd ((key u1).mpr v4) u3
        · omega
    · exfalso
      have p1 : 0 ≤ c ∧ c < T1 108 0 2 := by omega
      rcases a with ⟨u1, u2⟩ | ⟨u1, u2, u3⟩ | ⟨u1, u2, u3, u4⟩ | ⟨u1, u2, u3, u4, u5⟩
      · exact u2 p1
      · exact u3 b2
      · exact b3 ((key u1).mp u4)
      · have y := pots k b2.1 b2.2 (fun z => u3 (Or.inl z))
        omega
  · have y := pots k a2.1 a2.2 (fun z => a3 (Or.inl z))
    have hg : T 101 0 1 ≠ 0 := fun z => a3 (Or.inl z)
    have hec : T 428 0 c = -1 := Classical.byContradiction (fun z => a3 (Or.inr (Or.inl z)))
    rcases d2 with ⟨e2, b⟩ | ⟨b1, b2, b3, b4, b5, b6, b7⟩
    · exfalso
      rcases b with ⟨v1, v2⟩ | ⟨v1, v2, v3⟩ | ⟨v1, v2, v3, v4⟩ | ⟨v1, v2, v3, v4, v5⟩
      · exact v2 (by omega)
      · exact v3 a2
      · exact a3 ((key a1).mpr v4)
      · omega
    · have e1 := f2 101 0 1 rfl
      have e1b := f1 101 0 1 rfl
      have e2 := f2 101 0 2 rfl
      have e2b := f1 101 0 2 rfl
      have e5 := f2 101 0 5 rfl
      have e5b := f1 101 0 5 rfl
      have k98 := f2 111 0 98 rfl
      have k99 := f2 111 0 99 rfl
      have k100 := f2 111 0 100 rfl
      have k100b := f1 111 0 100 rfl
      have k103 := f2 111 0 103 rfl
      have k103b := f1 111 0 103 rfl
      obtain ⟨q1, q2, q3, q4, q5, q6⟩ := h6.resolve_left hg
      have uE : ∀ v, cnz_ (fun j => T1 428 0 j) v 12 = cnz_ (fun j => T 428 0 j) v 12 - (if T 428 0 c = v then 1 else 0) + (if T1 428 0 c = v then 1 else 0) := fun v => cnz_u (f := fun j => T 428 0 j) (g := fun j => T1 428 0 j) (x := c) a1.1 (fun j hj => a6.2 j hj) 12 (by omega)
      have s2 : ∀ v, cnz_ (fun j => T2 428 0 j) v 12 = cnz_ (fun j => T1 428 0 j) v 12 := fun v => cnz_e 12 (fun j _ _ => f2 428 0 j rfl)
      refine ⟨by omega, ⟨by omega, by omega, by omega, by omega⟩, fun j p q => ?_, Or.inr ⟨?_, ?_, fun p p1 p2 => ?_, fun j p q r => ?_, fun j p q => ?_, Or.inl ?_⟩⟩
      · rw [f2 428 0 j rfl, f2 429 0 j rfl, f1 429 0 j rfl, f2 302 0 j rfl, f1 302 0 j rfl]
        refine ⟨?_, (h5 j p q).2⟩
        by_cases z : j = c
        · rw [z, a6.1, b6]
        · rw [a6.2 j z, b7 j z, f1 301 0 j rfl]; exact (h5 j p q).1
      · rw [s2, uE, if_pos hec, if_neg (show ¬ T1 428 0 c = -1 by omega), f2 101 0 3 rfl]
        omega
      · rw [f2 101 0 4 rfl, f1 101 0 4 rfl, show (fun j => T2 429 0 j) = (fun j => T 429 0 j) from funext (fun j => (f2 429 0 j rfl).trans (f1 429 0 j rfl))]
        exact q2
      · rw [s2, uE, if_neg (show ¬ T 428 0 c = p by omega), f2 430 0 p rfl]
        have w := q3 p p1 p2
        by_cases z : p = k
        · rw [if_pos (show T1 428 0 c = p by omega), z, a7.1]
          rw [z] at w
          omega
        · rw [if_neg (show ¬ T1 428 0 c = p by omega), a7.2 p z]
          omega
      · rw [f2 428 0 j rfl] at r
        rw [f2 429 0 j rfl, f1 429 0 j rfl]
        by_cases z : j = c
        · rw [z, a6.1] at r; omega
        · rw [a6.2 j z] at r; exact q4 j p q r
      · rw [f2 108 0 2 rfl, f1 108 0 2 rfl] at p
        rw [f2 428 0 j rfl, a6.2 j (by omega)]
        exact q5 j p q
      · rw [f2 101 0 7 rfl]; exact a9
