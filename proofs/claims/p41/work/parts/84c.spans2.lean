-- spans: what keeps them alike
def krc_ (T T' : Zt) : Prop := T' 108 0 5 = T 108 0 5 ∧ (∀ j, T' 566 0 j = T 566 0 j) ∧ (∀ j, T' 567 0 j = T 567 0 j) ∧ (∀ j, T' 568 0 j = T 568 0 j) ∧ (∀ j, T' 569 0 j = T 569 0 j)
def kfs_ (T T' : Zt) : Prop := ∀ j, T' 564 0 j = T 564 0 j
def krm_ (T T' : Zt) : Prop := T' 111 0 16 = T 111 0 16 ∧ (∀ j, T' 217 0 j = T 217 0 j) ∧ (∀ j, T' 218 0 j = T 218 0 j) ∧ (∀ j, T' 219 0 j = T 219 0 j) ∧ (∀ j, T' 220 0 j = T 220 0 j)
theorem lpz_c {T T' : Zt} {p m v : Int} (h : lpz_ T p m v) (e : ∀ j, 0 ≤ j → j < m → T' 217 0 j = T 217 0 j) : lpz_ T' p m v := by
  rcases h with ⟨h1, h2⟩ | ⟨h1, h2, h3, h4⟩
  · exact Or.inl ⟨h1, fun j a b => by rw [e j a b]; exact h2 j a b⟩
  · exact Or.inr ⟨h1, h2, by rw [e v h1 h2]; exact h3, fun j a b => by rw [e j (by omega) b]; exact h4 j a b⟩
theorem spr_k {T T' : Zt} (h : SPR_ T) (e : T' 108 0 3 = T 108 0 3) (k : krc_ T T') (f : kfs_ T T') (m : krm_ T T') : SPR_ T' := by
  obtain ⟨h1, h2, h3, h4, h5⟩ := h
  obtain ⟨c0, c1, c2, c3, c4⟩ := k
  obtain ⟨m0, m1, m2, m3, m4⟩ := m
  refine ⟨by omega, fun s a b => ?_, fun p a b => ?_, fun s a b => ?_, fun s a b => ?_⟩
  · rw [c1, c2, c3, m2, m3, m4]
    exact h2 s a (by omega)
  · rw [c0, f p]
    exact lpz_c (h3 p a (by omega)) (fun j _ _ => m1 j)
  · rw [m1 s, c4 s]
    exact lpz_c (h4 s a (by omega)) (fun j _ _ => m1 j)
  · rw [m1 s, e]
    exact h5 s a (by omega)
/-- a person more on the house's side, then on the reference's -/
theorem spr_p {T T1 T2 : Zt} {x : Int} (h : SPR_ T) (q : QP_ T T1 x) (k : krc_ T T1) (m : krm_ T T1) (e2 : T2 108 0 3 = T1 108 0 3) (k2 : krc_ T1 T2) (f2 : kfs_ T1 T2) (m2 : krm_ T1 T2) : SPR_ T2 := by
  refine spr_k (T := T1) ?_ e2 k2 f2 m2
  rcases q with ⟨-, -, rfl⟩ | ⟨q1, q2, q3, q4, q5⟩
  · exact h
  · obtain ⟨h1, h2, h3, h4, h5⟩ := h
    obtain ⟨c0, c1, c2, c3, c4⟩ := k
    obtain ⟨n0, n1, n2, n3, n4⟩ := m
    refine ⟨by omega, fun s a b => ?_, fun p a b => ?_, fun s a b => ?_, fun s a b => ?_⟩
    · rw [c1, c2, c3, n2, n3, n4]
      exact h2 s a (by omega)
    · by_cases ep : p = T 108 0 3
      · subst ep
        rw [q4]
        refine Or.inl ⟨rfl, fun j u v => ?_⟩
        rw [n1 j]
        have := (h5 j u (by omega)).2
        omega
      · rw [c0, q5 p ep]
        exact lpz_c (h3 p a (by omega)) (fun j _ _ => n1 j)
    · rw [n1 s, c4 s]
      exact lpz_c (h4 s a (by omega)) (fun j _ _ => n1 j)
    · rw [n1 s, q3]
      have := h5 s a (by omega)
      omega
/-- a span more on both sides -/
theorem spr_a {T T1 T2 : Zt} {p cl a b : Int} (h : SPR_ T) (hp : 0 ≤ p ∧ p < T 108 0 3) (hn : 0 ≤ T 108 0 5) (A : AS_ T T1 p cl a b) (m : krm_ T T1) (e1 : T1 108 0 3 = T 108 0 3) (B : AM_ T1 T2 p cl a b) (k : krc_ T1 T2) (f : kfs_ T1 T2) (e2 : T2 108 0 3 = T1 108 0 3) : SPR_ T2 := by
  obtain ⟨h1, h2, h3, h4, h5⟩ := h
  obtain ⟨a0, ⟨a1, a2, a3, a4, a5⟩, a6, a7⟩ := A
  obtain ⟨m0, m1, m2, m3, m4⟩ := m
  obtain ⟨c0, c1, c2, c3, c4⟩ := k
  obtain ⟨b0, ⟨b1, b2, b3, b4⟩, b5⟩ := B
  have en : T1 111 0 16 = T 108 0 5 := by omega
  rw [en] at b0 b1 b2 b3 b4 b5
  have r1 : ∀ j, j ≠ T 108 0 5 → T2 217 0 j = T 217 0 j := fun j hj => ((b5 j hj).1).trans (m1 j)
  have lo : ∀ s, s < T 108 0 5 → s ≠ T 108 0 5 := fun s hs => by omega
  refine ⟨by omega, fun s u v => ?_, fun q u v => ?_, fun s u v => ?_, fun s u v => ?_⟩
  · by_cases es : s = T 108 0 5
    · subst es
      rw [c1, c2, c3, a1, a2, a3, b2, b3, b4]
      exact ⟨rfl, rfl, rfl⟩
    · obtain ⟨g1, g2, g3, -⟩ := a6 s es
      obtain ⟨-, g5, g6, g7⟩ := b5 s es
      rw [c1, c2, c3, g1, g2, g3, g5, g6, g7, m2, m3, m4]
      exact h2 s u (by omega)
  · rw [c0, a0, f q]
    by_cases eq : q = p
    · subst eq
      rw [a5]
      exact Or.inr ⟨hn, by omega, b1, fun j x y => by omega⟩
    · rw [a7 q eq]
      rcases h3 q u (by omega) with ⟨g1, g2⟩ | ⟨g1, g2, g3, g4⟩
      · refine Or.inl ⟨g1, fun j x y => ?_⟩
        by_cases ej : j = T 108 0 5
        · rw [ej, b1]
          exact fun z => eq z.symm
        · rw [r1 j ej]
          exact g2 j x (by omega)
      · refine Or.inr ⟨g1, by omega, by rw [r1 _ (lo _ g2)]; exact g3, fun j x y => ?_⟩
        by_cases ej : j = T 108 0 5
        · rw [ej, b1]
          exact fun z => eq z.symm
        · rw [r1 j ej]
          exact g4 j x (by omega)
  · by_cases es : s = T 108 0 5
    · subst es
      rw [b1, c4, a4]
      exact lpz_c (h3 p hp.1 hp.2) (fun j _ y => r1 j (lo j y))
    · rw [r1 s es, c4 s, (a6 s es).2.2.2]
      exact lpz_c (h4 s u (by omega)) (fun j _ y => r1 j (by omega))
  · by_cases es : s = T 108 0 5
    · subst es
      rw [b1]
      omega
    · rw [r1 s es]
      have := h5 s u (by omega)
      omega
/-- register on both sides: the same answer, and the spans stay alike -/
theorem spr_r {T T1 T2 : Zt} {p cl a b x1 x2 : Int} (h : SPR_ T) (hn : 0 ≤ T 108 0 5) (ep : T 108 0 3 = T 111 0 15) (ec : T 108 0 2 = T 111 0 12) (A : QR_ T T1 p cl a b x1) (m : krm_ T T1) (e1 : T1 108 0 3 = T 108 0 3) (e3 : T1 111 0 15 = T 111 0 15) (e4 : T1 111 0 12 = T 111 0 12) (B : QM_ T1 T2 p cl a b x2) (k : krc_ T1 T2) (f : kfs_ T1 T2) (e2 : T2 108 0 3 = T1 108 0 3) : x1 = x2 ∧ SPR_ T2 := by
  have hf := fs_eq (p := p) (a := a) (b := b) h
  have hm : FSR_ T1 p a b (T1 111 0 16) ↔ FSR_ T p a b (T 111 0 16) := by
    obtain ⟨m0, m1, m2, m3, m4⟩ := m
    unfold FSR_
    rw [m0]
    simp only [m1, m3, m4]
  have es := h.1
  have em := m.1
  have keepB : T1 = T → (x2 = -2 ∨ x2 = -3 ∨ x2 = -4 ∨ x2 = -5) → T2 = T1 → SPR_ T2 := fun z _ y => by
    rw [y, z]
    exact h
  rcases A with ⟨A1, A2, rfl⟩ | ⟨A1, A2, A3, rfl⟩ | ⟨A1, A2, A3, A4, rfl⟩ | ⟨A1, A2, A3, A4, A5, rfl⟩ | ⟨A1, A2, A3, A4, A5, A6⟩
  · rcases B with ⟨B1, B2, B3⟩ | ⟨B1, B2, B3⟩ | ⟨B1, B2, B3⟩ | ⟨B1, B2, B3⟩ | ⟨B1, B2, B3⟩
    · exact ⟨by omega, by rw [B3]; exact h⟩
    all_goals exact absurd (show OKP_ p cl (T1 108 0 3) (T1 108 0 2) by rw [ep, ec]; exact B2) A2
  · rcases B with ⟨B1, B2, B3⟩ | ⟨B1, B2, B3, B4⟩ | ⟨B1, B2, B3, B4⟩ | ⟨B1, B2, B3, B4⟩ | ⟨B1, B2, B3, B4⟩
    · exact absurd (show OKP_ p cl (T1 111 0 15) (T1 111 0 12) by rw [← ep, ← ec]; exact A2) B2
    · exact ⟨by omega, by rw [B4]; exact h⟩
    all_goals exact absurd B3 A3
  · rcases B with ⟨B1, B2, B3⟩ | ⟨B1, B2, B3, B4⟩ | ⟨B1, B2, B3, B4, B5⟩ | ⟨B1, B2, B3, B4, B5⟩ | ⟨B1, B2, B3, B4, B5⟩
    · exact absurd (show OKP_ p cl (T1 111 0 15) (T1 111 0 12) by rw [← ep, ← ec]; exact A2) B2
    · exact absurd A3 B3
    · exact ⟨by omega, by rw [B5]; exact h⟩
    all_goals exact absurd (hf.mpr B4) A4
  · rcases B with ⟨B1, B2, B3⟩ | ⟨B1, B2, B3, B4⟩ | ⟨B1, B2, B3, B4, B5⟩ | ⟨B1, B2, B3, B4, B5, B6⟩ | ⟨B1, B2, B3, B4, B5, B6⟩
    · exact absurd (show OKP_ p cl (T1 111 0 15) (T1 111 0 12) by rw [← ep, ← ec]; exact A2) B2
    · exact absurd A3 B3
    · exact absurd (hf.mp A4) B4
    · exact ⟨by omega, by rw [B6]; exact h⟩
    · omega
  · have q1 : OKP_ p cl (T1 111 0 15) (T1 111 0 12) := by
      rw [e3, e4, ← ep, ← ec]
      exact A2
    rcases B with ⟨B1, B2, B3⟩ | ⟨B1, B2, B3, B4⟩ | ⟨B1, B2, B3, B4, B5⟩ | ⟨B1, B2, B3, B4, B5, B6⟩ | ⟨B1, B2, B3, B4, B5, B6⟩
    · exact absurd q1 B2
    · exact absurd A3 B3
    · exact absurd (hm.mpr (hf.mp A4)) B4
    · omega
    · exact ⟨by omega, spr_a h ⟨A2.1, A2.2.1⟩ hn A6 m e1 B6 k f e2⟩

