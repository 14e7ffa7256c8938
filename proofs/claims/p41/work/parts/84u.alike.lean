-- texts, competitions, rules: alike on both sides
def TXR_ (T : Zt) : Prop := T 105 0 1 = T 111 0 1 ∧ T 105 0 3 = T 111 0 2 ∧ T 106 0 2 = T 111 0 6 ∧ (∀ j, 0 ≤ j → j < 400 → T 500 0 j = T 200 0 j) ∧ ∀ c, 0 ≤ c → c < T 106 0 2 → (∀ w, 0 ≤ w → w < 16 → T 401 c w = T 205 0 (23 * c + w)) ∧ ∀ k, 0 ≤ k → k < 7 → (k < T 401 c 4 → T 402 c k = T 205 0 (23 * c + (16 + k))) ∧ (¬ k < T 401 c 4 → T 205 0 (23 * c + (16 + k)) = -1)
/-- the house's side of it stays -/
def kth_ (T T' : Zt) : Prop := T' 105 0 1 = T 105 0 1 ∧ T' 105 0 3 = T 105 0 3 ∧ T' 106 0 2 = T 106 0 2 ∧ (∀ j, T' 500 0 j = T 500 0 j) ∧ (∀ c j, T' 401 c j = T 401 c j) ∧ ∀ c j, T' 402 c j = T 402 c j
/-- the reference's side of it stays -/
def ktr_ (T T' : Zt) : Prop := T' 111 0 1 = T 111 0 1 ∧ T' 111 0 2 = T 111 0 2 ∧ T' 111 0 6 = T 111 0 6 ∧ (∀ j, T' 200 0 j = T 200 0 j) ∧ ∀ j, T' 205 0 j = T 205 0 j
theorem txr_k {T T' : Zt} (h : TXR_ T) (k : kth_ T T') (r : ktr_ T T') : TXR_ T' := by
  obtain ⟨h1, h2, h3, h4, h5⟩ := h
  obtain ⟨k1, k2, k3, k4, k5, k6⟩ := k
  obtain ⟨r1, r2, r3, r4, r5⟩ := r
  refine ⟨by omega, by omega, by omega, fun j a b => by rw [k4, r4]; exact h4 j a b, fun c a b => ⟨fun w d e => by rw [k5, r5]; exact (h5 c a (by omega)).1 w d e, fun q d e => ?_⟩⟩
  rw [k5, k6, r5]
  exact (h5 c a (by omega)).2 q d e
/-- a sign on both sides -/
theorem txr_s {T T1 T2 : Zt} {c x1 x2 : Int} (h : TXR_ T) (hl : 0 ≤ T 105 0 1) (ho : T1 105 0 3 = T 105 0 3 ∧ T1 106 0 2 = T 106 0 2 ∧ (∀ c j, T1 401 c j = T 401 c j) ∧ ∀ c j, T1 402 c j = T 402 c j) (d1 : (x1 = -3 ∧ T1 105 0 1 = T 105 0 1 ∧ ¬ (c = 10 ∨ 32 ≤ c ∧ c ≤ 126) ∧ RS9_ 500 T T1) ∨ ((c = 10 ∨ 32 ≤ c ∧ c ≤ 126) ∧ T 105 0 1 = 400 ∧ x1 = -5 ∧ T1 105 0 1 = 400 ∧ RS9_ 500 T T1) ∨ ((c = 10 ∨ 32 ≤ c ∧ c ≤ 126) ∧ T 105 0 1 < 400 ∧ x1 = T 105 0 1 + 1 ∧ T1 105 0 1 = x1 ∧ SG9_ 500 T T1 (T 105 0 1) c)) (r : ktr_ T T1)
  (hp : T2 111 0 2 = T1 111 0 2 ∧ T2 111 0 6 = T1 111 0 6 ∧ ∀ j, T2 205 0 j = T1 205 0 j) (d2 : (x2 = -3 ∧ T2 111 0 1 = T1 111 0 1 ∧ ¬ (c = 10 ∨ 32 ≤ c ∧ c ≤ 126) ∧ RS9_ 200 T1 T2) ∨ ((c = 10 ∨ 32 ≤ c ∧ c ≤ 126) ∧ T1 111 0 1 = 400 ∧ x2 = -5 ∧ T2 111 0 1 = 400 ∧ RS9_ 200 T1 T2) ∨ ((c = 10 ∨ 32 ≤ c ∧ c ≤ 126) ∧ T1 111 0 1 < 400 ∧ x2 = T1 111 0 1 + 1 ∧ T2 111 0 1 = x2 ∧ SG9_ 200 T1 T2 (T1 111 0 1) c)) (k : kth_ T1 T2) : x1 = x2 ∧ TXR_ T2 := by
  obtain ⟨h1, h2, h3, h4, h5⟩ := h
  obtain ⟨o1, o2, o3, o4⟩ := ho
  obtain ⟨r1, r2, r3, r4, r5⟩ := r
  obtain ⟨p1, p2, p3⟩ := hp
  obtain ⟨k1, k2, k3, k4, k5, k6⟩ := k
  have hr : ∀ c, 0 ≤ c → c < T2 106 0 2 → (∀ w, 0 ≤ w → w < 16 → T2 401 c w = T2 205 0 (23 * c + w)) ∧ ∀ k, 0 ≤ k → k < 7 → (k < T2 401 c 4 → T2 402 c k = T2 205 0 (23 * c + (16 + k))) ∧ (¬ k < T2 401 c 4 → T2 205 0 (23 * c + (16 + k)) = -1) := fun c a b => by
    refine ⟨fun w d e => by rw [k5, o3, p3, r5]; exact (h5 c a (by omega)).1 w d e, fun q d e => ?_⟩
    rw [k5, o3, k6, o4, p3, r5]
    exact (h5 c a (by omega)).2 q d e
  have hs : RS9_ 500 T T1 → RS9_ 200 T1 T2 → ∀ j, 0 ≤ j → j < 400 → T2 500 0 j = T2 200 0 j := fun a b j c d => by
    rw [k4, a j, b j, r4]
    exact h4 j c d
  rcases d1 with ⟨a1, a2, a3, a4⟩ | ⟨a0, a1, a2, a3, a4⟩ | ⟨a0, a1, a2, a3, a4⟩
  · rcases d2 with ⟨b1, b2, b3, b4⟩ | ⟨b0, b1, b2, b3, b4⟩ | ⟨b0, b1, b2, b3, b4⟩
    · exact ⟨by omega, by omega, by omega, by omega, hs a4 b4, hr⟩
    · exact absurd b0 a3
    · exact absurd b0 a3
  · rcases d2 with ⟨b1, b2, b3, b4⟩ | ⟨b0, b1, b2, b3, b4⟩ | ⟨b0, b1, b2, b3, b4⟩
    · exact absurd a0 b3
    · exact ⟨by omega, by omega, by omega, by omega, hs a4 b4, hr⟩
    · omega
  · rcases d2 with ⟨b1, b2, b3, b4⟩ | ⟨b0, b1, b2, b3, b4⟩ | ⟨b0, b1, b2, b3, b4⟩
    · exact absurd a0 b3
    · omega
    · refine ⟨by omega, by omega, by omega, by omega, fun j c d => ?_, hr⟩
      have e1 : T1 111 0 1 = T 105 0 1 := by omega
      rw [e1] at b4
      rw [k4]
      by_cases z : j = T 105 0 1
      · rw [z, a4.1, b4.1]
      · rw [a4.2 j z, b4.2 j z, r4]
        exact h4 j c d
/-- a wiped text on both sides -/
theorem txr_w {T T1 T2 : Zt} {x1 x2 : Int} (h : TXR_ T) (ho : T1 105 0 3 = T 105 0 3 ∧ T1 106 0 2 = T 106 0 2 ∧ (∀ j, T1 500 0 j = T 500 0 j) ∧ (∀ c j, T1 401 c j = T 401 c j) ∧ ∀ c j, T1 402 c j = T 402 c j) (d1 : T1 105 0 1 = 0 ∧ x1 = T 105 0 1) (r : ktr_ T T1) (hp : T2 111 0 2 = T1 111 0 2 ∧ T2 111 0 6 = T1 111 0 6 ∧ (∀ j, T2 200 0 j = T1 200 0 j) ∧ ∀ j, T2 205 0 j = T1 205 0 j) (d2 : T2 111 0 1 = 0 ∧ x2 = T1 111 0 1) (k : kth_ T1 T2) : x1 = x2 ∧ TXR_ T2 := by
  obtain ⟨h1, h2, h3, h4, h5⟩ := h
  obtain ⟨o1, o2, o5, o3, o4⟩ := ho
  obtain ⟨r1, r2, r3, r4, r5⟩ := r
  obtain ⟨p1, p2, p4, p3⟩ := hp
  obtain ⟨k1, k2, k3, k4, k5, k6⟩ := k
  refine ⟨by omega, by omega, by omega, by omega, fun j a b => by rw [k4, o5, p4, r4]; exact h4 j a b, fun c a b => ⟨fun w d e => by rw [k5, o3, p3, r5]; exact (h5 c a (by omega)).1 w d e, fun q d e => ?_⟩⟩
  rw [k5, o3, k6, o4, p3, r5]
  exact (h5 c a (by omega)).2 q d e
/-- a rule is told alike -/
theorem txr_r {T : Zt} {c w x1 x2 : Int} (h : TXR_ T) (d1 : (x1 = -2 ∧ ¬ (0 ≤ c ∧ c < T 106 0 2)) ∨ ((0 ≤ c ∧ c < T 106 0 2) ∧ x1 = -3 ∧ ¬ (0 ≤ w ∧ w < 23)) ∨ ((0 ≤ c ∧ c < T 106 0 2) ∧ (0 ≤ w ∧ w < 16) ∧ x1 = T 401 c w) ∨ ((0 ≤ c ∧ c < T 106 0 2) ∧ (16 ≤ w ∧ w < 23) ∧ w - 16 < T 401 c 4 ∧ x1 = T 402 c (w - 16)) ∨ ((0 ≤ c ∧ c < T 106 0 2) ∧ (16 ≤ w ∧ w < 23) ∧ ¬ w - 16 < T 401 c 4 ∧ x1 = -1)) (d2 : (x2 = -2 ∧ ¬ (0 ≤ c ∧ c < T 111 0 6)) ∨ ((0 ≤ c ∧ c < T 111 0 6) ∧ x2 = -3 ∧ ¬ (0 ≤ w ∧ w < 23)) ∨ ((0 ≤ c ∧ c < T 111 0 6) ∧ (0 ≤ w ∧ w < 23) ∧ x2 = T 205 0 (23 * c + w))) : x1 = x2 := by
  obtain ⟨h1, h2, h3, h4, h5⟩ := h
  by_cases hc : 0 ≤ c ∧ c < T 106 0 2
  · obtain ⟨g1, g2⟩ := h5 c hc.1 hc.2
    by_cases hw : 0 ≤ w ∧ w < 16
    · have g := g1 w hw.1 hw.2
      omega
    · by_cases hv : 16 ≤ w ∧ w < 23
      · have g := g2 (w - 16) (by omega) (by omega)
        rw [show 16 + (w - 16) = w by omega] at g
        omega
      · omega
  · omega
/-- a competition on both sides -/
theorem txr_c {T T1 T2 : Zt} {x1 x2 : Int} (h : TXR_ T) (hl : T 105 0 1 ≤ 400) (hn : 0 ≤ T 106 0 2) (ho : (∀ j, T1 500 0 j = T 500 0 j) ∧ (∀ i j, i ≠ T 106 0 2 → T1 401 i j = T 401 i j) ∧ (T1 106 0 2 = T 106 0 2 → ∀ i j, T1 402 i j = T 402 i j)) (d1 : CH9_ T T1 x1) (r : ktr_ T T1) (hp : (∀ j, T2 200 0 j = T1 200 0 j) ∧ ∀ j, j < 23 * T1 111 0 6 → T2 205 0 j = T1 205 0 j) (d2 : CR9_ T1 T2 x2) (k : kth_ T1 T2) : x1 = x2 ∧ TXR_ T2 := by
  obtain ⟨h1, h2, h3, h4, h5⟩ := h
  obtain ⟨o1, o2, o3⟩ := ho
  obtain ⟨r1, r2, r3, r4, r5⟩ := r
  obtain ⟨p1, p2⟩ := hp
  obtain ⟨k1, k2, k3, k4, k5, k6⟩ := k
  have et : ∀ j, 0 ≤ j → j < 400 → T2 500 0 j = T2 200 0 j := fun j a b => by
    rw [k4, o1, p1, r4]
    exact h4 j a b
  have er : rdf9_ 402 (cl9_ (T1 111 0 1) (fun j => T1 200 0 j)) (T1 111 0 1) 0 (fun _ => 0) dv9_ = rdf9_ 402 (cl9_ (T 105 0 1) (fun j => T 500 0 j)) (T 105 0 1) 0 (fun _ => 0) dv9_ := by
    rw [r1, ← h1, show cl9_ (T 105 0 1) (fun j => T1 200 0 j) = cl9_ (T 105 0 1) (fun j => T 500 0 j) from cl9_e (fun j a b => (r4 j).trans (h4 j a (by omega)).symm)]
  -- the competitions that stood before
  have hr : ∀ c, 0 ≤ c → c < T 106 0 2 → (∀ i j, i ≠ T 106 0 2 → T1 402 i j = T 402 i j) → (∀ w, 0 ≤ w → w < 16 → T2 401 c w = T2 205 0 (23 * c + w)) ∧ ∀ k, 0 ≤ k → k < 7 → (k < T2 401 c 4 → T2 402 c k = T2 205 0 (23 * c + (16 + k))) ∧ (¬ k < T2 401 c 4 → T2 205 0 (23 * c + (16 + k)) = -1) := fun c a b g => by
    have zc : c ≠ T 106 0 2 := by omega
    have hc := h5 c a b
    refine ⟨fun w d e => by rw [k5, o2 c w zc, p2 _ (by omega), r5]; exact hc.1 w d e, fun q d e => ?_⟩
    rw [k5, o2 c 4 zc, k6, g c q zc, p2 _ (by omega), r5]
    exact hc.2 q d e
  unfold CR9_ at d2
  rw [er] at d2
  rcases d1 with ⟨a1, a2, a3, a4, a5⟩ | ⟨a1, a2, ⟨a3, kk, a4, a5⟩ | ⟨a3, a4, a5, a6, a10, v, a7, a8, a9⟩⟩
  · rcases d2 with ⟨b1, b2, b3, b4, b5⟩ | ⟨b1, _⟩
    · exact ⟨by omega, by omega, by omega, by omega, et, fun c y z => hr c y (by omega) (fun i j _ => o3 a5 i j)⟩
    · omega
  · rcases d2 with ⟨b1, _⟩ | ⟨b1, b2, ⟨b3, k9, b4, b5, b6⟩ | ⟨b3, b4, b5, v, b6, _⟩⟩
    · omega
    · rw [a5] at b6
      have e := Prod.mk.inj (Sum.inl.inj b6)
      exact ⟨by omega, by omega, by omega, by omega, et, fun c y z => hr c y (by omega) (fun i j _ => o3 a3 i j)⟩
    · rw [a5] at b6
      cases b6
  · rcases d2 with ⟨b1, _⟩ | ⟨b1, b2, ⟨b3, k9, b4, b5, b6⟩ | ⟨b3, b4, b5, v9, b6, b7⟩⟩
    · omega
    · rw [a7] at b6
      cases b6
    · rw [a7] at b6
      have e : v = v9 := Sum.inr.inj b6
      subst e
      have kv := rdf9_v 402 kv9_d a7
      have e6 : T1 111 0 6 = T 106 0 2 := by omega
      rw [e6] at b7
      refine ⟨by omega, by omega, by omega, by omega, et, fun c y z => ?_⟩
      by_cases zc : c = T 106 0 2
      · subst zc
        have gb := rdf9_g 402 gb9_d a7
        have g4 := gb.1 4 (by omega) (by omega)
        rw [rb9_0.2.2.2.2.1] at g4
        have e4 : T2 401 (T 106 0 2) 4 = v 4 := (k5 _ _).trans (a8 4 (by omega) (by omega))
        refine ⟨fun w d e => by rw [k5, a8 w d e, b7 w d (by omega)], fun q d e => ⟨fun f => ?_, fun f => ?_⟩⟩
        · rw [e4] at f
          rw [k6, a9 q d f, b7 (16 + q) (by omega) (by omega)]
        · rw [e4] at f
          rw [b7 (16 + q) (by omega) (by omega)]
          exact kv q d e f
      · exact hr c y (by omega) a6

