theorem rb_new {T T' : Zt} {L : Int → Int → List Int} (h : RB_ T L) (h0 : 0 ≤ T 111 0 47) (e29 : T' 111 0 29 = T 111 0 29) (e47 : T' 111 0 47 = T 111 0 47 + 1) (e : ∀ k j, k = 252 ∨ k = 253 ∨ k = 254 ∨ k = 255 ∨ k = 256 → T' k 0 j = T k 0 j) : RB_ T' L ∧ RR_ T' L [T 111 0 47] := by
  obtain ⟨a, b, c, d⟩ := h
  refine ⟨⟨fun m b' h1 h2 h3 h4 => ?_, fun m b' x hx => ?_, c, d⟩, fun x hx => ?_, by simp, fun m b' x hx hL => ?_⟩
  · have y := a m b' h1 (by omega) h3 h4
    have z1 : kf_ b' = 253 ∨ kf_ b' = 255 := by unfold kf_; split <;> simp
    have z2 : km_ b' = 254 ∨ km_ b' = 256 := by unfold km_; split <;> simp
    rw [e (kf_ b') m (by omega), e (km_ b') m (by omega)]
    exact ⟨lk_e y.1 (fun x _ => e 252 x (by decide)), y.2⟩
  · have := b m b' x hx
    omega
  · rw [List.mem_singleton] at hx
    omega
  · rw [List.mem_singleton] at hx
    have := b m b' x hL
    omega
theorem rb_take {T T' : Zt} {m : Int} {L : Int → Int → List Int} (h : RB_ T L) (hm : 0 ≤ m ∧ m < T 111 0 29) (e29 : T' 111 0 29 = T 111 0 29) (e47 : T' 111 0 47 = T 111 0 47) (en : ∀ z, T' 252 0 z = T 252 0 z) (e3 : ∀ j, j ≠ m → T' 253 0 j = T 253 0 j) (e4 : ∀ j, j ≠ m → T' 254 0 j = T 254 0 j) (e5 : ∀ j, T' 255 0 j = T 255 0 j) (e6 : ∀ j, T' 256 0 j = T 256 0 j) (e1 : T' 253 0 m = -1) (e2 : T' 254 0 m = 0) : RB_ T' (fun m' b' => if m' = m ∧ b' = 0 then [] else L m' b') ∧ RR_ T' (fun m' b' => if m' = m ∧ b' = 0 then [] else L m' b') (L m 0) ∧ lk_ T' (T 253 0 m) (L m 0) := by
  obtain ⟨a, b, c, d⟩ := h
  have hl : lk_ T (T 253 0 m) (L m 0) := (a m 0 hm.1 hm.2 (by decide) (by decide)).1
  refine ⟨⟨?_, ?_, ?_, ?_⟩, ⟨?_, c m 0, ?_⟩, lk_e hl (fun x _ => en x)⟩
  · intro m' b' h1 h2 h3 h4
    by_cases k : m' = m ∧ b' = 0
    · obtain ⟨rfl, rfl⟩ := k
      simp only [and_self, if_true]
      exact ⟨e1, e2⟩
    · simp only [k, if_false]
      have g := a m' b' h1 (by omega) h3 h4
      rcases (by omega : b' = 0 ∨ b' = 1) with z | z
      · subst z
        have f1 : T' (kf_ 0) 0 m' = T (kf_ 0) 0 m' := e3 m' (fun q => k ⟨q, rfl⟩)
        have f2 : T' (km_ 0) 0 m' = T (km_ 0) 0 m' := e4 m' (fun q => k ⟨q, rfl⟩)
        rw [f1, f2]; exact ⟨lk_e g.1 (fun x _ => en x), g.2⟩
      · subst z
        have f1 : T' (kf_ 1) 0 m' = T (kf_ 1) 0 m' := e5 m'
        have f2 : T' (km_ 1) 0 m' = T (km_ 1) 0 m' := e6 m'
        rw [f1, f2]; exact ⟨lk_e g.1 (fun x _ => en x), g.2⟩
  · intro m' b' z hz
    rw [e47]
    by_cases k : m' = m ∧ b' = 0
    · simp [k] at hz
    · simp only [k, if_false] at hz; exact b m' b' z hz
  · intro m' b'
    by_cases k : m' = m ∧ b' = 0
    · simp [k]
    · simp only [k, if_false]; exact c m' b'
  · intro m1 b1 m2 b2 z h1 h2
    by_cases k : m1 = m ∧ b1 = 0
    · simp [k] at h1
    · by_cases k2 : m2 = m ∧ b2 = 0
      · simp [k2] at h2
      · simp only [k, k2, if_false] at h1 h2; exact d m1 b1 m2 b2 z h1 h2
  · intro z hz
    rw [e47]; exact b m 0 z hz
  · intro m' b' z hz
    by_cases k : m' = m ∧ b' = 0
    · simp [k]
    · simp only [k, if_false]
      exact fun hy => k (by have := d m' b' m 0 z hy hz; exact this)
