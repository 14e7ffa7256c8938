theorem si_bg {m : Int} {r : Int → Int} {a0 b a : Sg_} (w : RB9_ r) (g49 : ∀ t, 0 ≤ t → t ≤ 1 → r 9 ≤ a 449 t ∧ a 449 t ≤ 10) (w5 : ∀ s x y, 0 ≤ s → s ≤ 1 → s * 10 ≤ x → x < s * 10 + a 449 s → s * 10 ≤ y → y < s * 10 + a 449 s → a 448 x = a 448 y → x = y) (f49 : ∀ t, 0 ≤ t → t ≤ 1 → a0 449 t = a 449 t) (f48 : ∀ t x, 0 ≤ t → t ≤ 1 → t * 10 ≤ x → x < t * 10 + a 449 t → a0 448 x = a 448 x) (h : BGR_ m r a0 b) : SI_ m 0 r b (bb9_ r a) ∧ FN_ (bb9_ r a) := by
  obtain ⟨h1, h2, h3, h4, h5, h6, h7, h8, h9⟩ := h
  have s := si_bb (m := m) (b := b) w g49 w5 (fun t t0 t1 => (h1 t t0 t1).trans (f49 t t0 t1)) (fun t x t0 t1 x0 x1 => (h2 t x t0 t1 x0 (by rw [f49 t t0 t1]; exact x1)).trans (f48 t x t0 t1 x0 x1)) h3 (fun t x t0 t1 x0 x1 => h4 t x t0 t1 x0 (by rw [f49 t t0 t1]; exact x1)) h5 h6 h7 h8 h9
  refine ⟨s, fun _ => ?_⟩
  have e0 := (eq_j s.1 (s := 0) (by decide) (by decide)).2.1
  have e1 := (eq_j s.1 (s := 1) (by decide) (by decide)).2.1
  have f0 := h3 0 (by decide) (by decide)
  have f1 := h3 1 (by decide) (by decide)
  have w9 := w.2.1
  omega
-- the rows of the reference, their lists told
theorem rb_put {T T' : Zt} {m b x : Int} {rest : List Int} {L : Int → Int → List Int} (hb : 0 ≤ b ∧ b ≤ 1) (hm : 0 ≤ m ∧ m < T 111 0 29) (h47 : T 111 0 47 ≤ 3000) (r : RB_ T L) (q : RR_ T L (x :: rest))
    (e29 : T' 111 0 29 = T 111 0 29) (e47 : T' 111 0 47 = T 111 0 47)
    (ef : ∀ m' b', 0 ≤ b' → b' ≤ 1 → ¬ (m' = m ∧ b' = b) → T' (kf_ b') 0 m' = T (kf_ b') 0 m' ∧ T' (km_ b') 0 m' = T (km_ b') 0 m')
    (e1 : T' (km_ b) 0 m = T (km_ b) 0 m + 1) (e3 : T' 252 0 x = -1)
    (e2 : (L m b = [] ∧ T' (kf_ b) 0 m = x ∧ ∀ z, z ≠ x → T' 252 0 z = T 252 0 z) ∨ (T' (kf_ b) 0 m = T (kf_ b) 0 m ∧ ∃ y, (L m b).getLast? = some y ∧ T' 252 0 y = x ∧ ∀ z, z ≠ x → z ≠ y → T' 252 0 z = T 252 0 z)) :
    RB_ T' (fun m' b' => if m' = m ∧ b' = b then L m b ++ [x] else L m' b') ∧ RR_ T' (fun m' b' => if m' = m ∧ b' = b then L m b ++ [x] else L m' b') rest ∧ ∀ z ∈ rest, T' 252 0 z = T 252 0 z := by
  obtain ⟨r1, r2, r3, r4⟩ := r
  obtain ⟨q1, q2, q3⟩ := q
  have hx := q1 x List.mem_cons_self
  have n2 := List.nodup_cons.mp q2
  have hxL : ∀ m' b', x ∉ L m' b' := fun m' b' => q3 m' b' x List.mem_cons_self
  have hl := r1 m b hm.1 hm.2 hb.1 hb.2
  -- what stays of the links
  have keep : ∀ z, z ≠ x → (∀ y, (L m b).getLast? = some y → z ≠ y) → T' 252 0 z = T 252 0 z := by
    intro z hz hy
    rcases e2 with ⟨_, _, e⟩ | ⟨_, y, gy, _, e⟩
    · exact e z hz
    · exact e z hz (hy y gy)
  have other : ∀ m' b', ¬ (m' = m ∧ b' = b) → ∀ z ∈ L m' b', T' 252 0 z = T 252 0 z := fun m' b' hn z hz =>
    keep z (fun e => hxL m' b' (e ▸ hz)) (fun y gy e => hn (by
      have := r4 m' b' m b y (e ▸ hz) (List.mem_of_getLast? gy)
      exact this))
  refine ⟨⟨?_, ?_, ?_, ?_⟩, ⟨?_, n2.2, ?_⟩, ?_⟩
  · intro m' b' h1 h2 h3 h4
    by_cases c : m' = m ∧ b' = b
    · simp only [c, and_self, if_true]
      refine ⟨?_, by rw [e1, hl.2]; simp⟩
      rcases e2 with ⟨en, ef1, e⟩ | ⟨ef1, y, gy, ey, e⟩
      · rw [en, ef1]; exact ⟨rfl, by omega, e3⟩
      · rw [ef1]
        exact lk_app (by omega) e3 ey hl.1 (r3 m b) gy (fun z hz hn => e z (fun q => hxL m b (q ▸ hz)) hn)
    · simp only [c, if_false]
      have f := ef m' b' h3 h4 c
      have g := r1 m' b' h1 (by omega) h3 h4
      rw [f.1, f.2]
      exact ⟨lk_e g.1 (other m' b' c), g.2⟩
  · intro m' b' z hz
    rw [e47]
    by_cases c : m' = m ∧ b' = b
    · simp only [c, and_self, if_true, List.mem_append, List.mem_singleton] at hz
      rcases hz with hz | hz
      · exact r2 m b z hz
      · rw [hz]; exact hx
    · simp only [c, if_false] at hz; exact r2 m' b' z hz
  · intro m' b'
    by_cases c : m' = m ∧ b' = b
    · simp only [c, and_self, if_true]
      exact List.nodup_append.mpr ⟨r3 m b, by simp, fun z hz w hw e => by
        rw [List.mem_singleton] at hw
        exact hxL m b (by rw [← hw, ← e]; exact hz)⟩
    · simp only [c, if_false]; exact r3 m' b'
  · intro m1 b1 m2 b2 z h1 h2
    by_cases c : m1 = m ∧ b1 = b
    · by_cases d : m2 = m ∧ b2 = b
      · exact ⟨c.1.trans d.1.symm, c.2.trans d.2.symm⟩
      · simp only [c, and_self, if_true, List.mem_append, List.mem_singleton] at h1
        simp only [d, if_false] at h2
        rcases h1 with h1 | h1
        · have := r4 m b m2 b2 z h1 h2
          exact absurd ⟨this.1.symm, this.2.symm⟩ d
        · exact absurd (h1 ▸ h2) (hxL m2 b2)
    · simp only [c, if_false] at h1
      by_cases d : m2 = m ∧ b2 = b
      · simp only [d, and_self, if_true, List.mem_append, List.mem_singleton] at h2
        rcases h2 with h2 | h2
        · have := r4 m1 b1 m b z h1 h2
          exact absurd this c
        · exact absurd (h2 ▸ h1) (hxL m1 b1)
      · simp only [d, if_false] at h2
        exact r4 m1 b1 m2 b2 z h1 h2
  · intro z hz
    rw [e47]; exact q1 z (List.mem_cons_of_mem _ hz)
  · intro m' b' z hz
    by_cases c : m' = m ∧ b' = b
    · simp only [c, and_self, if_true, List.mem_append, List.mem_singleton]
      intro h
      rcases h with h | h
      · exact q3 m b z (List.mem_cons_of_mem _ hz) h
      · exact n2.1 (h ▸ hz)
    · simp only [c, if_false]; exact q3 m' b' z (List.mem_cons_of_mem _ hz)
  · intro z hz
    exact keep z (fun e => n2.1 (e ▸ hz)) (fun y gy e => q3 m b z (List.mem_cons_of_mem _ hz) (by rw [e]; exact List.mem_of_getLast? gy))
