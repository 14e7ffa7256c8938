theorem rb_del {T T' : Zt} {m x : Int} {i : Nat} {L : Int → Int → List Int} (r : RB_ T L) (hm : 0 ≤ m ∧ m < T 111 0 29) (hx : (L m 0)[i]? = some x) (e29 : T' 111 0 29 = T 111 0 29) (e47 : T' 111 0 47 = T 111 0 47)
    (e3 : ∀ j, j ≠ m → T' 253 0 j = T 253 0 j) (e4 : ∀ j, j ≠ m → T' 254 0 j = T 254 0 j) (e5 : ∀ j, T' 255 0 j = T 255 0 j) (e6 : ∀ j, T' 256 0 j = T 256 0 j)
    (e1 : T' 254 0 m = T 254 0 m - 1)
    (e2 : (i = 0 ∧ T' 253 0 m = T 252 0 x ∧ ∀ z, T' 252 0 z = T 252 0 z) ∨ (T' 253 0 m = T 253 0 m ∧ ∃ n p, i = n + 1 ∧ (L m 0)[n]? = some p ∧ T' 252 0 p = T 252 0 x ∧ ∀ z, z ≠ p → T' 252 0 z = T 252 0 z)) : RB_ T' (fun m' b' => if m' = m ∧ b' = 0 then (L m 0).eraseIdx i else L m' b') ∧ RR_ T' (fun m' b' => if m' = m ∧ b' = 0 then (L m 0).eraseIdx i else L m' b') [] := by
  obtain ⟨a, b, c, d⟩ := r
  have hl : lk_ T (T 253 0 m) (L m 0) ∧ T 254 0 m = ((L m 0).length : Int) := a m 0 hm.1 hm.2 (by decide) (by decide)
  have hi : i < (L m 0).length := by
    rcases Nat.lt_or_ge i (L m 0).length with z | z
    · exact z
    · rw [List.getElem?_eq_none z] at hx; cases hx
  have sub : ∀ z, z ∈ (L m 0).eraseIdx i → z ∈ L m 0 := fun z hz => (List.eraseIdx_sublist (L m 0) i).subset hz
  have other : ∀ m' b', ¬ (m' = m ∧ b' = 0) → ∀ z ∈ L m' b', T' 252 0 z = T 252 0 z := by
    intro m' b' hn z hz
    rcases e2 with ⟨_, _, e⟩ | ⟨_, n, p, _, gp, _, e⟩
    · exact e z
    · exact e z (fun q => hn (by have := d m' b' m 0 p (q ▸ hz) (List.mem_of_getElem? gp); exact this))
  refine ⟨⟨?_, ?_, ?_, ?_⟩, (by simp), List.nodup_nil, (by simp)⟩
  · intro m' b' h1 h2 h3 h4
    by_cases k : m' = m ∧ b' = 0
    · obtain ⟨rfl, rfl⟩ := k
      simp only [and_self, if_true]
      refine ⟨?_, ?_⟩
      · show lk_ T' (T' 253 0 m') _
        rcases e2 with ⟨z, ef, e⟩ | ⟨ef, n, p, z, gp, ep, e⟩
        · subst z
          rw [ef]
          cases hL : L m' 0 with
          | nil => rw [hL] at hi; exact absurd hi (by simp)
          | cons y l =>
            rw [hL] at hx hl
            have : y = x := by simpa using hx
            subst this
            exact lk_e hl.1.2.2 (fun z _ => e z)
        · subst z
          rw [ef]
          exact lk_del ep hl.1 (c m' 0) hx gp (fun z _ hn => e z hn)
      · show T' 254 0 m' = _
        rw [e1, hl.2, List.length_eraseIdx_of_lt hi]; omega
    · simp only [k, if_false]
      have g := a m' b' h1 (by omega) h3 h4
      rcases (by omega : b' = 0 ∨ b' = 1) with z | z
      · subst z
        have f1 : T' (kf_ 0) 0 m' = T (kf_ 0) 0 m' := e3 m' (fun q => k ⟨q, rfl⟩)
        have f2 : T' (km_ 0) 0 m' = T (km_ 0) 0 m' := e4 m' (fun q => k ⟨q, rfl⟩)
        rw [f1, f2]; exact ⟨lk_e g.1 (other _ _ k), g.2⟩
      · subst z
        have f1 : T' (kf_ 1) 0 m' = T (kf_ 1) 0 m' := e5 m'
        have f2 : T' (km_ 1) 0 m' = T (km_ 1) 0 m' := e6 m'
        rw [f1, f2]; exact ⟨lk_e g.1 (other _ _ k), g.2⟩
  · intro m' b' z hz
    rw [e47]
    by_cases k : m' = m ∧ b' = 0
    · simp only [k, and_self, if_true] at hz; exact b m 0 z (sub z hz)
    · simp only [k, if_false] at hz; exact b m' b' z hz
  · intro m' b'
    by_cases k : m' = m ∧ b' = 0
    · simp only [k, and_self, if_true]; exact (c m 0).sublist (List.eraseIdx_sublist _ _)
    · simp only [k, if_false]; exact c m' b'
  · intro m1 b1 m2 b2 z h1 h2
    by_cases k : m1 = m ∧ b1 = 0
    · by_cases k2 : m2 = m ∧ b2 = 0
      · exact ⟨k.1.trans k2.1.symm, k.2.trans k2.2.symm⟩
      · simp only [k, and_self, if_true] at h1
        simp only [k2, if_false] at h2
        have := d m 0 m2 b2 z (sub z h1) h2
        exact absurd ⟨this.1.symm, this.2.symm⟩ k2
    · simp only [k, if_false] at h1
      by_cases k2 : m2 = m ∧ b2 = 0
      · simp only [k2, and_self, if_true] at h2
        have := d m1 b1 m 0 z h1 (sub z h2)
        exact absurd this k
      · simp only [k2, if_false] at h2
        exact d m1 b1 m2 b2 z h1 h2
