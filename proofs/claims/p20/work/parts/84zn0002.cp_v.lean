/-- those that stay close up: one goes -/
theorem cp_v {c : Sg_} {s x k N : Int} (k0 : 0 ≤ k) (u1 : c 471 (6 * s + k) = x) (u2 : ∀ i, 0 ≤ i → i < N → c 471 (6 * s + i) = x → i = k) : ∀ n : Nat, (n : Int) ≤ N → ((n : Int) ≤ k ∧ cpR_ c s x n = (c, (n : Int))) ∨ (k < (n : Int) ∧ (cpR_ c s x n).2 = (n : Int) - 1 ∧ (∀ (K : Nat) (J : Int), K ≠ 471 → (cpR_ c s x n).1 K J = c K J) ∧ ∀ J, (cpR_ c s x n).1 471 J = if 6 * s + k ≤ J ∧ J < 6 * s + (n : Int) - 1 then c 471 (J + 1) else c 471 J)
  | 0, _ => Or.inl ⟨k0, rfl⟩
  | n + 1, hN => by
    rcases cp_v k0 u1 u2 n (by omega) with ⟨h1, h2⟩ | ⟨h1, h2, h3, h4⟩
    · by_cases z : (n : Int) = k
      · have t : (cpR_ c s x n).1 471 (6 * s + (n : Int)) = x := by rw [h2, z]; exact u1
        rw [cpR_t t, h2]
        refine Or.inr ⟨by omega, by show (n : Int) = _; omega, fun _ _ _ => rfl, fun J => ?_⟩
        rw [if_neg (by omega)]
      · have t : (cpR_ c s x n).1 471 (6 * s + (n : Int)) ≠ x := by
          rw [h2]
          intro e
          exact z (u2 n (by omega) (by omega) e)
        rw [cpR_f t, h2]
        refine Or.inl ⟨by omega, ?_⟩
        show (u2_ c 471 (6 * s + (n : Int)) (c 471 (6 * s + (n : Int))), (n : Int) + 1) = _
        rw [u2_m rfl]
        rfl
    · have t0 : (cpR_ c s x n).1 471 (6 * s + (n : Int)) = c 471 (6 * s + (n : Int)) := by rw [h4, if_neg (by omega)]
      have t : (cpR_ c s x n).1 471 (6 * s + (n : Int)) ≠ x := by
        rw [t0]
        intro e
        have := u2 n (by omega) (by omega) e
        omega
      rw [cpR_f t, t0, h2]
      refine Or.inr ⟨by omega, by show (n : Int) - 1 + 1 = _; omega, fun K J hK => ?_, fun J => ?_⟩
      · show u2_ (cpR_ c s x n).1 471 _ _ K J = _
        rw [u2_k hK]
        exact h3 K J hK
      · show u2_ (cpR_ c s x n).1 471 (6 * s + ((n : Int) - 1)) (c 471 (6 * s + (n : Int))) 471 J = _
        by_cases z : J = 6 * s + ((n : Int) - 1)
        · rw [z, u2_s, if_pos (by omega), show 6 * s + ((n : Int) - 1) + 1 = 6 * s + (n : Int) by omega]
        · rw [u2_n (fun q => z q.2), h4]
          by_cases y : 6 * s + k ≤ J ∧ J < 6 * s + (n : Int) - 1
          · rw [if_pos y, if_pos (by omega)]
          · rw [if_neg y, if_neg (by omega)]
