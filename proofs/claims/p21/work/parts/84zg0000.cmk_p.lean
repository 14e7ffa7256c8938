-- refresh: pots seen so far
def ep_ (E : Int → Int) (p c k : Int) : Int := if (0 ≤ E k ∧ E k < p) ∨ (E k = p ∧ k < c) then E k else -1
theorem ep_0 {E : Int → Int} {k : Int} (h : 0 ≤ k) : ep_ E 0 0 k = -1 := if_neg (fun q => by omega)
theorem ep_n {E : Int → Int} {p c k : Int} (h : ¬ (k = c ∧ E c = p)) : ep_ E p (c + 1) k = ep_ E p c k := by
  unfold ep_
  by_cases z : k = c
  · subst z
    have n1 : ((0 ≤ E k ∧ E k < p) ∨ (E k = p ∧ k < k + 1)) ↔ ((0 ≤ E k ∧ E k < p) ∨ (E k = p ∧ k < k)) := by
      constructor
      · rintro (q | q)
        · exact Or.inl q
        · exact absurd ⟨rfl, q.1⟩ h
      · rintro (q | q)
        · exact Or.inl q
        · omega
    by_cases y : (0 ≤ E k ∧ E k < p) ∨ (E k = p ∧ k < k)
    · rw [if_pos y, if_pos (n1.mpr y)]
    · rw [if_neg y, if_neg (fun q => y (n1.mp q))]
  · have n1 : ((0 ≤ E k ∧ E k < p) ∨ (E k = p ∧ k < c + 1)) ↔ ((0 ≤ E k ∧ E k < p) ∨ (E k = p ∧ k < c)) := by omega
    by_cases y : (0 ≤ E k ∧ E k < p) ∨ (E k = p ∧ k < c)
    · rw [if_pos y, if_pos (n1.mpr y)]
    · rw [if_neg y, if_neg (fun q => y (n1.mp q))]
theorem ep_c {E : Int → Int} {p c : Int} (h : E c = p) : ep_ E p c c = -1 ∧ ep_ E p (c + 1) c = p := ⟨if_neg (fun q => by omega), (if_pos (Or.inr ⟨h, by omega⟩)).trans h⟩
theorem ep_p {E : Int → Int} {p k : Int} (hp : 0 ≤ p) (hk : k < 12) (h0 : 0 ≤ k) : ep_ E (p + 1) 0 k = ep_ E p 12 k := by
  unfold ep_
  have n1 : ((0 ≤ E k ∧ E k < p + 1) ∨ (E k = p + 1 ∧ k < 0)) ↔ ((0 ≤ E k ∧ E k < p) ∨ (E k = p ∧ k < 12)) := by omega
  by_cases y : (0 ≤ E k ∧ E k < p) ∨ (E k = p ∧ k < 12)
  · rw [if_pos y, if_pos (n1.mpr y)]
  · rw [if_neg y, if_neg (fun q => y (n1.mp q))]
theorem ep_3 {E : Int → Int} {k : Int} (h : -1 ≤ E k ∧ E k ≤ 2) : ep_ E 3 0 k = E k := by
  unfold ep_
  by_cases y : (0 ≤ E k ∧ E k < 3) ∨ (E k = 3 ∧ k < 0)
  · rw [if_pos y]
  · rw [if_neg y]; omega
theorem cmk_c {E E2 C f : Int → Int} {g c : Int} (hg : 0 ≤ g) : ∀ n : Nat, (∀ k : Int, 0 ≤ k → k < n → E2 k = E k ∨ f k = -1) → cmk_ E2 C f g c n = cmk_ E C f g c n
  | 0, _ => rfl
  | n + 1, h => by
    have i := cmk_c (C := C) (c := c) hg n (fun k a b => h k a (by omega))
    show cmk_ E2 C f g c n + (if E2 n ≠ -1 ∧ f n = g ∧ C n = c then (1 : Int) else 0) = cmk_ E C f g c n + (if E n ≠ -1 ∧ f n = g ∧ C n = c then (1 : Int) else 0)
    rw [i]
    rcases h n (by omega) (by omega) with z | z
    · rw [z]
    · have n1 : ¬ (E2 n ≠ -1 ∧ f n = g ∧ C n = c) := fun q => by have := q.2.1; omega
      have n2 : ¬ (E n ≠ -1 ∧ f n = g ∧ C n = c) := fun q => by have := q.2.1; omega
      rw [if_neg n1, if_neg n2]
theorem oc_c {T : Zt} {E E2 C f : Int → Int} (h : OCW_ T E C f) (e : ∀ k, 0 ≤ k → k < 12 → E2 k = E k ∨ f k = -1) : OCW_ T E2 C f := by
  refine ⟨fun p g a b c d => ?_, fun g c a b x y => ?_⟩
  · rw [h.1 p g a b c d]
    have n1 : OX_ E f p g ↔ OX_ E2 f p g := by
      constructor
      · rintro ⟨k, x, y, z, w⟩
        exact ⟨k, x, y, by rcases e k x y with q | q <;> omega, w⟩
      · rintro ⟨k, x, y, z, w⟩
        exact ⟨k, x, y, by rcases e k x y with q | q <;> omega, w⟩
    exact not_congr n1
  · rw [h.2 g c a b x y]
    exact (cmk_c a 12 (fun k p q => e k p (by omega))).symm
theorem cmk_p {E E2 C f : Int → Int} {x g0 : Int} (h0 : 0 ≤ x) (e1 : E x = -1) (e2 : E2 x ≠ -1) (e3 : ∀ k, k ≠ x → E2 k = E k) (hf : f x = g0) (g c : Int) : ∀ n : Nat, cmk_ E2 C f g c n = cmk_ E C f g c n + (if x < n ∧ g = g0 ∧ C x = c then 1 else 0)
  | 0 => by
      have n1 : ¬ (x < ((0 : Nat) : Int) ∧ g = g0 ∧ C x = c) := fun q => by have := q.1; omega
      rw [if_neg n1]; rfl
  | k + 1 => by
      have i := cmk_p (C := C) h0 e1 e2 e3 hf g c k
      show cmk_ E2 C f g c k + (if E2 k ≠ -1 ∧ f k = g ∧ C k = c then (1 : Int) else 0) = cmk_ E C f g c k + (if E k ≠ -1 ∧ f k = g ∧ C k = c then (1 : Int) else 0) + (if x < ((k + 1 : Nat) : Int) ∧ g = g0 ∧ C x = c then (1 : Int) else 0)
      rw [i]
      by_cases z : ((k : Nat) : Int) = x
      · have n1 : ¬ (x < ((k : Nat) : Int) ∧ g = g0 ∧ C x = c) := fun q => by have := q.1; omega
        have n2 : ¬ (E k ≠ -1 ∧ f k = g ∧ C k = c) := fun q => q.1 (by rw [z]; exact e1)
        rw [if_neg n1, if_neg n2]
        by_cases y : g = g0 ∧ C x = c
        · have y1 : E2 k ≠ -1 ∧ f k = g ∧ C k = c := ⟨by rw [z]; exact e2, by rw [z, hf]; exact y.1.symm, by rw [z]; exact y.2⟩
          have y2 : x < ((k + 1 : Nat) : Int) ∧ g = g0 ∧ C x = c := ⟨by omega, y⟩
          rw [if_pos y1, if_pos y2]
        · have y1 : ¬ (E2 k ≠ -1 ∧ f k = g ∧ C k = c) := fun q => y ⟨by have := q.2.1; rw [z, hf] at this; exact this.symm, by have := q.2.2; rw [z] at this; exact this⟩
          have y2 : ¬ (x < ((k + 1 : Nat) : Int) ∧ g = g0 ∧ C x = c) := fun q => y q.2
          rw [if_neg y1, if_neg y2]
      · rw [e3 _ z]
        by_cases y : x < ((k : Nat) : Int) ∧ g = g0 ∧ C x = c
        · have y2 : x < ((k + 1 : Nat) : Int) ∧ g = g0 ∧ C x = c := ⟨by have := y.1; omega, y.2⟩
          rw [if_pos y, if_pos y2]; omega
        · have y2 : ¬ (x < ((k + 1 : Nat) : Int) ∧ g = g0 ∧ C x = c) := fun q => y ⟨by have := q.1; omega, q.2⟩
          rw [if_neg y, if_neg y2]; omega
