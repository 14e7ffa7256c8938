-- the draw as the house counts it
theorem qs_g1 {C : Int → Prop} {V : Int → Nat} {g : Int} (h0 : 0 ≤ g) (h4 : g < 4) (c : C g) : qs_ C V (g - 1) = V g + qs_ C V g := qs_f h0 h4 (by omega) c (fun u a b d => by omega)
theorem qs_g0 {C : Int → Prop} {V : Int → Nat} {g : Int} (nc : ¬ C g) : qs_ C V (g - 1) = qs_ C V g := by
  have e : ∀ u : Int, q1_ (g - 1 < u ∧ C u) (V u) = q1_ (g < u ∧ C u) (V u) := fun u => q1_e ⟨fun q => ⟨by
    have := q.1
    by_cases z : u = g
    · exact absurd (z ▸ q.2) nc
    · omega, q.2⟩, fun q => ⟨by have := q.1; omega, q.2⟩⟩ (fun _ => rfl)
  unfold qs_
  rw [e 0, e 1, e 2, e 3]
theorem wr_w (a b : Int) : wr_ (wr_ a + b) = wr_ (a + b) := by unfold wr_; omega
theorem wr_i {a : Int} (h : -2147483648 ≤ a ∧ a ≤ 2147483647) : wr_ a = a := by unfold wr_; omega
/-- how many of the clubs below k stand in a group and are of a country -/
def cmk_ (E C f : Int → Int) (g c : Int) : Nat → Int
  | 0 => 0
  | k + 1 => cmk_ E C f g c k + (if E k ≠ -1 ∧ f k = g ∧ C k = c then 1 else 0)
theorem cmk_b (E C f : Int → Int) (g c : Int) : ∀ k : Nat, 0 ≤ cmk_ E C f g c k ∧ cmk_ E C f g c k ≤ k
  | 0 => by simp [cmk_]
  | k + 1 => by
      have i := cmk_b E C f g c k
      unfold cmk_
      split <;> omega
theorem cmk_a {E C f : Int → Int} {x g : Int} (hx : f x ≠ g) : ∀ k : Nat, alk_ E C f x g k = cmk_ E C f g (C x) k
  | 0 => rfl
  | k + 1 => by
      have i := cmk_a (E := E) (C := C) hx k
      show alk_ E C f x g k + (if ((k : Nat) : Int) ≠ x ∧ E k ≠ -1 ∧ f k = g ∧ C k = C x then (1 : Int) else 0) = cmk_ E C f g (C x) k + (if E k ≠ -1 ∧ f k = g ∧ C k = C x then (1 : Int) else 0)
      rw [i]
      by_cases z : ((k : Nat) : Int) = x
      · have n1 : ¬ (((k : Nat) : Int) ≠ x ∧ E k ≠ -1 ∧ f k = g ∧ C k = C x) := fun q => q.1 z
        have n2 : ¬ (E k ≠ -1 ∧ f k = g ∧ C k = C x) := fun q => hx (by rw [← z]; exact q.2.1)
        rw [if_neg n1, if_neg n2]
      · by_cases y : E k ≠ -1 ∧ f k = g ∧ C k = C x
        · have y1 : ((k : Nat) : Int) ≠ x ∧ E k ≠ -1 ∧ f k = g ∧ C k = C x := ⟨z, y⟩
          rw [if_pos y, if_pos y1]
        · have y1 : ¬ (((k : Nat) : Int) ≠ x ∧ E k ≠ -1 ∧ f k = g ∧ C k = C x) := fun q => y q.2
          rw [if_neg y, if_neg y1]
theorem cmk_u {E C f : Int → Int} {x g : Int} (hx : f x = -1) (hg : 0 ≤ g) (he : E x ≠ -1) (h0 : 0 ≤ x) (g2 c : Int) (h2 : 0 ≤ g2) : ∀ k : Nat, cmk_ E C (fu_ f x g) g2 c k = cmk_ E C f g2 c k + (if x < k ∧ g2 = g ∧ C x = c then 1 else 0)
  | 0 => by
      have n1 : ¬ (x < ((0 : Nat) : Int) ∧ g2 = g ∧ C x = c) := fun q => by have := q.1; omega
      rw [if_neg n1]; rfl
  | k + 1 => by
      have i := cmk_u (C := C) hx hg he h0 g2 c h2 k
      show cmk_ E C (fu_ f x g) g2 c k + (if E k ≠ -1 ∧ fu_ f x g k = g2 ∧ C k = c then (1 : Int) else 0) = cmk_ E C f g2 c k + (if E k ≠ -1 ∧ f k = g2 ∧ C k = c then (1 : Int) else 0) + (if x < ((k + 1 : Nat) : Int) ∧ g2 = g ∧ C x = c then (1 : Int) else 0)
      rw [i]
      by_cases z : ((k : Nat) : Int) = x
      · have n1 : ¬ (x < ((k : Nat) : Int) ∧ g2 = g ∧ C x = c) := fun q => by have := q.1; omega
        have n2 : ¬ (E k ≠ -1 ∧ f k = g2 ∧ C k = c) := fun q => by have := q.2.1; rw [z, hx] at this; omega
        rw [if_neg n1, if_neg n2]
        by_cases y : g2 = g ∧ C x = c
        · rw [if_pos (show E k ≠ -1 ∧ fu_ f x g k = g2 ∧ C k = c from ⟨by rw [z]; exact he, by rw [z, fu_s]; exact y.1.symm, by rw [z]; exact y.2⟩), if_pos (show x < ((k + 1 : Nat) : Int) ∧ g2 = g ∧ C x = c from ⟨by omega, y⟩)]
        · rw [if_neg (show ¬ (E k ≠ -1 ∧ fu_ f x g k = g2 ∧ C k = c) from fun q => y ⟨by have := q.2.1; rw [z, fu_s] at this; exact this.symm, by have := q.2.2; rw [z] at this; exact this⟩), if_neg (show ¬ (x < ((k + 1 : Nat) : Int) ∧ g2 = g ∧ C x = c) from fun q => y q.2)]
      · rw [show fu_ f x g k = f k from fu_n z]
        by_cases y : x < ((k : Nat) : Int) ∧ g2 = g ∧ C x = c
        · rw [if_pos y, if_pos (show x < ((k + 1 : Nat) : Int) ∧ g2 = g ∧ C x = c from ⟨by have := y.1; omega, y.2⟩)]; omega
        · rw [if_neg y, if_neg (show ¬ (x < ((k + 1 : Nat) : Int) ∧ g2 = g ∧ C x = c) from fun q => y ⟨by have := q.1; omega, q.2⟩)]; omega
