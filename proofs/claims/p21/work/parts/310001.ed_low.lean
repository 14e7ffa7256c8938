theorem sp_low {f : Nat → Int} {s t lo : Nat} (e : ∀ k, bt_ t k = if k = lo then 0 else bt_ s k) (h1 : bt_ s lo = 1) : ∀ n, sp_ f s n = sp_ f t n + (if lo < n then f lo else 0)
  | 0 => rfl
  | n + 1 => by
      have i := sp_low (f := f) e h1 n
      unfold sp_
      rw [i, e n]
      by_cases z : n = lo
      · subst z; simp [h1]
      · by_cases y : lo < n
        · have : lo < n + 1 := by omega
          simp [z, y, this]; omega
        · have : ¬ lo < n + 1 := by omega
          simp [z, y, this]
/-- a sum over the members from lo on, below n -/
def su_ (g : Nat → Int) (s lo : Nat) : Nat → Int
  | 0 => 0
  | n + 1 => su_ g s lo n + (if lo ≤ n then bt_ s n * g n else 0)
/-- how many of the pairs are these two -/
def cb_ (a b : Nat) : List (Nat × Nat) → Int
  | [] => 0
  | p :: l => (if (p.1 = a ∧ p.2 = b) ∨ (p.1 = b ∧ p.2 = a) then 1 else 0) + cb_ a b l
theorem su_0 (s lo : Nat) : ∀ n, su_ (fun _ => 0) s lo n = 0
  | 0 => rfl
  | n + 1 => by unfold su_; rw [su_0 s lo n]; simp
theorem su_a (g h : Nat → Int) (s lo : Nat) : ∀ n, su_ (fun k => g k + h k) s lo n = su_ g s lo n + su_ h s lo n
  | 0 => rfl
  | n + 1 => by
      unfold su_; rw [su_a g h s lo n]
      split
      · rw [Int.mul_add]; omega
      · omega
theorem su_1 (s lo c : Nat) : ∀ n, su_ (fun k => if k = c then 1 else 0) s lo n = if lo ≤ c ∧ c < n then bt_ s c else 0
  | 0 => by simp [su_]
  | n + 1 => by
      unfold su_; rw [su_1 s lo c n]
      by_cases z : n = c
      · subst z
        simp [Nat.lt_irrefl]
      · have e : (c < n + 1) = (c < n) := by apply propext; omega
        simp [z, e]
theorem su_e {g h : Nat → Int} {s lo : Nat} (e : ∀ k, lo ≤ k → g k = h k) : ∀ n, su_ g s lo n = su_ h s lo n
  | 0 => rfl
  | n + 1 => by
      unfold su_; rw [su_e e n]
      split
      · rw [e n (by assumption)]
      · rfl
theorem ed_low {s t lo : Nat} (e : ∀ k, bt_ t k = if k = lo then 0 else bt_ s k) (h1 : bt_ s lo = 1) (h0 : ∀ j, j < lo → bt_ s j = 0) (hl : lo < 12) : ∀ l : List (Nat × Nat), (∀ p ∈ l, p.1 ≠ p.2 ∧ p.1 < 12 ∧ p.2 < 12) → ed_ s l = ed_ t l + su_ (fun k => cb_ lo k l) s (lo + 1) 12
  | [], _ => by show (0 : Int) = 0 + su_ (fun _ => 0) s (lo + 1) 12; rw [su_0]; rfl
  | p :: l, h => by
      have i := ed_low e h1 h0 hl l (fun q hq => h q (List.mem_cons_of_mem _ hq))
      have hp := h p List.mem_cons_self
      show bt_ s p.1 * bt_ s p.2 + ed_ s l = bt_ t p.1 * bt_ t p.2 + ed_ t l + su_ (fun k => (if (p.1 = lo ∧ p.2 = k) ∨ (p.1 = k ∧ p.2 = lo) then 1 else 0) + cb_ lo k l) s (lo + 1) 12
      rw [su_a, i, e p.1, e p.2]
      by_cases x : p.1 = lo
      · have y : ¬ p.2 = lo := fun z => hp.1 (x.trans z.symm)
        have q : su_ (fun k => if (p.1 = lo ∧ p.2 = k) ∨ (p.1 = k ∧ p.2 = lo) then (1 : Int) else 0) s (lo + 1) 12 = bt_ s p.2 := by
          rw [su_e (h := fun k => if k = p.2 then 1 else 0) (fun k _ => by simp [x, y, eq_comm]), su_1]
          by_cases z : lo + 1 ≤ p.2
          · rw [if_pos ⟨z, hp.2.2⟩]
          · rw [if_neg (fun w => z w.1), h0 p.2 (by omega)]
        rw [q, x, h1]; simp; omega
      · by_cases y : p.2 = lo
        · have q : su_ (fun k => if (p.1 = lo ∧ p.2 = k) ∨ (p.1 = k ∧ p.2 = lo) then (1 : Int) else 0) s (lo + 1) 12 = bt_ s p.1 := by
            rw [su_e (h := fun k => if k = p.1 then 1 else 0) (fun k _ => by simp [x, y, eq_comm]), su_1]
            by_cases z : lo + 1 ≤ p.1
            · rw [if_pos ⟨z, hp.2.1⟩]
            · rw [if_neg (fun w => z w.1), h0 p.1 (by omega)]
          rw [q, y, h1]; simp [x]; omega
        · have q : su_ (fun k => if (p.1 = lo ∧ p.2 = k) ∨ (p.1 = k ∧ p.2 = lo) then (1 : Int) else 0) s (lo + 1) 12 = 0 := by
            rw [su_e (h := fun _ => 0) (fun k _ => by simp [x, y]), su_0]
          rw [q]; simp [x, y]; omega
