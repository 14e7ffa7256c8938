-- the match of the reference: its cells in the order of the play's cells
def dm_ (k : Nat) (j : Int) : Bool := (Nat.beq k 466 && (decide (0 ≤ j) && decide (j ≤ 1))) || (Nat.beq k 467 && (decide (0 ≤ j) && decide (j ≤ 1))) || (Nat.beq k 469 && (decide (0 ≤ j) && decide (j ≤ 1))) || (Nat.beq k 470 && (decide (0 ≤ j) && decide (j ≤ 1))) || (Nat.beq k 449 && (decide (0 ≤ j) && decide (j ≤ 1))) || (Nat.beq k 471 && (decide (0 ≤ j) && decide (j ≤ 11))) || (Nat.beq k 448 && (decide (0 ≤ j) && decide (j ≤ 19))) || (Nat.beq k 472 && (decide (0 ≤ j) && decide (j ≤ 19))) || (Nat.beq k 473 && (decide (0 ≤ j) && decide (j ≤ 19))) || (Nat.beq k 474 && (decide (0 ≤ j) && decide (j ≤ 19))) || (Nat.beq k 103 && decide (j = 3)) || (Nat.beq k 103 && decide (j = 4)) || (Nat.beq k 103 && decide (j = 5)) || (Nat.beq k 468 && decide (j = 0)) || (Nat.beq k 468 && decide (j = 1))
def ka_ (k : Nat) (j : Int) : Nat := cond (Nat.beq k 466) 246 (cond (Nat.beq k 467) 246 (cond (Nat.beq k 469) 246 (cond (Nat.beq k 470) 244 (cond (Nat.beq k 449) 239 (cond (Nat.beq k 471) 245 (cond (Nat.beq k 448) 240 (cond (Nat.beq k 472) 241 (cond (Nat.beq k 473) 242 (cond (Nat.beq k 474) 243 (cond (Nat.beq k 103 && decide (j = 3)) 235 (cond (Nat.beq k 103 && decide (j = 4)) 246 (cond (Nat.beq k 103 && decide (j = 5)) 246 (cond (Nat.beq k 468 && decide (j = 0)) 236 (cond (Nat.beq k 468 && decide (j = 1)) 237 (0)))))))))))))))
def ix_ (m : Int) (k : Nat) (j : Int) : Int := cond (Nat.beq k 466) (8 * m + 1 + j) (cond (Nat.beq k 467) (8 * m + 3 + j) (cond (Nat.beq k 469) (8 * m + 6 + j) (cond (Nat.beq k 470) (2 * m + j) (cond (Nat.beq k 449) (2 * m + j) (cond (Nat.beq k 471) (12 * m + j) (cond (Nat.beq k 448) (20 * m + j) (cond (Nat.beq k 472) (20 * m + j) (cond (Nat.beq k 473) (20 * m + j) (cond (Nat.beq k 474) (20 * m + j) (cond (Nat.beq k 103 && decide (j = 3)) (m) (cond (Nat.beq k 103 && decide (j = 4)) (8 * m) (cond (Nat.beq k 103 && decide (j = 5)) (8 * m + 5) (cond (Nat.beq k 468 && decide (j = 0)) (m) (cond (Nat.beq k 468 && decide (j = 1)) (m) (0)))))))))))))))
/-- the cells, one by one -/
theorem dm_c {k : Nat} {j : Int} (h : dm_ k j = true) : (k = 466 ∧ 0 ≤ j ∧ j ≤ 1 ∧ ka_ k j = 246 ∧ ∀ m, ix_ m k j = 8 * m + 1 + j) ∨ (k = 467 ∧ 0 ≤ j ∧ j ≤ 1 ∧ ka_ k j = 246 ∧ ∀ m, ix_ m k j = 8 * m + 3 + j) ∨ (k = 469 ∧ 0 ≤ j ∧ j ≤ 1 ∧ ka_ k j = 246 ∧ ∀ m, ix_ m k j = 8 * m + 6 + j) ∨ (k = 470 ∧ 0 ≤ j ∧ j ≤ 1 ∧ ka_ k j = 244 ∧ ∀ m, ix_ m k j = 2 * m + j) ∨ (k = 449 ∧ 0 ≤ j ∧ j ≤ 1 ∧ ka_ k j = 239 ∧ ∀ m, ix_ m k j = 2 * m + j) ∨ (k = 471 ∧ 0 ≤ j ∧ j ≤ 11 ∧ ka_ k j = 245 ∧ ∀ m, ix_ m k j = 12 * m + j) ∨ (k = 448 ∧ 0 ≤ j ∧ j ≤ 19 ∧ ka_ k j = 240 ∧ ∀ m, ix_ m k j = 20 * m + j) ∨ (k = 472 ∧ 0 ≤ j ∧ j ≤ 19 ∧ ka_ k j = 241 ∧ ∀ m, ix_ m k j = 20 * m + j) ∨ (k = 473 ∧ 0 ≤ j ∧ j ≤ 19 ∧ ka_ k j = 242 ∧ ∀ m, ix_ m k j = 20 * m + j) ∨ (k = 474 ∧ 0 ≤ j ∧ j ≤ 19 ∧ ka_ k j = 243 ∧ ∀ m, ix_ m k j = 20 * m + j) ∨ (k = 103 ∧ j = 3 ∧ ka_ k j = 235 ∧ ∀ m, ix_ m k j = m) ∨ (k = 103 ∧ j = 4 ∧ ka_ k j = 246 ∧ ∀ m, ix_ m k j = 8 * m) ∨ (k = 103 ∧ j = 5 ∧ ka_ k j = 246 ∧ ∀ m, ix_ m k j = 8 * m + 5) ∨ (k = 468 ∧ j = 0 ∧ ka_ k j = 236 ∧ ∀ m, ix_ m k j = m) ∨ (k = 468 ∧ j = 1 ∧ ka_ k j = 237 ∧ ∀ m, ix_ m k j = m) := by
  unfold dm_ at h
  simp only [Bool.or_eq_true, Bool.and_eq_true, decide_eq_true_eq, Nat.beq_eq] at h
  rcases h with (((((((((((((⟨rfl, h1⟩ | ⟨rfl, h1⟩) | ⟨rfl, h1⟩) | ⟨rfl, h1⟩) | ⟨rfl, h1⟩) | ⟨rfl, h1⟩) | ⟨rfl, h1⟩) | ⟨rfl, h1⟩) | ⟨rfl, h1⟩) | ⟨rfl, h1⟩) | ⟨rfl, h1⟩) | ⟨rfl, h1⟩) | ⟨rfl, h1⟩) | ⟨rfl, h1⟩) | ⟨rfl, h1⟩
  · exact Or.inl ⟨rfl, h1.1, h1.2, rfl, fun _ => rfl⟩
  · exact Or.inr (Or.inl ⟨rfl, h1.1, h1.2, rfl, fun _ => rfl⟩)
  · exact Or.inr (Or.inr (Or.inl ⟨rfl, h1.1, h1.2, rfl, fun _ => rfl⟩))
  · exact Or.inr (Or.inr (Or.inr (Or.inl ⟨rfl, h1.1, h1.2, rfl, fun _ => rfl⟩)))
  · exact Or.inr (Or.inr (Or.inr (Or.inr (Or.inl ⟨rfl, h1.1, h1.2, rfl, fun _ => rfl⟩))))
  · exact Or.inr (Or.inr (Or.inr (Or.inr (Or.inr (Or.inl ⟨rfl, h1.1, h1.2, rfl, fun _ => rfl⟩)))))
  · exact Or.inr (Or.inr (Or.inr (Or.inr (Or.inr (Or.inr (Or.inl ⟨rfl, h1.1, h1.2, rfl, fun _ => rfl⟩))))))
  · exact Or.inr (Or.inr (Or.inr (Or.inr (Or.inr (Or.inr (Or.inr (Or.inl ⟨rfl, h1.1, h1.2, rfl, fun _ => rfl⟩)))))))
  · exact Or.inr (Or.inr (Or.inr (Or.inr (Or.inr (Or.inr (Or.inr (Or.inr (Or.inl ⟨rfl, h1.1, h1.2, rfl, fun _ => rfl⟩))))))))
  · exact Or.inr (Or.inr (Or.inr (Or.inr (Or.inr (Or.inr (Or.inr (Or.inr (Or.inr (Or.inl ⟨rfl, h1.1, h1.2, rfl, fun _ => rfl⟩)))))))))
  · exact Or.inr (Or.inr (Or.inr (Or.inr (Or.inr (Or.inr (Or.inr (Or.inr (Or.inr (Or.inr (Or.inl ⟨rfl, h1, by subst h1; rfl, fun _ => by subst h1; rfl⟩))))))))))
  · exact Or.inr (Or.inr (Or.inr (Or.inr (Or.inr (Or.inr (Or.inr (Or.inr (Or.inr (Or.inr (Or.inr (Or.inl ⟨rfl, h1, by subst h1; rfl, fun _ => by subst h1; rfl⟩)))))))))))
  · exact Or.inr (Or.inr (Or.inr (Or.inr (Or.inr (Or.inr (Or.inr (Or.inr (Or.inr (Or.inr (Or.inr (Or.inr (Or.inl ⟨rfl, h1, by subst h1; rfl, fun _ => by subst h1; rfl⟩))))))))))))
  · exact Or.inr (Or.inr (Or.inr (Or.inr (Or.inr (Or.inr (Or.inr (Or.inr (Or.inr (Or.inr (Or.inr (Or.inr (Or.inr (Or.inl ⟨rfl, h1, by subst h1; rfl, fun _ => by subst h1; rfl⟩)))))))))))))
  · exact Or.inr (Or.inr (Or.inr (Or.inr (Or.inr (Or.inr (Or.inr (Or.inr (Or.inr (Or.inr (Or.inr (Or.inr (Or.inr (Or.inr (⟨rfl, h1, by subst h1; rfl, fun _ => by subst h1; rfl⟩))))))))))))))
theorem dm_i {k k' : Nat} {j j' m m' : Int} (h : dm_ k j = true) (h' : dm_ k' j' = true) (e : ka_ k j = ka_ k' j') (x : ix_ m k j = ix_ m' k' j') : m = m' ∧ k = k' ∧ j = j' := by
  have c := dm_c h
  have c' := dm_c h'
  rcases c with ⟨a1, a2, a3, a4, a5⟩ | ⟨a1, a2, a3, a4, a5⟩ | ⟨a1, a2, a3, a4, a5⟩ | ⟨a1, a2, a3, a4, a5⟩ | ⟨a1, a2, a3, a4, a5⟩ | ⟨a1, a2, a3, a4, a5⟩ | ⟨a1, a2, a3, a4, a5⟩ | ⟨a1, a2, a3, a4, a5⟩ | ⟨a1, a2, a3, a4, a5⟩ | ⟨a1, a2, a3, a4, a5⟩ | ⟨a1, a2, a4, a5⟩ | ⟨a1, a2, a4, a5⟩ | ⟨a1, a2, a4, a5⟩ | ⟨a1, a2, a4, a5⟩ | ⟨a1, a2, a4, a5⟩ <;> rcases c' with ⟨b1, b2, b3, b4, b5⟩ | ⟨b1, b2, b3, b4, b5⟩ | ⟨b1, b2, b3, b4, b5⟩ | ⟨b1, b2, b3, b4, b5⟩ | ⟨b1, b2, b3, b4, b5⟩ | ⟨b1, b2, b3, b4, b5⟩ | ⟨b1, b2, b3, b4, b5⟩ | ⟨b1, b2, b3, b4, b5⟩ | ⟨b1, b2, b3, b4, b5⟩ | ⟨b1, b2, b3, b4, b5⟩ | ⟨b1, b2, b4, b5⟩ | ⟨b1, b2, b4, b5⟩ | ⟨b1, b2, b4, b5⟩ | ⟨b1, b2, b4, b5⟩ | ⟨b1, b2, b4, b5⟩ <;> (rw [a4, b4] at e; first | exact absurd e (by decide) | (rw [a5, b5] at x; omega))
/-- what the reference holds of match m -/
def rp9_ (T : Zt) (m : Int) : Sg_ := fun k j => cond (dm_ k j) (T (ka_ k j) 0 (ix_ m k j)) 0
theorem rp_d {T : Zt} {m j : Int} {k : Nat} (h : dm_ k j = true) : rp9_ T m k j = T (ka_ k j) 0 (ix_ m k j) := by
  unfold rp9_
  rw [h]
  rfl
theorem rp_z {T : Zt} {m j : Int} {k : Nat} (h : ¬ dm_ k j = true) : rp9_ T m k j = 0 := by
  rw [Bool.not_eq_true] at h
  unfold rp9_
  rw [h]
  rfl
theorem rp_v {T : Zt} {m j x : Int} {k K : Nat} (h : dm_ k j = true) (e : ka_ k j = K) (g : ix_ m k j = x) : rp9_ T m k j = T K 0 x := by
  rw [rp_d h, e, g]
/-- a cell is put -/
theorem rp_u {T T1 : Zt} {m j x v : Int} {k K : Nat} (h : T1 = up_ T K 0 x v) (d : dm_ k j = true) (e : ka_ k j = K) (g : ix_ m k j = x) : rp9_ T1 m = u2_ (rp9_ T m) k j v := by
  subst e
  subst g
  funext k' j'
  by_cases z : k' = k ∧ j' = j
  · rw [z.1, z.2, u2_s, rp_d d]; exact up_f h
  · rw [u2_n z]
    by_cases y : dm_ k' j' = true
    · rw [rp_d y, rp_d y]
      refine up_g h (fun q => z ?_)
      have w := dm_i y d q.1 q.2.2
      exact w.2
    · rw [rp_z y, rp_z y]
theorem rp_o {T T1 : Zt} {m m' j x v : Int} {k K : Nat} (h : T1 = up_ T K 0 x v) (d : dm_ k j = true) (e : ka_ k j = K) (g : ix_ m k j = x) (n : m' ≠ m) : rp9_ T1 m' = rp9_ T m' := by
  subst e
  subst g
  funext k' j'
  by_cases y : dm_ k' j' = true
  · rw [rp_d y, rp_d y]
    refine up_g h (fun q => n ?_)
    exact (dm_i y d q.1 q.2.2).1
  · rw [rp_z y, rp_z y]
/-- what is no cell of a match -/
theorem rp_x {T T1 : Zt} {m : Int} (h : ∀ K j, K = 246 ∨ K = 244 ∨ K = 239 ∨ K = 245 ∨ K = 240 ∨ K = 241 ∨ K = 242 ∨ K = 243 ∨ K = 235 ∨ K = 236 ∨ K = 237 → T1 K 0 j = T K 0 j) : rp9_ T1 m = rp9_ T m := by
  funext k j
  by_cases y : dm_ k j = true
  · rw [rp_d y, rp_d y]
    refine h _ _ ?_
    rcases dm_c y with ⟨_, _, _, a4, _⟩ | ⟨_, _, _, a4, _⟩ | ⟨_, _, _, a4, _⟩ | ⟨_, _, _, a4, _⟩ | ⟨_, _, _, a4, _⟩ | ⟨_, _, _, a4, _⟩ | ⟨_, _, _, a4, _⟩ | ⟨_, _, _, a4, _⟩ | ⟨_, _, _, a4, _⟩ | ⟨_, _, _, a4, _⟩ | ⟨_, _, a4, _⟩ | ⟨_, _, a4, _⟩ | ⟨_, _, a4, _⟩ | ⟨_, _, a4, _⟩ | ⟨_, _, a4, _⟩ <;> (rw [a4]; decide)
  · rw [rp_z y, rp_z y]
/-- others' matches stay -/
def ro9_ (T T1 : Zt) (m : Int) : Prop := ∀ m', m' ≠ m → rp9_ T1 m' = rp9_ T m'
theorem ro_r {T : Zt} {m : Int} : ro9_ T T m := fun _ _ => rfl
theorem ro_t {T T1 T2 : Zt} {m : Int} (h : ro9_ T T1 m) (g : ro9_ T1 T2 m) : ro9_ T T2 m := fun m' n => (g m' n).trans (h m' n)
theorem ro_u {T T1 T2 : Zt} {m j x v : Int} {k K : Nat} (h : ro9_ T T1 m) (u : T2 = up_ T1 K 0 x v) (d : dm_ k j = true) (e : ka_ k j = K) (g : ix_ m k j = x) : ro9_ T T2 m := fun m' n => (rp_o u d e g n).trans (h m' n)
/-- the rules of a match -/
def RLR_ (T : Zt) (m : Int) (r : Int → Int) : Prop := ∀ w, 0 ≤ w → w < 16 → T 205 0 (23 * T 230 0 m + w) = r w
theorem rlr_f {ws : List (Nat × List Int)} {T T' : Zt} {m : Int} {r : Int → Int} (h : RLR_ T m r) (f : fr_ ws T T') (w : ∀ j, fw_ ws 205 j = false) (w2 : ∀ j, fw_ ws 230 j = false) : RLR_ T' m r := fun x a b => by
  rw [f 230 0 m (w2 m), f 205 0 _ (w _)]
  exact h x a b
/-- the place of a person on a sheet (the last), or -1 -/
def sln_ (a : Sg_) (s q : Int) : Nat → Int
  | 0 => -1
  | n + 1 => if a 448 (10 * s + (n : Int)) = q then 10 * s + (n : Int) else sln_ a s q n
def slR_ (a : Sg_) (s q : Int) : Int := sln_ a s q (a 449 s).toNat
theorem sln_t {a : Sg_} {s q : Int} {n : Nat} (h : a 448 (10 * s + (n : Int)) = q) : sln_ a s q (n + 1) = 10 * s + (n : Int) := if_pos h
theorem sln_f {a : Sg_} {s q : Int} {n : Nat} (h : a 448 (10 * s + (n : Int)) ≠ q) : sln_ a s q (n + 1) = sln_ a s q n := if_neg h
theorem sln_b {a : Sg_} {s q : Int} : ∀ (n : Nat), sln_ a s q n = -1 ∨ (10 * s ≤ sln_ a s q n ∧ sln_ a s q n < 10 * s + (n : Int) ∧ a 448 (sln_ a s q n) = q)
  | 0 => Or.inl rfl
  | n + 1 => by
    by_cases z : a 448 (10 * s + (n : Int)) = q
    · rw [sln_t z]; exact Or.inr ⟨by omega, by omega, z⟩
    · rw [sln_f z]
      rcases sln_b (a := a) (s := s) (q := q) n with y | y
      · exact Or.inl y
      · exact Or.inr ⟨y.1, by omega, y.2.2⟩
theorem slR_b {a : Sg_} {s q : Int} : slR_ a s q = -1 ∨ 10 * s ≤ slR_ a s q := (sln_b (a := a) (s := s) (q := q) (a 449 s).toNat).imp id (fun z => z.1)
/-- the place among all sheets -/
def ab9_ (m x : Int) : Int := if x = -1 then -1 else 20 * m + x
theorem ab_1 {m x : Int} (h : x = -1) : ab9_ m x = -1 := if_pos h
theorem ab_2 {m x : Int} (h : x ≠ -1) : ab9_ m x = 20 * m + x := if_neg h
/-- those that aren't x close up -/
def cpR_ (a : Sg_) (s x : Int) : Nat → Sg_ × Int
  | 0 => (a, 0)
  | n + 1 => if (cpR_ a s x n).1 471 (6 * s + (n : Int)) = x then cpR_ a s x n else (u2_ (cpR_ a s x n).1 471 (6 * s + (cpR_ a s x n).2) ((cpR_ a s x n).1 471 (6 * s + (n : Int))), (cpR_ a s x n).2 + 1)
theorem cpR_t {a : Sg_} {s x : Int} {n : Nat} (h : (cpR_ a s x n).1 471 (6 * s + (n : Int)) = x) : cpR_ a s x (n + 1) = cpR_ a s x n := if_pos h
theorem cpR_f {a : Sg_} {s x : Int} {n : Nat} (h : (cpR_ a s x n).1 471 (6 * s + (n : Int)) ≠ x) : cpR_ a s x (n + 1) = (u2_ (cpR_ a s x n).1 471 (6 * s + (cpR_ a s x n).2) ((cpR_ a s x n).1 471 (6 * s + (n : Int))), (cpR_ a s x n).2 + 1) := if_neg h
/-- y comes for x -/
noncomputable def mpR_ (a : Sg_) (s x y : Int) : Nat → Sg_
  | 0 => a
  | n + 1 => u2_ (mpR_ a s x y n) 471 (6 * s + (n : Int)) (cz_ (mpR_ a s x y n 471 (6 * s + (n : Int)) = x) y (mpR_ a s x y n 471 (6 * s + (n : Int))))
/-- all go one place to the front -/
def shR_ (a : Sg_) (s : Int) : Nat → Sg_
  | 0 => a
  | n + 1 => u2_ (shR_ a s n) 471 (6 * s + (n : Int)) (shR_ a s n 471 (6 * s + (n : Int) + 1))
def rtR_ (a : Sg_) (s : Int) : Sg_ := u2_ (shR_ a s (a 470 s - 1).toNat) 471 (6 * s + a 470 s - 1) (a 471 (6 * s))
theorem ab_c {m x y : Int} (e : y = ab9_ m x) : (x = -1 ∧ y = -1) ∨ (x ≠ -1 ∧ y = 20 * m + x) := by
  by_cases z : x = -1
  · exact Or.inl ⟨z, by rw [e, ab_1 z]⟩
  · exact Or.inr ⟨z, by rw [e, ab_2 z]⟩
theorem dm_466 {j : Int} (h : 0 ≤ j ∧ j ≤ 1) : dm_ 466 j = true := by simp [dm_, h.1, h.2]
theorem dm_467 {j : Int} (h : 0 ≤ j ∧ j ≤ 1) : dm_ 467 j = true := by simp [dm_, h.1, h.2]
theorem dm_469 {j : Int} (h : 0 ≤ j ∧ j ≤ 1) : dm_ 469 j = true := by simp [dm_, h.1, h.2]
theorem dm_470 {j : Int} (h : 0 ≤ j ∧ j ≤ 1) : dm_ 470 j = true := by simp [dm_, h.1, h.2]
theorem dm_449 {j : Int} (h : 0 ≤ j ∧ j ≤ 1) : dm_ 449 j = true := by simp [dm_, h.1, h.2]
theorem dm_471 {j : Int} (h : 0 ≤ j ∧ j ≤ 11) : dm_ 471 j = true := by simp [dm_, h.1, h.2]
theorem dm_448 {j : Int} (h : 0 ≤ j ∧ j ≤ 19) : dm_ 448 j = true := by simp [dm_, h.1, h.2]
theorem dm_472 {j : Int} (h : 0 ≤ j ∧ j ≤ 19) : dm_ 472 j = true := by simp [dm_, h.1, h.2]
theorem dm_473 {j : Int} (h : 0 ≤ j ∧ j ≤ 19) : dm_ 473 j = true := by simp [dm_, h.1, h.2]
theorem dm_474 {j : Int} (h : 0 ≤ j ∧ j ≤ 19) : dm_ 474 j = true := by simp [dm_, h.1, h.2]
theorem up_x {T T1 : Zt} {k : Nat} {i j j' v : Int} (h : T1 = up_ T k i j v) (e : j' = j) : T1 k i j' = v := by
  rw [e]
  exact up_f h
/-- who comes home, who stays on a base -/
def hbR_ (o v : Int) : Nat → Int × Int
  | 0 => (0, 0)
  | n + 1 => if (n : Int) = 0 ∨ an_ (sr_ o ((n : Int) - 1)) 1 = 1 then (if 3 < wr_ ((n : Int) + v) then ((hbR_ o v n).1, (hbR_ o v n).2 + 1) else (or_ (hbR_ o v n).1 (sl_ 1 (wr_ (wr_ ((n : Int) + v) - 1))), (hbR_ o v n).2)) else hbR_ o v n
theorem hbR_s {o v : Int} {n : Nat} : hbR_ o v (n + 1) = (if (n : Int) = 0 ∨ an_ (sr_ o ((n : Int) - 1)) 1 = 1 then (if 3 < wr_ ((n : Int) + v) then ((hbR_ o v n).1, (hbR_ o v n).2 + 1) else (or_ (hbR_ o v n).1 (sl_ 1 (wr_ (wr_ ((n : Int) + v) - 1))), (hbR_ o v n).2)) else hbR_ o v n) := rfl
theorem ro_l {T T1 T2 : Zt} {m x v : Int} (h : ro9_ T T1 m) (u : T2 = up_ T1 246 0 x v) (hx : 8 * m ≤ x ∧ x < 8 * m + 8) : ro9_ T T2 m := fun m' n => by
  refine Eq.trans ?_ (h m' n)
  funext k j
  by_cases y : dm_ k j = true
  · rw [rp_d y, rp_d y]
    refine up_g u (fun q => n ?_)
    have q1 := q.1
    have q2 := q.2.2
    rcases dm_c y with ⟨a1, a2, a3, a4, a5⟩ | ⟨a1, a2, a3, a4, a5⟩ | ⟨a1, a2, a3, a4, a5⟩ | ⟨a1, a2, a3, a4, a5⟩ | ⟨a1, a2, a3, a4, a5⟩ | ⟨a1, a2, a3, a4, a5⟩ | ⟨a1, a2, a3, a4, a5⟩ | ⟨a1, a2, a3, a4, a5⟩ | ⟨a1, a2, a3, a4, a5⟩ | ⟨a1, a2, a3, a4, a5⟩ | ⟨a1, a2, a4, a5⟩ | ⟨a1, a2, a4, a5⟩ | ⟨a1, a2, a4, a5⟩ | ⟨a1, a2, a4, a5⟩ | ⟨a1, a2, a4, a5⟩ <;> (rw [a4] at q1; first | exact absurd q1 (by decide) | (rw [a5] at q2; omega))
  · rw [rp_z y, rp_z y]
noncomputable def adR_ (a : Sg_) (s v : Int) : Sg_ := (cz_ (s = 0) (u2_ (u2_ a 468 0 (wr_ (a 468 0 + v))) 468 1 (wr_ (a 468 1 + 0))) (cz_ (s = 1) (u2_ (u2_ a 468 0 (wr_ (a 468 0 + 0))) 468 1 (wr_ (a 468 1 + v))) (u2_ (u2_ a 468 0 (wr_ (a 468 0 + 0))) 468 1 (wr_ (a 468 1 + 0)))))
theorem adR__1 {a : Sg_} {s v : Int} (h0 : s = 0) : adR_ a s v = u2_ (u2_ a 468 0 (wr_ (a 468 0 + v))) 468 1 (wr_ (a 468 1 + 0)) := by
  unfold adR_
  rw [cz_t h0]
theorem adR__2 {a : Sg_} {s v : Int} (h0 : ¬ (s = 0)) (h1 : s = 1) : adR_ a s v = u2_ (u2_ a 468 0 (wr_ (a 468 0 + 0))) 468 1 (wr_ (a 468 1 + v)) := by
  unfold adR_
  rw [cz_f h0, cz_t h1]
theorem adR__3 {a : Sg_} {s v : Int} (h0 : ¬ (s = 0)) (h1 : ¬ (s = 1)) : adR_ a s v = u2_ (u2_ a 468 0 (wr_ (a 468 0 + 0))) 468 1 (wr_ (a 468 1 + 0)) := by
  unfold adR_
  rw [cz_f h0, cz_f h1]
noncomputable def soR_ (r : Int → Int) (a : Sg_) (m s x : Int) : Sg_ := (cz_ (2 * (cpR_ (u2_ (u2_ a 474 (x - 20 * m) 1) 472 (x - 20 * m) 2) s x (a 470 s).toNat).2 < r 9) (cz_ (s = 0) (u2_ (u2_ (u2_ (u2_ (cpR_ (u2_ (u2_ a 474 (x - 20 * m) 1) 472 (x - 20 * m) 2) s x (a 470 s).toNat).1 470 s (cpR_ (u2_ (u2_ a 474 (x - 20 * m) 1) 472 (x - 20 * m) 2) s x (a 470 s).toNat).2) 103 3 2) 468 0 0) 468 1 (r 12)) (u2_ (u2_ (u2_ (u2_ (cpR_ (u2_ (u2_ a 474 (x - 20 * m) 1) 472 (x - 20 * m) 2) s x (a 470 s).toNat).1 470 s (cpR_ (u2_ (u2_ a 474 (x - 20 * m) 1) 472 (x - 20 * m) 2) s x (a 470 s).toNat).2) 103 3 2) 468 0 (r 12)) 468 1 0)) (u2_ (cpR_ (u2_ (u2_ a 474 (x - 20 * m) 1) 472 (x - 20 * m) 2) s x (a 470 s).toNat).1 470 s (cpR_ (u2_ (u2_ a 474 (x - 20 * m) 1) 472 (x - 20 * m) 2) s x (a 470 s).toNat).2))
theorem soR__1 {r : Int → Int} {a : Sg_} {m s x : Int} (h0 : 2 * (cpR_ (u2_ (u2_ a 474 (x - 20 * m) 1) 472 (x - 20 * m) 2) s x (a 470 s).toNat).2 < r 9) (h1 : s = 0) : soR_ r a m s x = u2_ (u2_ (u2_ (u2_ (cpR_ (u2_ (u2_ a 474 (x - 20 * m) 1) 472 (x - 20 * m) 2) s x (a 470 s).toNat).1 470 s (cpR_ (u2_ (u2_ a 474 (x - 20 * m) 1) 472 (x - 20 * m) 2) s x (a 470 s).toNat).2) 103 3 2) 468 0 0) 468 1 (r 12) := by
  unfold soR_
  rw [cz_t h0, cz_t h1]
theorem soR__2 {r : Int → Int} {a : Sg_} {m s x : Int} (h0 : 2 * (cpR_ (u2_ (u2_ a 474 (x - 20 * m) 1) 472 (x - 20 * m) 2) s x (a 470 s).toNat).2 < r 9) (h1 : ¬ (s = 0)) : soR_ r a m s x = u2_ (u2_ (u2_ (u2_ (cpR_ (u2_ (u2_ a 474 (x - 20 * m) 1) 472 (x - 20 * m) 2) s x (a 470 s).toNat).1 470 s (cpR_ (u2_ (u2_ a 474 (x - 20 * m) 1) 472 (x - 20 * m) 2) s x (a 470 s).toNat).2) 103 3 2) 468 0 (r 12)) 468 1 0 := by
  unfold soR_
  rw [cz_t h0, cz_f h1]
theorem soR__3 {r : Int → Int} {a : Sg_} {m s x : Int} (h0 : ¬ (2 * (cpR_ (u2_ (u2_ a 474 (x - 20 * m) 1) 472 (x - 20 * m) 2) s x (a 470 s).toNat).2 < r 9)) : soR_ r a m s x = u2_ (cpR_ (u2_ (u2_ a 474 (x - 20 * m) 1) 472 (x - 20 * m) 2) s x (a 470 s).toNat).1 470 s (cpR_ (u2_ (u2_ a 474 (x - 20 * m) 1) 472 (x - 20 * m) 2) s x (a 470 s).toNat).2 := by
  unfold soR_
  rw [cz_f h0]
noncomputable def suR_ (a : Sg_) (m s q o : Int) : Sg_ := (u2_ (u2_ (u2_ (mpR_ a s (ab9_ m (slR_ a s q)) (ab9_ m (slR_ a s o)) (a 470 s).toNat) 472 (ab9_ m (slR_ a s q) - 20 * m) 2) 472 (ab9_ m (slR_ a s o) - 20 * m) 1) 469 s (wr_ (a 469 s + 1)))
theorem suR__1 {a : Sg_} {m s q o : Int} : suR_ a m s q o = u2_ (u2_ (u2_ (mpR_ a s (ab9_ m (slR_ a s q)) (ab9_ m (slR_ a s o)) (a 470 s).toNat) 472 (ab9_ m (slR_ a s q) - 20 * m) 2) 472 (ab9_ m (slR_ a s o) - 20 * m) 1) 469 s (wr_ (a 469 s + 1)) := by
  unfold suR_
  rfl
noncomputable def pfR_ (r : Int → Int) (a : Sg_) (m k s q o : Int) : Sg_ := (cz_ (k = 0) (cz_ (wr_ (a 103 4 + 1) = 3) (u2_ (u2_ a 103 4 (wr_ (a 103 4 + 1))) 103 3 2) (u2_ (u2_ a 103 4 (wr_ (a 103 4 + 1))) 103 3 1)) (cz_ (k = 1) (adR_ a s 1) (cz_ (k = 2) (adR_ a (1 - s) 1) (cz_ (k = 3) (cz_ (wr_ (a 473 (ab9_ m (slR_ a s q) - 20 * m) + 1) = 2) (soR_ r (u2_ a 473 (ab9_ m (slR_ a s q) - 20 * m) (wr_ (a 473 (ab9_ m (slR_ a s q) - 20 * m) + 1))) m s (ab9_ m (slR_ a s q))) (u2_ a 473 (ab9_ m (slR_ a s q) - 20 * m) (wr_ (a 473 (ab9_ m (slR_ a s q) - 20 * m) + 1)))) (cz_ (k = 4) (soR_ r a m s (ab9_ m (slR_ a s q))) (suR_ a m s q o))))))
theorem pfR__1 {r : Int → Int} {a : Sg_} {m k s q o : Int} (h0 : k = 0) (h1 : wr_ (a 103 4 + 1) = 3) : pfR_ r a m k s q o = u2_ (u2_ a 103 4 (wr_ (a 103 4 + 1))) 103 3 2 := by
  unfold pfR_
  rw [cz_t h0, cz_t h1]
theorem pfR__2 {r : Int → Int} {a : Sg_} {m k s q o : Int} (h0 : k = 0) (h1 : ¬ (wr_ (a 103 4 + 1) = 3)) : pfR_ r a m k s q o = u2_ (u2_ a 103 4 (wr_ (a 103 4 + 1))) 103 3 1 := by
  unfold pfR_
  rw [cz_t h0, cz_f h1]
theorem pfR__3 {r : Int → Int} {a : Sg_} {m k s q o : Int} (h0 : ¬ (k = 0)) (h1 : k = 1) : pfR_ r a m k s q o = adR_ a s 1 := by
  unfold pfR_
  rw [cz_f h0, cz_t h1]
theorem pfR__4 {r : Int → Int} {a : Sg_} {m k s q o : Int} (h0 : ¬ (k = 0)) (h1 : ¬ (k = 1)) (h2 : k = 2) : pfR_ r a m k s q o = adR_ a (1 - s) 1 := by
  unfold pfR_
  rw [cz_f h0, cz_f h1, cz_t h2]
theorem pfR__5 {r : Int → Int} {a : Sg_} {m k s q o : Int} (h0 : ¬ (k = 0)) (h1 : ¬ (k = 1)) (h2 : ¬ (k = 2)) (h3 : k = 3) (h4 : wr_ (a 473 (ab9_ m (slR_ a s q) - 20 * m) + 1) = 2) : pfR_ r a m k s q o = soR_ r (u2_ a 473 (ab9_ m (slR_ a s q) - 20 * m) (wr_ (a 473 (ab9_ m (slR_ a s q) - 20 * m) + 1))) m s (ab9_ m (slR_ a s q)) := by
  unfold pfR_
  rw [cz_f h0, cz_f h1, cz_f h2, cz_t h3, cz_t h4]
theorem pfR__6 {r : Int → Int} {a : Sg_} {m k s q o : Int} (h0 : ¬ (k = 0)) (h1 : ¬ (k = 1)) (h2 : ¬ (k = 2)) (h3 : k = 3) (h4 : ¬ (wr_ (a 473 (ab9_ m (slR_ a s q) - 20 * m) + 1) = 2)) : pfR_ r a m k s q o = u2_ a 473 (ab9_ m (slR_ a s q) - 20 * m) (wr_ (a 473 (ab9_ m (slR_ a s q) - 20 * m) + 1)) := by
  unfold pfR_
  rw [cz_f h0, cz_f h1, cz_f h2, cz_t h3, cz_f h4]
theorem pfR__7 {r : Int → Int} {a : Sg_} {m k s q o : Int} (h0 : ¬ (k = 0)) (h1 : ¬ (k = 1)) (h2 : ¬ (k = 2)) (h3 : ¬ (k = 3)) (h4 : k = 4) : pfR_ r a m k s q o = soR_ r a m s (ab9_ m (slR_ a s q)) := by
  unfold pfR_
  rw [cz_f h0, cz_f h1, cz_f h2, cz_f h3, cz_t h4]
theorem pfR__8 {r : Int → Int} {a : Sg_} {m k s q o : Int} (h0 : ¬ (k = 0)) (h1 : ¬ (k = 1)) (h2 : ¬ (k = 2)) (h3 : ¬ (k = 3)) (h4 : ¬ (k = 4)) : pfR_ r a m k s q o = suR_ a m s q o := by
  unfold pfR_
  rw [cz_f h0, cz_f h1, cz_f h2, cz_f h3, cz_f h4]
noncomputable def pvR_ (r : Int → Int) (a : Sg_) (m k s q o : Int) : Sg_ := (cz_ (k = 5) (suR_ a m s q o) (cz_ (a 103 5 = s) (cz_ (a 103 4 = 4) (cz_ ((3 * r 11 + 4) / 5 ≤ wr_ (a 466 s + 1) ∧ wr_ (a 466 (1 - s) + 2) ≤ wr_ (a 466 s + 1)) (cz_ ((s = 0 ∧ wr_ (a 468 0 + 1) = 3) ∨ (s = 1 ∧ wr_ (a 468 1 + 1) = 3)) (u2_ (adR_ (u2_ (u2_ (u2_ (u2_ (a) 103 5 s) 466 s (wr_ (a 466 s + 1))) 466 0 0) 466 1 0) s 1) 103 3 2) (u2_ (u2_ (adR_ (u2_ (u2_ (u2_ (u2_ (a) 103 5 s) 466 s (wr_ (a 466 s + 1))) 466 0 0) 466 1 0) s 1) 103 4 (wr_ (a 103 4 + 1))) 103 5 (dr_ (wr_ (a 103 4 + 1)) 2))) (u2_ (u2_ (a) 103 5 s) 466 s (wr_ (a 466 s + 1)))) (cz_ (r 11 ≤ wr_ (a 466 s + 1) ∧ wr_ (a 466 (1 - s) + 2) ≤ wr_ (a 466 s + 1)) (cz_ ((s = 0 ∧ wr_ (a 468 0 + 1) = 3) ∨ (s = 1 ∧ wr_ (a 468 1 + 1) = 3)) (u2_ (adR_ (u2_ (u2_ (u2_ (u2_ (a) 103 5 s) 466 s (wr_ (a 466 s + 1))) 466 0 0) 466 1 0) s 1) 103 3 2) (u2_ (u2_ (adR_ (u2_ (u2_ (u2_ (u2_ (a) 103 5 s) 466 s (wr_ (a 466 s + 1))) 466 0 0) 466 1 0) s 1) 103 4 (wr_ (a 103 4 + 1))) 103 5 (dr_ (wr_ (a 103 4 + 1)) 2))) (u2_ (u2_ (a) 103 5 s) 466 s (wr_ (a 466 s + 1))))) (cz_ (a 103 4 = 4) (cz_ ((3 * r 11 + 4) / 5 ≤ wr_ (a 466 s + 1) ∧ wr_ (a 466 (1 - s) + 2) ≤ wr_ (a 466 s + 1)) (cz_ ((s = 0 ∧ wr_ (a 468 0 + 1) = 3) ∨ (s = 1 ∧ wr_ (a 468 1 + 1) = 3)) (u2_ (adR_ (u2_ (u2_ (u2_ (u2_ (rtR_ a s) 103 5 s) 466 s (wr_ (a 466 s + 1))) 466 0 0) 466 1 0) s 1) 103 3 2) (u2_ (u2_ (adR_ (u2_ (u2_ (u2_ (u2_ (rtR_ a s) 103 5 s) 466 s (wr_ (a 466 s + 1))) 466 0 0) 466 1 0) s 1) 103 4 (wr_ (a 103 4 + 1))) 103 5 (dr_ (wr_ (a 103 4 + 1)) 2))) (u2_ (u2_ (rtR_ a s) 103 5 s) 466 s (wr_ (a 466 s + 1)))) (cz_ (r 11 ≤ wr_ (a 466 s + 1) ∧ wr_ (a 466 (1 - s) + 2) ≤ wr_ (a 466 s + 1)) (cz_ ((s = 0 ∧ wr_ (a 468 0 + 1) = 3) ∨ (s = 1 ∧ wr_ (a 468 1 + 1) = 3)) (u2_ (adR_ (u2_ (u2_ (u2_ (u2_ (rtR_ a s) 103 5 s) 466 s (wr_ (a 466 s + 1))) 466 0 0) 466 1 0) s 1) 103 3 2) (u2_ (u2_ (adR_ (u2_ (u2_ (u2_ (u2_ (rtR_ a s) 103 5 s) 466 s (wr_ (a 466 s + 1))) 466 0 0) 466 1 0) s 1) 103 4 (wr_ (a 103 4 + 1))) 103 5 (dr_ (wr_ (a 103 4 + 1)) 2))) (u2_ (u2_ (rtR_ a s) 103 5 s) 466 s (wr_ (a 466 s + 1)))))))
theorem pvR__1 {r : Int → Int} {a : Sg_} {m k s q o : Int} (h0 : k = 5) : pvR_ r a m k s q o = suR_ a m s q o := by
  unfold pvR_
  rw [cz_t h0]
theorem pvR__2 {r : Int → Int} {a : Sg_} {m k s q o : Int} (h0 : ¬ (k = 5)) (h1 : a 103 5 = s) (h2 : a 103 4 = 4) (h3 : (3 * r 11 + 4) / 5 ≤ wr_ (a 466 s + 1) ∧ wr_ (a 466 (1 - s) + 2) ≤ wr_ (a 466 s + 1)) (h4 : (s = 0 ∧ wr_ (a 468 0 + 1) = 3) ∨ (s = 1 ∧ wr_ (a 468 1 + 1) = 3)) : pvR_ r a m k s q o = u2_ (adR_ (u2_ (u2_ (u2_ (u2_ (a) 103 5 s) 466 s (wr_ (a 466 s + 1))) 466 0 0) 466 1 0) s 1) 103 3 2 := by
  unfold pvR_
  rw [cz_f h0, cz_t h1, cz_t h2, cz_t h3, cz_t h4]
theorem pvR__3 {r : Int → Int} {a : Sg_} {m k s q o : Int} (h0 : ¬ (k = 5)) (h1 : a 103 5 = s) (h2 : a 103 4 = 4) (h3 : (3 * r 11 + 4) / 5 ≤ wr_ (a 466 s + 1) ∧ wr_ (a 466 (1 - s) + 2) ≤ wr_ (a 466 s + 1)) (h4 : ¬ ((s = 0 ∧ wr_ (a 468 0 + 1) = 3) ∨ (s = 1 ∧ wr_ (a 468 1 + 1) = 3))) : pvR_ r a m k s q o = u2_ (u2_ (adR_ (u2_ (u2_ (u2_ (u2_ (a) 103 5 s) 466 s (wr_ (a 466 s + 1))) 466 0 0) 466 1 0) s 1) 103 4 (wr_ (a 103 4 + 1))) 103 5 (dr_ (wr_ (a 103 4 + 1)) 2) := by
  unfold pvR_
  rw [cz_f h0, cz_t h1, cz_t h2, cz_t h3, cz_f h4]
theorem pvR__4 {r : Int → Int} {a : Sg_} {m k s q o : Int} (h0 : ¬ (k = 5)) (h1 : a 103 5 = s) (h2 : a 103 4 = 4) (h3 : ¬ ((3 * r 11 + 4) / 5 ≤ wr_ (a 466 s + 1) ∧ wr_ (a 466 (1 - s) + 2) ≤ wr_ (a 466 s + 1))) : pvR_ r a m k s q o = u2_ (u2_ (a) 103 5 s) 466 s (wr_ (a 466 s + 1)) := by
  unfold pvR_
  rw [cz_f h0, cz_t h1, cz_t h2, cz_f h3]
theorem pvR__5 {r : Int → Int} {a : Sg_} {m k s q o : Int} (h0 : ¬ (k = 5)) (h1 : a 103 5 = s) (h2 : ¬ (a 103 4 = 4)) (h3 : r 11 ≤ wr_ (a 466 s + 1) ∧ wr_ (a 466 (1 - s) + 2) ≤ wr_ (a 466 s + 1)) (h4 : (s = 0 ∧ wr_ (a 468 0 + 1) = 3) ∨ (s = 1 ∧ wr_ (a 468 1 + 1) = 3)) : pvR_ r a m k s q o = u2_ (adR_ (u2_ (u2_ (u2_ (u2_ (a) 103 5 s) 466 s (wr_ (a 466 s + 1))) 466 0 0) 466 1 0) s 1) 103 3 2 := by
  unfold pvR_
  rw [cz_f h0, cz_t h1, cz_f h2, cz_t h3, cz_t h4]
theorem pvR__6 {r : Int → Int} {a : Sg_} {m k s q o : Int} (h0 : ¬ (k = 5)) (h1 : a 103 5 = s) (h2 : ¬ (a 103 4 = 4)) (h3 : r 11 ≤ wr_ (a 466 s + 1) ∧ wr_ (a 466 (1 - s) + 2) ≤ wr_ (a 466 s + 1)) (h4 : ¬ ((s = 0 ∧ wr_ (a 468 0 + 1) = 3) ∨ (s = 1 ∧ wr_ (a 468 1 + 1) = 3))) : pvR_ r a m k s q o = u2_ (u2_ (adR_ (u2_ (u2_ (u2_ (u2_ (a) 103 5 s) 466 s (wr_ (a 466 s + 1))) 466 0 0) 466 1 0) s 1) 103 4 (wr_ (a 103 4 + 1))) 103 5 (dr_ (wr_ (a 103 4 + 1)) 2) := by
  unfold pvR_
  rw [cz_f h0, cz_t h1, cz_f h2, cz_t h3, cz_f h4]
theorem pvR__7 {r : Int → Int} {a : Sg_} {m k s q o : Int} (h0 : ¬ (k = 5)) (h1 : a 103 5 = s) (h2 : ¬ (a 103 4 = 4)) (h3 : ¬ (r 11 ≤ wr_ (a 466 s + 1) ∧ wr_ (a 466 (1 - s) + 2) ≤ wr_ (a 466 s + 1))) : pvR_ r a m k s q o = u2_ (u2_ (a) 103 5 s) 466 s (wr_ (a 466 s + 1)) := by
  unfold pvR_
  rw [cz_f h0, cz_t h1, cz_f h2, cz_f h3]
theorem pvR__8 {r : Int → Int} {a : Sg_} {m k s q o : Int} (h0 : ¬ (k = 5)) (h1 : ¬ (a 103 5 = s)) (h2 : a 103 4 = 4) (h3 : (3 * r 11 + 4) / 5 ≤ wr_ (a 466 s + 1) ∧ wr_ (a 466 (1 - s) + 2) ≤ wr_ (a 466 s + 1)) (h4 : (s = 0 ∧ wr_ (a 468 0 + 1) = 3) ∨ (s = 1 ∧ wr_ (a 468 1 + 1) = 3)) : pvR_ r a m k s q o = u2_ (adR_ (u2_ (u2_ (u2_ (u2_ (rtR_ a s) 103 5 s) 466 s (wr_ (a 466 s + 1))) 466 0 0) 466 1 0) s 1) 103 3 2 := by
  unfold pvR_
  rw [cz_f h0, cz_f h1, cz_t h2, cz_t h3, cz_t h4]
theorem pvR__9 {r : Int → Int} {a : Sg_} {m k s q o : Int} (h0 : ¬ (k = 5)) (h1 : ¬ (a 103 5 = s)) (h2 : a 103 4 = 4) (h3 : (3 * r 11 + 4) / 5 ≤ wr_ (a 466 s + 1) ∧ wr_ (a 466 (1 - s) + 2) ≤ wr_ (a 466 s + 1)) (h4 : ¬ ((s = 0 ∧ wr_ (a 468 0 + 1) = 3) ∨ (s = 1 ∧ wr_ (a 468 1 + 1) = 3))) : pvR_ r a m k s q o = u2_ (u2_ (adR_ (u2_ (u2_ (u2_ (u2_ (rtR_ a s) 103 5 s) 466 s (wr_ (a 466 s + 1))) 466 0 0) 466 1 0) s 1) 103 4 (wr_ (a 103 4 + 1))) 103 5 (dr_ (wr_ (a 103 4 + 1)) 2) := by
  unfold pvR_
  rw [cz_f h0, cz_f h1, cz_t h2, cz_t h3, cz_f h4]
theorem pvR__10 {r : Int → Int} {a : Sg_} {m k s q o : Int} (h0 : ¬ (k = 5)) (h1 : ¬ (a 103 5 = s)) (h2 : a 103 4 = 4) (h3 : ¬ ((3 * r 11 + 4) / 5 ≤ wr_ (a 466 s + 1) ∧ wr_ (a 466 (1 - s) + 2) ≤ wr_ (a 466 s + 1))) : pvR_ r a m k s q o = u2_ (u2_ (rtR_ a s) 103 5 s) 466 s (wr_ (a 466 s + 1)) := by
  unfold pvR_
  rw [cz_f h0, cz_f h1, cz_t h2, cz_f h3]
theorem pvR__11 {r : Int → Int} {a : Sg_} {m k s q o : Int} (h0 : ¬ (k = 5)) (h1 : ¬ (a 103 5 = s)) (h2 : ¬ (a 103 4 = 4)) (h3 : r 11 ≤ wr_ (a 466 s + 1) ∧ wr_ (a 466 (1 - s) + 2) ≤ wr_ (a 466 s + 1)) (h4 : (s = 0 ∧ wr_ (a 468 0 + 1) = 3) ∨ (s = 1 ∧ wr_ (a 468 1 + 1) = 3)) : pvR_ r a m k s q o = u2_ (adR_ (u2_ (u2_ (u2_ (u2_ (rtR_ a s) 103 5 s) 466 s (wr_ (a 466 s + 1))) 466 0 0) 466 1 0) s 1) 103 3 2 := by
  unfold pvR_
  rw [cz_f h0, cz_f h1, cz_f h2, cz_t h3, cz_t h4]
theorem pvR__12 {r : Int → Int} {a : Sg_} {m k s q o : Int} (h0 : ¬ (k = 5)) (h1 : ¬ (a 103 5 = s)) (h2 : ¬ (a 103 4 = 4)) (h3 : r 11 ≤ wr_ (a 466 s + 1) ∧ wr_ (a 466 (1 - s) + 2) ≤ wr_ (a 466 s + 1)) (h4 : ¬ ((s = 0 ∧ wr_ (a 468 0 + 1) = 3) ∨ (s = 1 ∧ wr_ (a 468 1 + 1) = 3))) : pvR_ r a m k s q o = u2_ (u2_ (adR_ (u2_ (u2_ (u2_ (u2_ (rtR_ a s) 103 5 s) 466 s (wr_ (a 466 s + 1))) 466 0 0) 466 1 0) s 1) 103 4 (wr_ (a 103 4 + 1))) 103 5 (dr_ (wr_ (a 103 4 + 1)) 2) := by
  unfold pvR_
  rw [cz_f h0, cz_f h1, cz_f h2, cz_t h3, cz_f h4]
theorem pvR__13 {r : Int → Int} {a : Sg_} {m k s q o : Int} (h0 : ¬ (k = 5)) (h1 : ¬ (a 103 5 = s)) (h2 : ¬ (a 103 4 = 4)) (h3 : ¬ (r 11 ≤ wr_ (a 466 s + 1) ∧ wr_ (a 466 (1 - s) + 2) ≤ wr_ (a 466 s + 1))) : pvR_ r a m k s q o = u2_ (u2_ (rtR_ a s) 103 5 s) 466 s (wr_ (a 466 s + 1)) := by
  unfold pvR_
  rw [cz_f h0, cz_f h1, cz_f h2, cz_f h3]
noncomputable def ptR_ (r : Int → Int) (a : Sg_) (k s : Int) : Sg_ := (cz_ (k = 6) (cz_ (s = 1) (u2_ (u2_ (u2_ a 103 3 2) 468 0 2) 468 1 (a 468 1)) (u2_ (u2_ (u2_ a 103 3 2) 468 0 (a 468 0)) 468 1 2)) (cz_ (a 467 0 = r 11 ∧ a 467 1 = r 11) (cz_ (7 ≤ wr_ (a 466 s + 1) ∧ wr_ (a 466 (1 - s) + 2) ≤ wr_ (a 466 s + 1)) (cz_ ((r 11 ≤ wr_ (a 467 s + 1) ∧ wr_ (a 467 (1 - s) + 2) ≤ wr_ (a 467 s + 1)) ∨ wr_ (a 467 s + 1) = wr_ (r 11 + 1)) (cz_ ((s = 0 ∧ wr_ (a 468 0 + 1) = 2) ∨ (s = 1 ∧ wr_ (a 468 1 + 1) = 2)) (u2_ (adR_ (u2_ (u2_ (u2_ (u2_ (u2_ (u2_ a 466 s (wr_ (a 466 s + 1))) 466 0 0) 466 1 0) 467 s (wr_ (a 467 s + 1))) 467 0 0) 467 1 0) s 1) 103 3 2) (u2_ (u2_ (adR_ (u2_ (u2_ (u2_ (u2_ (u2_ (u2_ a 466 s (wr_ (a 466 s + 1))) 466 0 0) 466 1 0) 467 s (wr_ (a 467 s + 1))) 467 0 0) 467 1 0) s 1) 103 4 (wr_ (a 103 4 + 1))) 103 5 (wr_ (1 - a 103 5)))) (u2_ (u2_ (u2_ (u2_ (u2_ a 466 s (wr_ (a 466 s + 1))) 466 0 0) 466 1 0) 467 s (wr_ (a 467 s + 1))) 103 5 (wr_ (1 - a 103 5)))) (u2_ a 466 s (wr_ (a 466 s + 1)))) (cz_ (4 ≤ wr_ (a 466 s + 1) ∧ wr_ (a 466 (1 - s) + 2) ≤ wr_ (a 466 s + 1)) (cz_ ((r 11 ≤ wr_ (a 467 s + 1) ∧ wr_ (a 467 (1 - s) + 2) ≤ wr_ (a 467 s + 1)) ∨ wr_ (a 467 s + 1) = wr_ (r 11 + 1)) (cz_ ((s = 0 ∧ wr_ (a 468 0 + 1) = 2) ∨ (s = 1 ∧ wr_ (a 468 1 + 1) = 2)) (u2_ (adR_ (u2_ (u2_ (u2_ (u2_ (u2_ (u2_ a 466 s (wr_ (a 466 s + 1))) 466 0 0) 466 1 0) 467 s (wr_ (a 467 s + 1))) 467 0 0) 467 1 0) s 1) 103 3 2) (u2_ (u2_ (adR_ (u2_ (u2_ (u2_ (u2_ (u2_ (u2_ a 466 s (wr_ (a 466 s + 1))) 466 0 0) 466 1 0) 467 s (wr_ (a 467 s + 1))) 467 0 0) 467 1 0) s 1) 103 4 (wr_ (a 103 4 + 1))) 103 5 (wr_ (1 - a 103 5)))) (u2_ (u2_ (u2_ (u2_ (u2_ a 466 s (wr_ (a 466 s + 1))) 466 0 0) 466 1 0) 467 s (wr_ (a 467 s + 1))) 103 5 (wr_ (1 - a 103 5)))) (u2_ a 466 s (wr_ (a 466 s + 1))))))
theorem ptR__1 {r : Int → Int} {a : Sg_} {k s : Int} (h0 : k = 6) (h1 : s = 1) : ptR_ r a k s = u2_ (u2_ (u2_ a 103 3 2) 468 0 2) 468 1 (a 468 1) := by
  unfold ptR_
  rw [cz_t h0, cz_t h1]
theorem ptR__2 {r : Int → Int} {a : Sg_} {k s : Int} (h0 : k = 6) (h1 : ¬ (s = 1)) : ptR_ r a k s = u2_ (u2_ (u2_ a 103 3 2) 468 0 (a 468 0)) 468 1 2 := by
  unfold ptR_
  rw [cz_t h0, cz_f h1]
theorem ptR__3 {r : Int → Int} {a : Sg_} {k s : Int} (h0 : ¬ (k = 6)) (h1 : a 467 0 = r 11 ∧ a 467 1 = r 11) (h2 : 7 ≤ wr_ (a 466 s + 1) ∧ wr_ (a 466 (1 - s) + 2) ≤ wr_ (a 466 s + 1)) (h3 : (r 11 ≤ wr_ (a 467 s + 1) ∧ wr_ (a 467 (1 - s) + 2) ≤ wr_ (a 467 s + 1)) ∨ wr_ (a 467 s + 1) = wr_ (r 11 + 1)) (h4 : (s = 0 ∧ wr_ (a 468 0 + 1) = 2) ∨ (s = 1 ∧ wr_ (a 468 1 + 1) = 2)) : ptR_ r a k s = u2_ (adR_ (u2_ (u2_ (u2_ (u2_ (u2_ (u2_ a 466 s (wr_ (a 466 s + 1))) 466 0 0) 466 1 0) 467 s (wr_ (a 467 s + 1))) 467 0 0) 467 1 0) s 1) 103 3 2 := by
  unfold ptR_
  rw [cz_f h0, cz_t h1, cz_t h2, cz_t h3, cz_t h4]
theorem ptR__4 {r : Int → Int} {a : Sg_} {k s : Int} (h0 : ¬ (k = 6)) (h1 : a 467 0 = r 11 ∧ a 467 1 = r 11) (h2 : 7 ≤ wr_ (a 466 s + 1) ∧ wr_ (a 466 (1 - s) + 2) ≤ wr_ (a 466 s + 1)) (h3 : (r 11 ≤ wr_ (a 467 s + 1) ∧ wr_ (a 467 (1 - s) + 2) ≤ wr_ (a 467 s + 1)) ∨ wr_ (a 467 s + 1) = wr_ (r 11 + 1)) (h4 : ¬ ((s = 0 ∧ wr_ (a 468 0 + 1) = 2) ∨ (s = 1 ∧ wr_ (a 468 1 + 1) = 2))) : ptR_ r a k s = u2_ (u2_ (adR_ (u2_ (u2_ (u2_ (u2_ (u2_ (u2_ a 466 s (wr_ (a 466 s + 1))) 466 0 0) 466 1 0) 467 s (wr_ (a 467 s + 1))) 467 0 0) 467 1 0) s 1) 103 4 (wr_ (a 103 4 + 1))) 103 5 (wr_ (1 - a 103 5)) := by
  unfold ptR_
  rw [cz_f h0, cz_t h1, cz_t h2, cz_t h3, cz_f h4]
theorem ptR__5 {r : Int → Int} {a : Sg_} {k s : Int} (h0 : ¬ (k = 6)) (h1 : a 467 0 = r 11 ∧ a 467 1 = r 11) (h2 : 7 ≤ wr_ (a 466 s + 1) ∧ wr_ (a 466 (1 - s) + 2) ≤ wr_ (a 466 s + 1)) (h3 : ¬ ((r 11 ≤ wr_ (a 467 s + 1) ∧ wr_ (a 467 (1 - s) + 2) ≤ wr_ (a 467 s + 1)) ∨ wr_ (a 467 s + 1) = wr_ (r 11 + 1))) : ptR_ r a k s = u2_ (u2_ (u2_ (u2_ (u2_ a 466 s (wr_ (a 466 s + 1))) 466 0 0) 466 1 0) 467 s (wr_ (a 467 s + 1))) 103 5 (wr_ (1 - a 103 5)) := by
  unfold ptR_
  rw [cz_f h0, cz_t h1, cz_t h2, cz_f h3]
theorem ptR__6 {r : Int → Int} {a : Sg_} {k s : Int} (h0 : ¬ (k = 6)) (h1 : a 467 0 = r 11 ∧ a 467 1 = r 11) (h2 : ¬ (7 ≤ wr_ (a 466 s + 1) ∧ wr_ (a 466 (1 - s) + 2) ≤ wr_ (a 466 s + 1))) : ptR_ r a k s = u2_ a 466 s (wr_ (a 466 s + 1)) := by
  unfold ptR_
  rw [cz_f h0, cz_t h1, cz_f h2]
theorem ptR__7 {r : Int → Int} {a : Sg_} {k s : Int} (h0 : ¬ (k = 6)) (h1 : ¬ (a 467 0 = r 11 ∧ a 467 1 = r 11)) (h2 : 4 ≤ wr_ (a 466 s + 1) ∧ wr_ (a 466 (1 - s) + 2) ≤ wr_ (a 466 s + 1)) (h3 : (r 11 ≤ wr_ (a 467 s + 1) ∧ wr_ (a 467 (1 - s) + 2) ≤ wr_ (a 467 s + 1)) ∨ wr_ (a 467 s + 1) = wr_ (r 11 + 1)) (h4 : (s = 0 ∧ wr_ (a 468 0 + 1) = 2) ∨ (s = 1 ∧ wr_ (a 468 1 + 1) = 2)) : ptR_ r a k s = u2_ (adR_ (u2_ (u2_ (u2_ (u2_ (u2_ (u2_ a 466 s (wr_ (a 466 s + 1))) 466 0 0) 466 1 0) 467 s (wr_ (a 467 s + 1))) 467 0 0) 467 1 0) s 1) 103 3 2 := by
  unfold ptR_
  rw [cz_f h0, cz_f h1, cz_t h2, cz_t h3, cz_t h4]
theorem ptR__8 {r : Int → Int} {a : Sg_} {k s : Int} (h0 : ¬ (k = 6)) (h1 : ¬ (a 467 0 = r 11 ∧ a 467 1 = r 11)) (h2 : 4 ≤ wr_ (a 466 s + 1) ∧ wr_ (a 466 (1 - s) + 2) ≤ wr_ (a 466 s + 1)) (h3 : (r 11 ≤ wr_ (a 467 s + 1) ∧ wr_ (a 467 (1 - s) + 2) ≤ wr_ (a 467 s + 1)) ∨ wr_ (a 467 s + 1) = wr_ (r 11 + 1)) (h4 : ¬ ((s = 0 ∧ wr_ (a 468 0 + 1) = 2) ∨ (s = 1 ∧ wr_ (a 468 1 + 1) = 2))) : ptR_ r a k s = u2_ (u2_ (adR_ (u2_ (u2_ (u2_ (u2_ (u2_ (u2_ a 466 s (wr_ (a 466 s + 1))) 466 0 0) 466 1 0) 467 s (wr_ (a 467 s + 1))) 467 0 0) 467 1 0) s 1) 103 4 (wr_ (a 103 4 + 1))) 103 5 (wr_ (1 - a 103 5)) := by
  unfold ptR_
  rw [cz_f h0, cz_f h1, cz_t h2, cz_t h3, cz_f h4]
theorem ptR__9 {r : Int → Int} {a : Sg_} {k s : Int} (h0 : ¬ (k = 6)) (h1 : ¬ (a 467 0 = r 11 ∧ a 467 1 = r 11)) (h2 : 4 ≤ wr_ (a 466 s + 1) ∧ wr_ (a 466 (1 - s) + 2) ≤ wr_ (a 466 s + 1)) (h3 : ¬ ((r 11 ≤ wr_ (a 467 s + 1) ∧ wr_ (a 467 (1 - s) + 2) ≤ wr_ (a 467 s + 1)) ∨ wr_ (a 467 s + 1) = wr_ (r 11 + 1))) : ptR_ r a k s = u2_ (u2_ (u2_ (u2_ (u2_ a 466 s (wr_ (a 466 s + 1))) 466 0 0) 466 1 0) 467 s (wr_ (a 467 s + 1))) 103 5 (wr_ (1 - a 103 5)) := by
  unfold ptR_
  rw [cz_f h0, cz_f h1, cz_t h2, cz_f h3]
theorem ptR__10 {r : Int → Int} {a : Sg_} {k s : Int} (h0 : ¬ (k = 6)) (h1 : ¬ (a 467 0 = r 11 ∧ a 467 1 = r 11)) (h2 : ¬ (4 ≤ wr_ (a 466 s + 1) ∧ wr_ (a 466 (1 - s) + 2) ≤ wr_ (a 466 s + 1))) : ptR_ r a k s = u2_ a 466 s (wr_ (a 466 s + 1)) := by
  unfold ptR_
  rw [cz_f h0, cz_f h1, cz_f h2]
noncomputable def tsR_ (r : Int → Int) (a : Sg_)  : Sg_ := (cz_ (a 103 5 = 1) (cz_ (wr_ (r 11 - 1) ≤ a 103 4 ∧ a 468 1 < a 468 0) (u2_ (u2_ (u2_ a 467 0 0) 467 1 0) 103 3 2) (u2_ (u2_ (u2_ a 467 0 0) 467 1 0) 103 5 0)) (cz_ ((wr_ (r 11 - 1) ≤ a 103 4 ∧ a 468 0 ≠ a 468 1) ∨ a 103 4 = wr_ (wr_ (r 11 - 1) + 20)) (u2_ (u2_ (u2_ a 467 0 0) 467 1 0) 103 3 2) (u2_ (u2_ (u2_ (u2_ a 467 0 0) 467 1 0) 103 4 (wr_ (a 103 4 + 1))) 103 5 1)))
theorem tsR__1 {r : Int → Int} {a : Sg_}  (h0 : a 103 5 = 1) (h1 : wr_ (r 11 - 1) ≤ a 103 4 ∧ a 468 1 < a 468 0) : tsR_ r a = u2_ (u2_ (u2_ a 467 0 0) 467 1 0) 103 3 2 := by
  unfold tsR_
  rw [cz_t h0, cz_t h1]
theorem tsR__2 {r : Int → Int} {a : Sg_}  (h0 : a 103 5 = 1) (h1 : ¬ (wr_ (r 11 - 1) ≤ a 103 4 ∧ a 468 1 < a 468 0)) : tsR_ r a = u2_ (u2_ (u2_ a 467 0 0) 467 1 0) 103 5 0 := by
  unfold tsR_
  rw [cz_t h0, cz_f h1]
theorem tsR__3 {r : Int → Int} {a : Sg_}  (h0 : ¬ (a 103 5 = 1)) (h1 : (wr_ (r 11 - 1) ≤ a 103 4 ∧ a 468 0 ≠ a 468 1) ∨ a 103 4 = wr_ (wr_ (r 11 - 1) + 20)) : tsR_ r a = u2_ (u2_ (u2_ a 467 0 0) 467 1 0) 103 3 2 := by
  unfold tsR_
  rw [cz_f h0, cz_t h1]
theorem tsR__4 {r : Int → Int} {a : Sg_}  (h0 : ¬ (a 103 5 = 1)) (h1 : ¬ ((wr_ (r 11 - 1) ≤ a 103 4 ∧ a 468 0 ≠ a 468 1) ∨ a 103 4 = wr_ (wr_ (r 11 - 1) + 20))) : tsR_ r a = u2_ (u2_ (u2_ (u2_ a 467 0 0) 467 1 0) 103 4 (wr_ (a 103 4 + 1))) 103 5 1 := by
  unfold tsR_
  rw [cz_f h0, cz_f h1]
noncomputable def otR_ (r : Int → Int) (a : Sg_)  : Sg_ := (cz_ (wr_ (a 467 0 + 1) = 3) (tsR_ r (u2_ (u2_ (u2_ a 466 0 0) 466 1 0) 467 0 (wr_ (a 467 0 + 1)))) (u2_ (u2_ (u2_ a 466 0 0) 466 1 0) 467 0 (wr_ (a 467 0 + 1))))
theorem otR__1 {r : Int → Int} {a : Sg_}  (h0 : wr_ (a 467 0 + 1) = 3) : otR_ r a = tsR_ r (u2_ (u2_ (u2_ a 466 0 0) 466 1 0) 467 0 (wr_ (a 467 0 + 1))) := by
  unfold otR_
  rw [cz_t h0]
theorem otR__2 {r : Int → Int} {a : Sg_}  (h0 : ¬ (wr_ (a 467 0 + 1) = 3)) : otR_ r a = u2_ (u2_ (u2_ a 466 0 0) 466 1 0) 467 0 (wr_ (a 467 0 + 1)) := by
  unfold otR_
  rw [cz_f h0]
noncomputable def avR_ (r : Int → Int) (a : Sg_) (s b v : Int) : Sg_ := (cz_ (s = 0 ∧ wr_ (r 11 - 1) ≤ a 103 4 ∧ wr_ (a 468 1 + 0) < wr_ (a 468 0 + v)) (u2_ (adR_ (u2_ (u2_ (u2_ a 466 0 0) 466 1 0) 467 1 b) s v) 103 3 2) (adR_ (u2_ (u2_ (u2_ a 466 0 0) 466 1 0) 467 1 b) s v))
theorem avR__1 {r : Int → Int} {a : Sg_} {s b v : Int} (h0 : s = 0 ∧ wr_ (r 11 - 1) ≤ a 103 4 ∧ wr_ (a 468 1 + 0) < wr_ (a 468 0 + v)) : avR_ r a s b v = u2_ (adR_ (u2_ (u2_ (u2_ a 466 0 0) 466 1 0) 467 1 b) s v) 103 3 2 := by
  unfold avR_
  rw [cz_t h0]
theorem avR__2 {r : Int → Int} {a : Sg_} {s b v : Int} (h0 : ¬ (s = 0 ∧ wr_ (r 11 - 1) ≤ a 103 4 ∧ wr_ (a 468 1 + 0) < wr_ (a 468 0 + v))) : avR_ r a s b v = adR_ (u2_ (u2_ (u2_ a 466 0 0) 466 1 0) 467 1 b) s v := by
  unfold avR_
  rw [cz_f h0]
noncomputable def wkR_ (r : Int → Int) (a : Sg_) (s : Int) : Sg_ := (cz_ (an_ (a 467 1) 1 = 0) (avR_ r a s (or_ (a 467 1) 1) 0) (cz_ (an_ (a 467 1) 2 = 0) (avR_ r a s (or_ (a 467 1) 2) 0) (cz_ (an_ (a 467 1) 4 = 0) (avR_ r a s (or_ (a 467 1) 4) 0) (avR_ r a s (a 467 1) 1))))
theorem wkR__1 {r : Int → Int} {a : Sg_} {s : Int} (h0 : an_ (a 467 1) 1 = 0) : wkR_ r a s = avR_ r a s (or_ (a 467 1) 1) 0 := by
  unfold wkR_
  rw [cz_t h0]
theorem wkR__2 {r : Int → Int} {a : Sg_} {s : Int} (h0 : ¬ (an_ (a 467 1) 1 = 0)) (h1 : an_ (a 467 1) 2 = 0) : wkR_ r a s = avR_ r a s (or_ (a 467 1) 2) 0 := by
  unfold wkR_
  rw [cz_f h0, cz_t h1]
theorem wkR__3 {r : Int → Int} {a : Sg_} {s : Int} (h0 : ¬ (an_ (a 467 1) 1 = 0)) (h1 : ¬ (an_ (a 467 1) 2 = 0)) (h2 : an_ (a 467 1) 4 = 0) : wkR_ r a s = avR_ r a s (or_ (a 467 1) 4) 0 := by
  unfold wkR_
  rw [cz_f h0, cz_f h1, cz_t h2]
theorem wkR__4 {r : Int → Int} {a : Sg_} {s : Int} (h0 : ¬ (an_ (a 467 1) 1 = 0)) (h1 : ¬ (an_ (a 467 1) 2 = 0)) (h2 : ¬ (an_ (a 467 1) 4 = 0)) : wkR_ r a s = avR_ r a s (a 467 1) 1 := by
  unfold wkR_
  rw [cz_f h0, cz_f h1, cz_f h2]
noncomputable def htR_ (r : Int → Int) (a : Sg_) (s v : Int) : Sg_ := (avR_ r a s (hbR_ (a 467 1) v 4).1 (hbR_ (a 467 1) v 4).2)
theorem htR__1 {r : Int → Int} {a : Sg_} {s v : Int} : htR_ r a s v = avR_ r a s (hbR_ (a 467 1) v 4).1 (hbR_ (a 467 1) v 4).2 := by
  unfold htR_
  rfl
noncomputable def pbR_ (r : Int → Int) (a : Sg_) (k s v : Int) : Sg_ := (cz_ (k = 1) (htR_ r a s v) (cz_ (k = 2) (cz_ (wr_ (a 466 0 + 1) = 4) (wkR_ r (u2_ a 466 0 (wr_ (a 466 0 + 1))) s) (u2_ a 466 0 (wr_ (a 466 0 + 1)))) (cz_ (k = 3) (cz_ (wr_ (a 466 1 + 1) = 3) (otR_ r (u2_ a 466 1 (wr_ (a 466 1 + 1)))) (u2_ a 466 1 (wr_ (a 466 1 + 1)))) (otR_ r a))))
theorem pbR__1 {r : Int → Int} {a : Sg_} {k s v : Int} (h0 : k = 1) : pbR_ r a k s v = htR_ r a s v := by
  unfold pbR_
  rw [cz_t h0]
theorem pbR__2 {r : Int → Int} {a : Sg_} {k s v : Int} (h0 : ¬ (k = 1)) (h1 : k = 2) (h2 : wr_ (a 466 0 + 1) = 4) : pbR_ r a k s v = wkR_ r (u2_ a 466 0 (wr_ (a 466 0 + 1))) s := by
  unfold pbR_
  rw [cz_f h0, cz_t h1, cz_t h2]
theorem pbR__3 {r : Int → Int} {a : Sg_} {k s v : Int} (h0 : ¬ (k = 1)) (h1 : k = 2) (h2 : ¬ (wr_ (a 466 0 + 1) = 4)) : pbR_ r a k s v = u2_ a 466 0 (wr_ (a 466 0 + 1)) := by
  unfold pbR_
  rw [cz_f h0, cz_t h1, cz_f h2]
theorem pbR__4 {r : Int → Int} {a : Sg_} {k s v : Int} (h0 : ¬ (k = 1)) (h1 : ¬ (k = 2)) (h2 : k = 3) (h3 : wr_ (a 466 1 + 1) = 3) : pbR_ r a k s v = otR_ r (u2_ a 466 1 (wr_ (a 466 1 + 1))) := by
  unfold pbR_
  rw [cz_f h0, cz_f h1, cz_t h2, cz_t h3]
theorem pbR__5 {r : Int → Int} {a : Sg_} {k s v : Int} (h0 : ¬ (k = 1)) (h1 : ¬ (k = 2)) (h2 : k = 3) (h3 : ¬ (wr_ (a 466 1 + 1) = 3)) : pbR_ r a k s v = u2_ a 466 1 (wr_ (a 466 1 + 1)) := by
  unfold pbR_
  rw [cz_f h0, cz_f h1, cz_t h2, cz_f h3]
theorem pbR__6 {r : Int → Int} {a : Sg_} {k s v : Int} (h0 : ¬ (k = 1)) (h1 : ¬ (k = 2)) (h2 : ¬ (k = 3)) : pbR_ r a k s v = otR_ r a := by
  unfold pbR_
  rw [cz_f h0, cz_f h1, cz_f h2]
noncomputable def plR_ (r : Int → Int) (a : Sg_) (m k s q o : Int) : Sg_ := (cz_ (r 0 = 0) (pfR_ r a m k s q o) (cz_ (r 0 = 1) (pvR_ r a m k s q o) (cz_ (r 0 = 2) (ptR_ r a k s) (pbR_ r a k s o))))
theorem plR__1 {r : Int → Int} {a : Sg_} {m k s q o : Int} (h0 : r 0 = 0) : plR_ r a m k s q o = pfR_ r a m k s q o := by
  unfold plR_
  rw [cz_t h0]
theorem plR__2 {r : Int → Int} {a : Sg_} {m k s q o : Int} (h0 : ¬ (r 0 = 0)) (h1 : r 0 = 1) : plR_ r a m k s q o = pvR_ r a m k s q o := by
  unfold plR_
  rw [cz_f h0, cz_t h1]
theorem plR__3 {r : Int → Int} {a : Sg_} {m k s q o : Int} (h0 : ¬ (r 0 = 0)) (h1 : ¬ (r 0 = 1)) (h2 : r 0 = 2) : plR_ r a m k s q o = ptR_ r a k s := by
  unfold plR_
  rw [cz_f h0, cz_f h1, cz_t h2]
theorem plR__4 {r : Int → Int} {a : Sg_} {m k s q o : Int} (h0 : ¬ (r 0 = 0)) (h1 : ¬ (r 0 = 1)) (h2 : ¬ (r 0 = 2)) : plR_ r a m k s q o = pbR_ r a k s o := by
  unfold plR_
  rw [cz_f h0, cz_f h1, cz_f h2]
noncomputable def lwR_ (r : Int → Int) (a : Sg_) (k s q o : Int) : Int := (cz_ (a 103 3 ≠ 1) (1) (cz_ (¬ (((r 0 = 0 ∧ 0 ≤ k ∧ k ≤ 5) ∨ (r 0 = 1 ∧ (k = 1 ∨ k = 5)) ∨ (r 0 = 2 ∧ (k = 1 ∨ k = 6)) ∨ (¬ r 0 = 0 ∧ ¬ r 0 = 1 ∧ ¬ r 0 = 2 ∧ 1 ≤ k ∧ k ≤ 4)) ∧ ((r 0 = 0 ∧ k = 0) ∨ (0 ≤ s ∧ s ≤ 1)))) (2) (cz_ ((r 0 = 0 ∧ (k = 1 ∨ k = 2) ∧ a 103 4 = 1) ∨ (r 0 = 3 ∧ a 103 5 ≠ s)) (3) (cz_ ((r 0 = 0 ∧ 0 < k) ∨ (r 0 = 1 ∧ k = 5)) (cz_ (¬ (slR_ a s q ≠ -1 ∧ a 472 (slR_ a s q) = 1)) (4) (cz_ (k = 5) (cz_ (¬ (slR_ a s o ≠ -1 ∧ a 472 (slR_ a s o) = 0)) (5) (cz_ (a 469 s = r 10) (6) (cz_ (r 0 ≠ 3 ∨ k ≠ 1 ∨ (1 ≤ o ∧ o ≤ 4)) (0) (7)))) (cz_ (r 0 ≠ 3 ∨ k ≠ 1 ∨ (1 ≤ o ∧ o ≤ 4)) (0) (7)))) (cz_ (r 0 ≠ 3 ∨ k ≠ 1 ∨ (1 ≤ o ∧ o ≤ 4)) (0) (7))))))
theorem lwR__1 {r : Int → Int} {a : Sg_} {k s q o : Int} (h0 : a 103 3 ≠ 1) : lwR_ r a k s q o = 1 := by
  unfold lwR_
  rw [cz_t h0]
theorem lwR__2 {r : Int → Int} {a : Sg_} {k s q o : Int} (h0 : ¬ (a 103 3 ≠ 1)) (h1 : ¬ (((r 0 = 0 ∧ 0 ≤ k ∧ k ≤ 5) ∨ (r 0 = 1 ∧ (k = 1 ∨ k = 5)) ∨ (r 0 = 2 ∧ (k = 1 ∨ k = 6)) ∨ (¬ r 0 = 0 ∧ ¬ r 0 = 1 ∧ ¬ r 0 = 2 ∧ 1 ≤ k ∧ k ≤ 4)) ∧ ((r 0 = 0 ∧ k = 0) ∨ (0 ≤ s ∧ s ≤ 1)))) : lwR_ r a k s q o = 2 := by
  unfold lwR_
  rw [cz_f h0, cz_t h1]
theorem lwR__3 {r : Int → Int} {a : Sg_} {k s q o : Int} (h0 : ¬ (a 103 3 ≠ 1)) (h1 : ¬ (¬ (((r 0 = 0 ∧ 0 ≤ k ∧ k ≤ 5) ∨ (r 0 = 1 ∧ (k = 1 ∨ k = 5)) ∨ (r 0 = 2 ∧ (k = 1 ∨ k = 6)) ∨ (¬ r 0 = 0 ∧ ¬ r 0 = 1 ∧ ¬ r 0 = 2 ∧ 1 ≤ k ∧ k ≤ 4)) ∧ ((r 0 = 0 ∧ k = 0) ∨ (0 ≤ s ∧ s ≤ 1))))) (h2 : (r 0 = 0 ∧ (k = 1 ∨ k = 2) ∧ a 103 4 = 1) ∨ (r 0 = 3 ∧ a 103 5 ≠ s)) : lwR_ r a k s q o = 3 := by
  unfold lwR_
  rw [cz_f h0, cz_f h1, cz_t h2]
theorem lwR__4 {r : Int → Int} {a : Sg_} {k s q o : Int} (h0 : ¬ (a 103 3 ≠ 1)) (h1 : ¬ (¬ (((r 0 = 0 ∧ 0 ≤ k ∧ k ≤ 5) ∨ (r 0 = 1 ∧ (k = 1 ∨ k = 5)) ∨ (r 0 = 2 ∧ (k = 1 ∨ k = 6)) ∨ (¬ r 0 = 0 ∧ ¬ r 0 = 1 ∧ ¬ r 0 = 2 ∧ 1 ≤ k ∧ k ≤ 4)) ∧ ((r 0 = 0 ∧ k = 0) ∨ (0 ≤ s ∧ s ≤ 1))))) (h2 : ¬ ((r 0 = 0 ∧ (k = 1 ∨ k = 2) ∧ a 103 4 = 1) ∨ (r 0 = 3 ∧ a 103 5 ≠ s))) (h3 : (r 0 = 0 ∧ 0 < k) ∨ (r 0 = 1 ∧ k = 5)) (h4 : ¬ (slR_ a s q ≠ -1 ∧ a 472 (slR_ a s q) = 1)) : lwR_ r a k s q o = 4 := by
  unfold lwR_
  rw [cz_f h0, cz_f h1, cz_f h2, cz_t h3, cz_t h4]
theorem lwR__5 {r : Int → Int} {a : Sg_} {k s q o : Int} (h0 : ¬ (a 103 3 ≠ 1)) (h1 : ¬ (¬ (((r 0 = 0 ∧ 0 ≤ k ∧ k ≤ 5) ∨ (r 0 = 1 ∧ (k = 1 ∨ k = 5)) ∨ (r 0 = 2 ∧ (k = 1 ∨ k = 6)) ∨ (¬ r 0 = 0 ∧ ¬ r 0 = 1 ∧ ¬ r 0 = 2 ∧ 1 ≤ k ∧ k ≤ 4)) ∧ ((r 0 = 0 ∧ k = 0) ∨ (0 ≤ s ∧ s ≤ 1))))) (h2 : ¬ ((r 0 = 0 ∧ (k = 1 ∨ k = 2) ∧ a 103 4 = 1) ∨ (r 0 = 3 ∧ a 103 5 ≠ s))) (h3 : (r 0 = 0 ∧ 0 < k) ∨ (r 0 = 1 ∧ k = 5)) (h4 : ¬ (¬ (slR_ a s q ≠ -1 ∧ a 472 (slR_ a s q) = 1))) (h5 : k = 5) (h6 : ¬ (slR_ a s o ≠ -1 ∧ a 472 (slR_ a s o) = 0)) : lwR_ r a k s q o = 5 := by
  unfold lwR_
  rw [cz_f h0, cz_f h1, cz_f h2, cz_t h3, cz_f h4, cz_t h5, cz_t h6]
theorem lwR__6 {r : Int → Int} {a : Sg_} {k s q o : Int} (h0 : ¬ (a 103 3 ≠ 1)) (h1 : ¬ (¬ (((r 0 = 0 ∧ 0 ≤ k ∧ k ≤ 5) ∨ (r 0 = 1 ∧ (k = 1 ∨ k = 5)) ∨ (r 0 = 2 ∧ (k = 1 ∨ k = 6)) ∨ (¬ r 0 = 0 ∧ ¬ r 0 = 1 ∧ ¬ r 0 = 2 ∧ 1 ≤ k ∧ k ≤ 4)) ∧ ((r 0 = 0 ∧ k = 0) ∨ (0 ≤ s ∧ s ≤ 1))))) (h2 : ¬ ((r 0 = 0 ∧ (k = 1 ∨ k = 2) ∧ a 103 4 = 1) ∨ (r 0 = 3 ∧ a 103 5 ≠ s))) (h3 : (r 0 = 0 ∧ 0 < k) ∨ (r 0 = 1 ∧ k = 5)) (h4 : ¬ (¬ (slR_ a s q ≠ -1 ∧ a 472 (slR_ a s q) = 1))) (h5 : k = 5) (h6 : ¬ (¬ (slR_ a s o ≠ -1 ∧ a 472 (slR_ a s o) = 0))) (h7 : a 469 s = r 10) : lwR_ r a k s q o = 6 := by
  unfold lwR_
  rw [cz_f h0, cz_f h1, cz_f h2, cz_t h3, cz_f h4, cz_t h5, cz_f h6, cz_t h7]
theorem lwR__7 {r : Int → Int} {a : Sg_} {k s q o : Int} (h0 : ¬ (a 103 3 ≠ 1)) (h1 : ¬ (¬ (((r 0 = 0 ∧ 0 ≤ k ∧ k ≤ 5) ∨ (r 0 = 1 ∧ (k = 1 ∨ k = 5)) ∨ (r 0 = 2 ∧ (k = 1 ∨ k = 6)) ∨ (¬ r 0 = 0 ∧ ¬ r 0 = 1 ∧ ¬ r 0 = 2 ∧ 1 ≤ k ∧ k ≤ 4)) ∧ ((r 0 = 0 ∧ k = 0) ∨ (0 ≤ s ∧ s ≤ 1))))) (h2 : ¬ ((r 0 = 0 ∧ (k = 1 ∨ k = 2) ∧ a 103 4 = 1) ∨ (r 0 = 3 ∧ a 103 5 ≠ s))) (h3 : (r 0 = 0 ∧ 0 < k) ∨ (r 0 = 1 ∧ k = 5)) (h4 : ¬ (¬ (slR_ a s q ≠ -1 ∧ a 472 (slR_ a s q) = 1))) (h5 : k = 5) (h6 : ¬ (¬ (slR_ a s o ≠ -1 ∧ a 472 (slR_ a s o) = 0))) (h7 : ¬ (a 469 s = r 10)) (h8 : r 0 ≠ 3 ∨ k ≠ 1 ∨ (1 ≤ o ∧ o ≤ 4)) : lwR_ r a k s q o = 0 := by
  unfold lwR_
  rw [cz_f h0, cz_f h1, cz_f h2, cz_t h3, cz_f h4, cz_t h5, cz_f h6, cz_f h7, cz_t h8]
theorem lwR__8 {r : Int → Int} {a : Sg_} {k s q o : Int} (h0 : ¬ (a 103 3 ≠ 1)) (h1 : ¬ (¬ (((r 0 = 0 ∧ 0 ≤ k ∧ k ≤ 5) ∨ (r 0 = 1 ∧ (k = 1 ∨ k = 5)) ∨ (r 0 = 2 ∧ (k = 1 ∨ k = 6)) ∨ (¬ r 0 = 0 ∧ ¬ r 0 = 1 ∧ ¬ r 0 = 2 ∧ 1 ≤ k ∧ k ≤ 4)) ∧ ((r 0 = 0 ∧ k = 0) ∨ (0 ≤ s ∧ s ≤ 1))))) (h2 : ¬ ((r 0 = 0 ∧ (k = 1 ∨ k = 2) ∧ a 103 4 = 1) ∨ (r 0 = 3 ∧ a 103 5 ≠ s))) (h3 : (r 0 = 0 ∧ 0 < k) ∨ (r 0 = 1 ∧ k = 5)) (h4 : ¬ (¬ (slR_ a s q ≠ -1 ∧ a 472 (slR_ a s q) = 1))) (h5 : k = 5) (h6 : ¬ (¬ (slR_ a s o ≠ -1 ∧ a 472 (slR_ a s o) = 0))) (h7 : ¬ (a 469 s = r 10)) (h8 : ¬ (r 0 ≠ 3 ∨ k ≠ 1 ∨ (1 ≤ o ∧ o ≤ 4))) : lwR_ r a k s q o = 7 := by
  unfold lwR_
  rw [cz_f h0, cz_f h1, cz_f h2, cz_t h3, cz_f h4, cz_t h5, cz_f h6, cz_f h7, cz_f h8]
theorem lwR__9 {r : Int → Int} {a : Sg_} {k s q o : Int} (h0 : ¬ (a 103 3 ≠ 1)) (h1 : ¬ (¬ (((r 0 = 0 ∧ 0 ≤ k ∧ k ≤ 5) ∨ (r 0 = 1 ∧ (k = 1 ∨ k = 5)) ∨ (r 0 = 2 ∧ (k = 1 ∨ k = 6)) ∨ (¬ r 0 = 0 ∧ ¬ r 0 = 1 ∧ ¬ r 0 = 2 ∧ 1 ≤ k ∧ k ≤ 4)) ∧ ((r 0 = 0 ∧ k = 0) ∨ (0 ≤ s ∧ s ≤ 1))))) (h2 : ¬ ((r 0 = 0 ∧ (k = 1 ∨ k = 2) ∧ a 103 4 = 1) ∨ (r 0 = 3 ∧ a 103 5 ≠ s))) (h3 : (r 0 = 0 ∧ 0 < k) ∨ (r 0 = 1 ∧ k = 5)) (h4 : ¬ (¬ (slR_ a s q ≠ -1 ∧ a 472 (slR_ a s q) = 1))) (h5 : ¬ (k = 5)) (h6 : r 0 ≠ 3 ∨ k ≠ 1 ∨ (1 ≤ o ∧ o ≤ 4)) : lwR_ r a k s q o = 0 := by
  unfold lwR_
  rw [cz_f h0, cz_f h1, cz_f h2, cz_t h3, cz_f h4, cz_f h5, cz_t h6]
theorem lwR__10 {r : Int → Int} {a : Sg_} {k s q o : Int} (h0 : ¬ (a 103 3 ≠ 1)) (h1 : ¬ (¬ (((r 0 = 0 ∧ 0 ≤ k ∧ k ≤ 5) ∨ (r 0 = 1 ∧ (k = 1 ∨ k = 5)) ∨ (r 0 = 2 ∧ (k = 1 ∨ k = 6)) ∨ (¬ r 0 = 0 ∧ ¬ r 0 = 1 ∧ ¬ r 0 = 2 ∧ 1 ≤ k ∧ k ≤ 4)) ∧ ((r 0 = 0 ∧ k = 0) ∨ (0 ≤ s ∧ s ≤ 1))))) (h2 : ¬ ((r 0 = 0 ∧ (k = 1 ∨ k = 2) ∧ a 103 4 = 1) ∨ (r 0 = 3 ∧ a 103 5 ≠ s))) (h3 : (r 0 = 0 ∧ 0 < k) ∨ (r 0 = 1 ∧ k = 5)) (h4 : ¬ (¬ (slR_ a s q ≠ -1 ∧ a 472 (slR_ a s q) = 1))) (h5 : ¬ (k = 5)) (h6 : ¬ (r 0 ≠ 3 ∨ k ≠ 1 ∨ (1 ≤ o ∧ o ≤ 4))) : lwR_ r a k s q o = 7 := by
  unfold lwR_
  rw [cz_f h0, cz_f h1, cz_f h2, cz_t h3, cz_f h4, cz_f h5, cz_f h6]
theorem lwR__11 {r : Int → Int} {a : Sg_} {k s q o : Int} (h0 : ¬ (a 103 3 ≠ 1)) (h1 : ¬ (¬ (((r 0 = 0 ∧ 0 ≤ k ∧ k ≤ 5) ∨ (r 0 = 1 ∧ (k = 1 ∨ k = 5)) ∨ (r 0 = 2 ∧ (k = 1 ∨ k = 6)) ∨ (¬ r 0 = 0 ∧ ¬ r 0 = 1 ∧ ¬ r 0 = 2 ∧ 1 ≤ k ∧ k ≤ 4)) ∧ ((r 0 = 0 ∧ k = 0) ∨ (0 ≤ s ∧ s ≤ 1))))) (h2 : ¬ ((r 0 = 0 ∧ (k = 1 ∨ k = 2) ∧ a 103 4 = 1) ∨ (r 0 = 3 ∧ a 103 5 ≠ s))) (h3 : ¬ ((r 0 = 0 ∧ 0 < k) ∨ (r 0 = 1 ∧ k = 5))) (h4 : r 0 ≠ 3 ∨ k ≠ 1 ∨ (1 ≤ o ∧ o ≤ 4)) : lwR_ r a k s q o = 0 := by
  unfold lwR_
  rw [cz_f h0, cz_f h1, cz_f h2, cz_f h3, cz_t h4]
theorem lwR__12 {r : Int → Int} {a : Sg_} {k s q o : Int} (h0 : ¬ (a 103 3 ≠ 1)) (h1 : ¬ (¬ (((r 0 = 0 ∧ 0 ≤ k ∧ k ≤ 5) ∨ (r 0 = 1 ∧ (k = 1 ∨ k = 5)) ∨ (r 0 = 2 ∧ (k = 1 ∨ k = 6)) ∨ (¬ r 0 = 0 ∧ ¬ r 0 = 1 ∧ ¬ r 0 = 2 ∧ 1 ≤ k ∧ k ≤ 4)) ∧ ((r 0 = 0 ∧ k = 0) ∨ (0 ≤ s ∧ s ≤ 1))))) (h2 : ¬ ((r 0 = 0 ∧ (k = 1 ∨ k = 2) ∧ a 103 4 = 1) ∨ (r 0 = 3 ∧ a 103 5 ≠ s))) (h3 : ¬ ((r 0 = 0 ∧ 0 < k) ∨ (r 0 = 1 ∧ k = 5))) (h4 : ¬ (r 0 ≠ 3 ∨ k ≠ 1 ∨ (1 ≤ o ∧ o ≤ 4))) : lwR_ r a k s q o = 7 := by
  unfold lwR_
  rw [cz_f h0, cz_f h1, cz_f h2, cz_f h3, cz_f h4]
theorem bk_X11_setLive_e_0 : ck_ fX11 none cX11_setLive 0 [.aload 0, .tableswitch 0 11 46 #[], .iconst 8, .iload 1, .imul, .iload 2, .iadd, .iload 3, .iastore, .return_] 13 = true := qck_r (nn_ _) (by decide +kernel)
theorem bs_X11_setLive_e_0 {P : Zt → Option Zv → Prop} (K : Int → Zl → List Zv → Zt → Prop) : sx_ K P [.aload 0, .tableswitch 0 11 46 #[], .iconst 8, .iload 1, .imul, .iload 2, .iadd, .iload 3, .iastore, .return_] 13 = x_aload 0 (x_g1 111 246 (x_iconst 8 (x_iload 1 (x_imul (x_iload 2 (x_iadd (x_iload 3 (x_iastore (x_return_ P))))))))) := ((xe_aload 0).trans (congrArg (x_aload 0) ((xe_g1 (kk := 111) rfl tl_11_46).trans (congrArg (x_g1 111 246) ((xe_iconst 8).trans (congrArg (x_iconst 8) ((xe_iload 1).trans (congrArg (x_iload 1) ((xe_imul).trans (congrArg (x_imul) ((xe_iload 2).trans (congrArg (x_iload 2) ((xe_iadd).trans (congrArg (x_iadd) ((xe_iload 3).trans (congrArg (x_iload 3) ((xe_iastore).trans (congrArg (x_iastore) (xe_return_)))))))))))))))))))
abbrev po_X11_setLive_e (T : Zt) (m k v : Int) : Zt → Option Zv → Prop := fun T' r => r = none ∧ T' = up_ T 246 0 (8 * m + k) v
set_option maxHeartbeats 4000000 in
theorem ct_X11_setLive_e {T : Zt} {m k v : Int} (h1 : 0 ≤ m ∧ m < 400) (h2 : 0 ≤ k ∧ k < 8) : Ct_ yX11_setLive zX11_setLive T [vR 111 0, vI m, vI k, vI v] (po_X11_setLive_e T m k v) := by
  refine ct_of pn_11 rfl rfl (Nat.le_of_ble_eq_true rfl) (fun hT hav => ?_)
  have hr_m : -2147483648 ≤ m ∧ m ≤ 2147483647 := hav (vI m) (List.mem_cons_of_mem _ List.mem_cons_self)
  have hr_k : -2147483648 ≤ k ∧ k ≤ 2147483647 := hav (vI k) (List.mem_cons_of_mem _ (List.mem_cons_of_mem _ List.mem_cons_self))
  have hr_v : -2147483648 ≤ v ∧ v ≤ 2147483647 := hav (vI v) (List.mem_cons_of_mem _ (List.mem_cons_of_mem _ (List.mem_cons_of_mem _ List.mem_cons_self)))
  have hz : zX11_setLive.2.2.2.1 = some .boolean → ∀ (T' : Zt) (x : Int), po_X11_setLive_e T m k v T' (some (vI x)) → 0 ≤ x ∧ x ≤ 1 := fun h => by cases h
  show J_ zX11_setLive T (po_X11_setLive_e T m k v) 0 0 0 [some (vR 111 0), some (vI m), some (vI k), some (vI v)] [] T
  refine j_blx (F := fX11) tb_X11 (nn_ _) bk_X11_setLive_e_0 bs_X11_setLive_e_0 hz (fun K hK => ?_)
  refine rg_i (by omega) ?_
  refine rg_i (by omega) ?_
  refine iy_i (by omega) (by omega) ?_
  refine x_nm (fun U1 hU1 => ?_)
  have e2 := up_f hU1
  refine (show po_X11_setLive_e T m k v U1 (none) from ?_)
  exact ⟨rfl, hU1⟩
theorem bk_X11_addScore_e_0 : ck_ fX11 none cX11_addScore 0 [.aload 0, .tableswitch 0 11 36 #[], .iload 1, .dup2, .iaload, .iload 2, .ifCond .ne 15, .iload 3, .goto 16] 15 = true := qck_r (nn_ _) (by decide +kernel)
theorem bs_X11_addScore_e_0 {P : Zt → Option Zv → Prop} (K : Int → Zl → List Zv → Zt → Prop) : sx_ K P [.aload 0, .tableswitch 0 11 36 #[], .iload 1, .dup2, .iaload, .iload 2, .ifCond .ne 15, .iload 3, .goto 16] 15 = x_aload 0 (x_g1 111 236 (x_iload 1 (x_dup2 (x_iaload (x_iload 2 (x_ifCond .ne 15 K (x_iload 3 (x_goto 16 K)))))))) := ((xe_aload 0).trans (congrArg (x_aload 0) ((xe_g1 (kk := 111) rfl tl_11_36).trans (congrArg (x_g1 111 236) ((xe_iload 1).trans (congrArg (x_iload 1) ((xe_dup2).trans (congrArg (x_dup2) ((xe_iaload).trans (congrArg (x_iaload) ((xe_iload 2).trans (congrArg (x_iload 2) ((xe_ifCond .ne 15).trans (congrArg (x_ifCond .ne 15 K) ((xe_iload 3).trans (congrArg (x_iload 3) (xe_goto 16)))))))))))))))))
theorem bk_X11_addScore_e_15 : ck_ fX11 none cX11_addScore 15 [.iconst 0, .fadd, .iastore, .aload 0, .tableswitch 0 11 37 #[], .iload 1, .dup2, .iaload, .iload 2, .iconst 1, .if_icmp .ne 34, .iload 3, .goto 35] 34 = true := qck_r (nn_ _) (by decide +kernel)
theorem bs_X11_addScore_e_15 {P : Zt → Option Zv → Prop} (K : Int → Zl → List Zv → Zt → Prop) : sx_ K P [.iconst 0, .fadd, .iastore, .aload 0, .tableswitch 0 11 37 #[], .iload 1, .dup2, .iaload, .iload 2, .iconst 1, .if_icmp .ne 34, .iload 3, .goto 35] 34 = x_iconst 0 (x_fadd (x_iastore (x_aload 0 (x_g1 111 237 (x_iload 1 (x_dup2 (x_iaload (x_iload 2 (x_iconst 1 (x_if_icmp .ne 34 K (x_iload 3 (x_goto 35 K)))))))))))) := ((xe_iconst 0).trans (congrArg (x_iconst 0) ((xe_fadd).trans (congrArg (x_fadd) ((xe_iastore).trans (congrArg (x_iastore) ((xe_aload 0).trans (congrArg (x_aload 0) ((xe_g1 (kk := 111) rfl tl_11_37).trans (congrArg (x_g1 111 237) ((xe_iload 1).trans (congrArg (x_iload 1) ((xe_dup2).trans (congrArg (x_dup2) ((xe_iaload).trans (congrArg (x_iaload) ((xe_iload 2).trans (congrArg (x_iload 2) ((xe_iconst 1).trans (congrArg (x_iconst 1) ((xe_if_icmp .ne 34).trans (congrArg (x_if_icmp .ne 34 K) ((xe_iload 3).trans (congrArg (x_iload 3) (xe_goto 35)))))))))))))))))))))))))
theorem bk_X11_addScore_e_34 : ck_ fX11 none cX11_addScore 34 [.iconst 0, .fadd, .iastore, .return_] 38 = true := qck_r (nn_ _) (by decide +kernel)
theorem bs_X11_addScore_e_34 {P : Zt → Option Zv → Prop} (K : Int → Zl → List Zv → Zt → Prop) : sx_ K P [.iconst 0, .fadd, .iastore, .return_] 38 = x_iconst 0 (x_fadd (x_iastore (x_return_ P))) := ((xe_iconst 0).trans (congrArg (x_iconst 0) ((xe_fadd).trans (congrArg (x_fadd) ((xe_iastore).trans (congrArg (x_iastore) (xe_return_)))))))
theorem bk_X11_addScore_e_35 : ck_ fX11 none cX11_addScore 35 [.fadd, .iastore, .return_] 38 = true := qck_r (nn_ _) (by decide +kernel)
theorem bs_X11_addScore_e_35 {P : Zt → Option Zv → Prop} (K : Int → Zl → List Zv → Zt → Prop) : sx_ K P [.fadd, .iastore, .return_] 38 = x_fadd (x_iastore (x_return_ P)) := ((xe_fadd).trans (congrArg (x_fadd) ((xe_iastore).trans (congrArg (x_iastore) (xe_return_)))))
theorem bk_X11_addScore_e_16 : ck_ fX11 none cX11_addScore 16 [.fadd, .iastore, .aload 0, .tableswitch 0 11 37 #[], .iload 1, .dup2, .iaload, .iload 2, .iconst 1, .if_icmp .ne 34, .iload 3, .goto 35] 34 = true := qck_r (nn_ _) (by decide +kernel)
theorem bs_X11_addScore_e_16 {P : Zt → Option Zv → Prop} (K : Int → Zl → List Zv → Zt → Prop) : sx_ K P [.fadd, .iastore, .aload 0, .tableswitch 0 11 37 #[], .iload 1, .dup2, .iaload, .iload 2, .iconst 1, .if_icmp .ne 34, .iload 3, .goto 35] 34 = x_fadd (x_iastore (x_aload 0 (x_g1 111 237 (x_iload 1 (x_dup2 (x_iaload (x_iload 2 (x_iconst 1 (x_if_icmp .ne 34 K (x_iload 3 (x_goto 35 K))))))))))) := ((xe_fadd).trans (congrArg (x_fadd) ((xe_iastore).trans (congrArg (x_iastore) ((xe_aload 0).trans (congrArg (x_aload 0) ((xe_g1 (kk := 111) rfl tl_11_37).trans (congrArg (x_g1 111 237) ((xe_iload 1).trans (congrArg (x_iload 1) ((xe_dup2).trans (congrArg (x_dup2) ((xe_iaload).trans (congrArg (x_iaload) ((xe_iload 2).trans (congrArg (x_iload 2) ((xe_iconst 1).trans (congrArg (x_iconst 1) ((xe_if_icmp .ne 34).trans (congrArg (x_if_icmp .ne 34 K) ((xe_iload 3).trans (congrArg (x_iload 3) (xe_goto 35)))))))))))))))))))))))
abbrev po_X11_addScore_e (T : Zt) (bu : Int) (m s v : Int) : Zt → Option Zv → Prop := fun T' r => r = none ∧ fr_ [(236, []), (237, [])] T T' ∧ (SO_ T T' m ∧ SB1_ T' m (bu + 4) ∧ ((s = 0 → T' 236 0 m = wr_ (T 236 0 m + v) ∧ T' 237 0 m = wr_ (T 237 0 m + 0)) ∧ (s = 1 → T' 236 0 m = wr_ (T 236 0 m + 0) ∧ T' 237 0 m = wr_ (T 237 0 m + v))) ∧ ro9_ T T' m ∧ rp9_ T' m = adR_ (rp9_ T m) s v)
set_option maxHeartbeats 4000000 in
theorem ct_X11_addScore_e {T : Zt} {bu : Int} {m s v : Int} (h1 : 0 ≤ m ∧ m < 400) (hv : 0 ≤ v ∧ v ≤ 4) (hbu : 9 ≤ bu ∧ bu ≤ 19000) (hsb : SB1_ T m bu) : Ct_ yX11_addScore zX11_addScore T [vR 111 0, vI m, vI s, vI v] (po_X11_addScore_e T bu m s v) := by
  refine ct_of pn_11 rfl rfl (Nat.le_of_ble_eq_true rfl) (fun hT hav => ?_)
  have hr_m : -2147483648 ≤ m ∧ m ≤ 2147483647 := hav (vI m) (List.mem_cons_of_mem _ List.mem_cons_self)
  have hr_s : -2147483648 ≤ s ∧ s ≤ 2147483647 := hav (vI s) (List.mem_cons_of_mem _ (List.mem_cons_of_mem _ List.mem_cons_self))
  have hr_v : -2147483648 ≤ v ∧ v ≤ 2147483647 := hav (vI v) (List.mem_cons_of_mem _ (List.mem_cons_of_mem _ (List.mem_cons_of_mem _ List.mem_cons_self)))
  have hz : zX11_addScore.2.2.2.1 = some .boolean → ∀ (T' : Zt) (x : Int), po_X11_addScore_e T bu m s v T' (some (vI x)) → 0 ≤ x ∧ x ≤ 1 := fun h => by cases h
  have hs0 := hsb.1
  have hs1 := hsb.2.1
  have z468_0 : rp9_ T m 468 0 = T 236 0 m := rp_v rfl rfl (by show m = _; omega)
  have z468_1 : rp9_ T m 468 1 = T 237 0 m := rp_v rfl rfl (by show m = _; omega)
  show J_ zX11_addScore T (po_X11_addScore_e T bu m s v) 0 0 0 [some (vR 111 0), some (vI m), some (vI s), some (vI v)] [] T
  refine j_blx (F := fX11) tb_X11 (nn_ _) bk_X11_addScore_e_0 bs_X11_addScore_e_0 hz (fun K hK => ?_)
  refine ix_i (by omega) ?_
  intro b1 b1b
  refine And.intro (fun c2 => ?_) (fun c2 => ?_)
  · refine hK 15 _ [vI (T 236 0 m), vI m, vR 236 0] T ?_
    refine j_blx (F := fX11) tb_X11 (nn_ _) bk_X11_addScore_e_15 bs_X11_addScore_e_15 hz (fun K hK => ?_)
    intro w3 w3b
    refine iy_i (by omega) (by omega) ?_
    refine x_nm (fun U4 hU4 => ?_)
    have e5 := up_f hU4
    refine ix_i (by omega) ?_
    intro b6 b6b
    have e7 : U4 237 0 m = T 237 0 m := up_k hU4 (by exact Nat.ne_of_beq_eq_false rfl) 0 m
    rw [e7] at b6 b6b ⊢
    refine And.intro (fun c8 => ?_) (fun c8 => ?_)
    · refine hK 34 _ [vI (T 237 0 m), vI m, vR 237 0] U4 ?_
      refine j_blx (F := fX11) tb_X11 (nn_ _) bk_X11_addScore_e_34 bs_X11_addScore_e_34 hz (fun K hK => ?_)
      intro w9 w9b
      refine iy_i (by omega) (by omega) ?_
      refine x_nm (fun U10 hU10 => ?_)
      have e11 := up_f hU10
      refine (show po_X11_addScore_e T bu m s v U10 (none) from ?_)
      have e12 : U10 236 0 m = wr_ ((T 236 0 m) + 0) := (up_k hU10 (by exact Nat.ne_of_beq_eq_false rfl) 0 m).trans (up_f hU4)
      have e13 : U10 237 0 m = wr_ ((T 237 0 m) + 0) := up_f hU10
      have rU4 : rp9_ U4 m = u2_ (rp9_ T m) 468 0 (wr_ ((T 236 0 m) + 0)) := by rw [rp_u (m := m) (k := 468) (j := 0) hU4 rfl rfl (by show m = _; omega)]
      have rU10 : rp9_ U10 m = u2_ (u2_ (rp9_ T m) 468 0 (wr_ ((T 236 0 m) + 0))) 468 1 (wr_ ((T 237 0 m) + 0)) := by rw [rp_u (m := m) (k := 468) (j := 1) hU10 rfl rfl (by show m = _; omega), rU4]
      have wv1 : wr_ ((T 237 0 m) + 0) = ((T 237 0 m) + 0) := wr_i (by omega)
      have wv2 : wr_ ((T 236 0 m) + 0) = ((T 236 0 m) + 0) := wr_i (by omega)
      have e14 : U10 236 0 m = wr_ ((T 236 0 m) + 0) := (up_k hU10 (by exact Nat.ne_of_beq_eq_false rfl) 0 m).trans (up_f hU4)
      have e15 : U10 237 0 m = wr_ ((T 237 0 m) + 0) := up_f hU10
      refine ⟨rfl, fr_u (fr_u (fr_0 _ _) hU4 rfl) hU10 rfl, so_1 (so_0 (so_r) hU4) hU10, sb1_1 (sb1_0 (sb1_m (c := bu + 4) hsb (by omega)) hU4 (by omega)) hU10 (by omega), ⟨fun z => ⟨by omega, by omega⟩, fun z => ⟨by omega, by omega⟩⟩, ro_u (m := m) (k := 468) (j := 1) (ro_u (m := m) (k := 468) (j := 0) (ro_r) hU4 rfl rfl (by show m = _; omega)) hU10 rfl rfl (by show m = _; omega), ?_⟩
      first
      | exact Eq.trans rU10 (Eq.symm (by have g9 := adR__1 (a := rp9_ T m) (s := s) (v := v) (show s = 0 by (try simp only [z468_0, z468_1]); omega); (try simp only [z468_0, z468_1] at g9); exact g9))
      | exact Eq.trans rU10 (Eq.symm (by have g9 := adR__2 (a := rp9_ T m) (s := s) (v := v) (show ¬ (s = 0) by (try simp only [z468_0, z468_1]); omega) (show s = 1 by (try simp only [z468_0, z468_1]); omega); (try simp only [z468_0, z468_1] at g9); exact g9))
      | exact Eq.trans rU10 (Eq.symm (by have g9 := adR__3 (a := rp9_ T m) (s := s) (v := v) (show ¬ (s = 0) by (try simp only [z468_0, z468_1]); omega) (show ¬ (s = 1) by (try simp only [z468_0, z468_1]); omega); (try simp only [z468_0, z468_1] at g9); exact g9))
      | (exfalso; omega)
    · refine hK 35 _ [vI v, vI (T 237 0 m), vI m, vR 237 0] U4 ?_
      refine j_blx (F := fX11) tb_X11 (nn_ _) bk_X11_addScore_e_35 bs_X11_addScore_e_35 hz (fun K hK => ?_)
      intro w16 w16b
      refine iy_i (by omega) (by omega) ?_
      refine x_nm (fun U17 hU17 => ?_)
      have e18 := up_f hU17
      refine (show po_X11_addScore_e T bu m s v U17 (none) from ?_)
      have e19 : U17 236 0 m = wr_ ((T 236 0 m) + 0) := (up_k hU17 (by exact Nat.ne_of_beq_eq_false rfl) 0 m).trans (up_f hU4)
      have e20 : U17 237 0 m = wr_ ((T 237 0 m) + v) := up_f hU17
      have rU4 : rp9_ U4 m = u2_ (rp9_ T m) 468 0 (wr_ ((T 236 0 m) + 0)) := by rw [rp_u (m := m) (k := 468) (j := 0) hU4 rfl rfl (by show m = _; omega)]
      have rU17 : rp9_ U17 m = u2_ (u2_ (rp9_ T m) 468 0 (wr_ ((T 236 0 m) + 0))) 468 1 (wr_ ((T 237 0 m) + v)) := by rw [rp_u (m := m) (k := 468) (j := 1) hU17 rfl rfl (by show m = _; omega), rU4]
      have wv3 : wr_ ((T 237 0 m) + v) = ((T 237 0 m) + v) := wr_i (by omega)
      have wv4 : wr_ ((T 236 0 m) + 0) = ((T 236 0 m) + 0) := wr_i (by omega)
      have e21 : U17 236 0 m = wr_ ((T 236 0 m) + 0) := (up_k hU17 (by exact Nat.ne_of_beq_eq_false rfl) 0 m).trans (up_f hU4)
      have e22 : U17 237 0 m = wr_ ((T 237 0 m) + v) := up_f hU17
      refine ⟨rfl, fr_u (fr_u (fr_0 _ _) hU4 rfl) hU17 rfl, so_1 (so_0 (so_r) hU4) hU17, sb1_1 (sb1_0 (sb1_m (c := bu + 4) hsb (by omega)) hU4 (by omega)) hU17 (by omega), ⟨fun z => ⟨by omega, by omega⟩, fun z => ⟨by omega, by omega⟩⟩, ro_u (m := m) (k := 468) (j := 1) (ro_u (m := m) (k := 468) (j := 0) (ro_r) hU4 rfl rfl (by show m = _; omega)) hU17 rfl rfl (by show m = _; omega), ?_⟩
      first
      | exact Eq.trans rU17 (Eq.symm (by have g9 := adR__1 (a := rp9_ T m) (s := s) (v := v) (show s = 0 by (try simp only [z468_0, z468_1]); omega); (try simp only [z468_0, z468_1] at g9); exact g9))
      | exact Eq.trans rU17 (Eq.symm (by have g9 := adR__2 (a := rp9_ T m) (s := s) (v := v) (show ¬ (s = 0) by (try simp only [z468_0, z468_1]); omega) (show s = 1 by (try simp only [z468_0, z468_1]); omega); (try simp only [z468_0, z468_1] at g9); exact g9))
      | exact Eq.trans rU17 (Eq.symm (by have g9 := adR__3 (a := rp9_ T m) (s := s) (v := v) (show ¬ (s = 0) by (try simp only [z468_0, z468_1]); omega) (show ¬ (s = 1) by (try simp only [z468_0, z468_1]); omega); (try simp only [z468_0, z468_1] at g9); exact g9))
      | (exfalso; omega)
  · refine hK 16 _ [vI v, vI (T 236 0 m), vI m, vR 236 0] T ?_
    refine j_blx (F := fX11) tb_X11 (nn_ _) bk_X11_addScore_e_16 bs_X11_addScore_e_16 hz (fun K hK => ?_)
    intro w23 w23b
    refine iy_i (by omega) (by omega) ?_
    refine x_nm (fun U24 hU24 => ?_)
    have e25 := up_f hU24
    refine ix_i (by omega) ?_
    intro b26 b26b
    have e27 : U24 237 0 m = T 237 0 m := up_k hU24 (by exact Nat.ne_of_beq_eq_false rfl) 0 m
    rw [e27] at b26 b26b ⊢
    refine And.intro (fun c28 => ?_) (fun c28 => ?_)
    · refine hK 34 _ [vI (T 237 0 m), vI m, vR 237 0] U24 ?_
      refine j_blx (F := fX11) tb_X11 (nn_ _) bk_X11_addScore_e_34 bs_X11_addScore_e_34 hz (fun K hK => ?_)
      intro w29 w29b
      refine iy_i (by omega) (by omega) ?_
      refine x_nm (fun U30 hU30 => ?_)
      have e31 := up_f hU30
      refine (show po_X11_addScore_e T bu m s v U30 (none) from ?_)
      have e32 : U30 236 0 m = wr_ ((T 236 0 m) + v) := (up_k hU30 (by exact Nat.ne_of_beq_eq_false rfl) 0 m).trans (up_f hU24)
      have e33 : U30 237 0 m = wr_ ((T 237 0 m) + 0) := up_f hU30
      have rU24 : rp9_ U24 m = u2_ (rp9_ T m) 468 0 (wr_ ((T 236 0 m) + v)) := by rw [rp_u (m := m) (k := 468) (j := 0) hU24 rfl rfl (by show m = _; omega)]
      have rU30 : rp9_ U30 m = u2_ (u2_ (rp9_ T m) 468 0 (wr_ ((T 236 0 m) + v))) 468 1 (wr_ ((T 237 0 m) + 0)) := by rw [rp_u (m := m) (k := 468) (j := 1) hU30 rfl rfl (by show m = _; omega), rU24]
      have wv5 : wr_ ((T 237 0 m) + 0) = ((T 237 0 m) + 0) := wr_i (by omega)
      have wv6 : wr_ ((T 236 0 m) + v) = ((T 236 0 m) + v) := wr_i (by omega)
      have e34 : U30 236 0 m = wr_ ((T 236 0 m) + v) := (up_k hU30 (by exact Nat.ne_of_beq_eq_false rfl) 0 m).trans (up_f hU24)
      have e35 : U30 237 0 m = wr_ ((T 237 0 m) + 0) := up_f hU30
      refine ⟨rfl, fr_u (fr_u (fr_0 _ _) hU24 rfl) hU30 rfl, so_1 (so_0 (so_r) hU24) hU30, sb1_1 (sb1_0 (sb1_m (c := bu + 4) hsb (by omega)) hU24 (by omega)) hU30 (by omega), ⟨fun z => ⟨by omega, by omega⟩, fun z => ⟨by omega, by omega⟩⟩, ro_u (m := m) (k := 468) (j := 1) (ro_u (m := m) (k := 468) (j := 0) (ro_r) hU24 rfl rfl (by show m = _; omega)) hU30 rfl rfl (by show m = _; omega), ?_⟩
      first
      | exact Eq.trans rU30 (Eq.symm (by have g9 := adR__1 (a := rp9_ T m) (s := s) (v := v) (show s = 0 by (try simp only [z468_0, z468_1]); omega); (try simp only [z468_0, z468_1] at g9); exact g9))
      | exact Eq.trans rU30 (Eq.symm (by have g9 := adR__2 (a := rp9_ T m) (s := s) (v := v) (show ¬ (s = 0) by (try simp only [z468_0, z468_1]); omega) (show s = 1 by (try simp only [z468_0, z468_1]); omega); (try simp only [z468_0, z468_1] at g9); exact g9))
      | exact Eq.trans rU30 (Eq.symm (by have g9 := adR__3 (a := rp9_ T m) (s := s) (v := v) (show ¬ (s = 0) by (try simp only [z468_0, z468_1]); omega) (show ¬ (s = 1) by (try simp only [z468_0, z468_1]); omega); (try simp only [z468_0, z468_1] at g9); exact g9))
      | (exfalso; omega)
    · refine hK 35 _ [vI v, vI (T 237 0 m), vI m, vR 237 0] U24 ?_
      refine j_blx (F := fX11) tb_X11 (nn_ _) bk_X11_addScore_e_35 bs_X11_addScore_e_35 hz (fun K hK => ?_)
      intro w36 w36b
      refine iy_i (by omega) (by omega) ?_
      refine x_nm (fun U37 hU37 => ?_)
      have e38 := up_f hU37
      refine (show po_X11_addScore_e T bu m s v U37 (none) from ?_)
      have e39 : U37 236 0 m = wr_ ((T 236 0 m) + v) := (up_k hU37 (by exact Nat.ne_of_beq_eq_false rfl) 0 m).trans (up_f hU24)
      have e40 : U37 237 0 m = wr_ ((T 237 0 m) + v) := up_f hU37
      have rU24 : rp9_ U24 m = u2_ (rp9_ T m) 468 0 (wr_ ((T 236 0 m) + v)) := by rw [rp_u (m := m) (k := 468) (j := 0) hU24 rfl rfl (by show m = _; omega)]
      have rU37 : rp9_ U37 m = u2_ (u2_ (rp9_ T m) 468 0 (wr_ ((T 236 0 m) + v))) 468 1 (wr_ ((T 237 0 m) + v)) := by rw [rp_u (m := m) (k := 468) (j := 1) hU37 rfl rfl (by show m = _; omega), rU24]
      have wv7 : wr_ ((T 237 0 m) + v) = ((T 237 0 m) + v) := wr_i (by omega)
      have wv8 : wr_ ((T 236 0 m) + v) = ((T 236 0 m) + v) := wr_i (by omega)
      have e41 : U37 236 0 m = wr_ ((T 236 0 m) + v) := (up_k hU37 (by exact Nat.ne_of_beq_eq_false rfl) 0 m).trans (up_f hU24)
      have e42 : U37 237 0 m = wr_ ((T 237 0 m) + v) := up_f hU37
      refine ⟨rfl, fr_u (fr_u (fr_0 _ _) hU24 rfl) hU37 rfl, so_1 (so_0 (so_r) hU24) hU37, sb1_1 (sb1_0 (sb1_m (c := bu + 4) hsb (by omega)) hU24 (by omega)) hU37 (by omega), ⟨fun z => ⟨by omega, by omega⟩, fun z => ⟨by omega, by omega⟩⟩, ro_u (m := m) (k := 468) (j := 1) (ro_u (m := m) (k := 468) (j := 0) (ro_r) hU24 rfl rfl (by show m = _; omega)) hU37 rfl rfl (by show m = _; omega), ?_⟩
      first
      | exact Eq.trans rU37 (Eq.symm (by have g9 := adR__1 (a := rp9_ T m) (s := s) (v := v) (show s = 0 by (try simp only [z468_0, z468_1]); omega); (try simp only [z468_0, z468_1] at g9); exact g9))
      | exact Eq.trans rU37 (Eq.symm (by have g9 := adR__2 (a := rp9_ T m) (s := s) (v := v) (show ¬ (s = 0) by (try simp only [z468_0, z468_1]); omega) (show s = 1 by (try simp only [z468_0, z468_1]); omega); (try simp only [z468_0, z468_1] at g9); exact g9))
      | exact Eq.trans rU37 (Eq.symm (by have g9 := adR__3 (a := rp9_ T m) (s := s) (v := v) (show ¬ (s = 0) by (try simp only [z468_0, z468_1]); omega) (show ¬ (s = 1) by (try simp only [z468_0, z468_1]); omega); (try simp only [z468_0, z468_1] at g9); exact g9))
      | (exfalso; omega)
abbrev po_X11_scoreOf_e (T : Zt) (m s : Int) : Zt → Option Zv → Prop := fun T' r => T = T' ∧ ∃ x : Int, r = some (vI x) ∧ ((s = 0 ∧ x = T 236 0 m) ∨ (s ≠ 0 ∧ x = T 237 0 m))
set_option maxHeartbeats 4000000 in
theorem ct_X11_scoreOf_e {T : Zt} {m s : Int} (h1 : 0 ≤ m ∧ m < 400) : Ct_ yX11_scoreOf zX11_scoreOf T [vR 111 0, vI m, vI s] (po_X11_scoreOf_e T m s) := by
  refine ct_of pn_11 rfl rfl (Nat.le_of_ble_eq_true rfl) (fun hT hav => ?_)
  have hr_m : -2147483648 ≤ m ∧ m ≤ 2147483647 := hav (vI m) (List.mem_cons_of_mem _ List.mem_cons_self)
  have hr_s : -2147483648 ≤ s ∧ s ≤ 2147483647 := hav (vI s) (List.mem_cons_of_mem _ (List.mem_cons_of_mem _ List.mem_cons_self))
  have hz : zX11_scoreOf.2.2.2.1 = some .boolean → ∀ (T' : Zt) (x : Int), po_X11_scoreOf_e T m s T' (some (vI x)) → 0 ≤ x ∧ x ≤ 1 := fun h => by cases h
  show J_ zX11_scoreOf T (po_X11_scoreOf_e T m s) 0 0 0 [some (vR 111 0), some (vI m), some (vI s)] [] T
  refine j_blx (F := fX11) tb_X11 (nn_ _) bk_X11_scoreOf_0 bs_X11_scoreOf_0 hz (fun K hK => ?_)
  refine And.intro (fun c1 => ?_) (fun c1 => ?_)
  · refine hK 13 _ [] T ?_
    refine j_blx (F := fX11) tb_X11 (nn_ _) bk_X11_scoreOf_13 bs_X11_scoreOf_13 hz (fun K hK => ?_)
    refine ix_i (by omega) ?_
    intro b2 b2b
    refine (show po_X11_scoreOf_e T m s T (some (vI (T 237 0 m))) from ?_)
    exact ⟨rfl, _, rfl, by omega⟩
  · refine ix_i (by omega) ?_
    intro b3 b3b
    refine hK 19 _ [vI (T 236 0 m)] T ?_
    refine j_blx (F := fX11) tb_X11 (nn_ _) bk_X11_scoreOf_19 bs_X11_scoreOf_19 hz (fun K hK => ?_)
    refine (show po_X11_scoreOf_e T m s T (some (vI (T 236 0 m))) from ?_)
    exact ⟨rfl, _, rfl, by omega⟩
theorem bk_X11_slotOf_e_43 : ck_ fX11 (some .int) cX11_slotOf 43 [.istore 3, .iinc 4 1, .goto 5] 50 = true := qck_r (nn_ _) (by decide +kernel)
theorem bs_X11_slotOf_e_43 {P : Zt → Option Zv → Prop} (K : Int → Zl → List Zv → Zt → Prop) : sx_ K P [.istore 3, .iinc 4 1, .goto 5] 50 = x_istore 3 (x_iinc 4 1 (x_goto 5 K)) := ((xe_istore 3).trans (congrArg (x_istore 3) ((xe_iinc 4 1).trans (congrArg (x_iinc 4 1) (xe_goto 5)))))
theorem bk_X11_slotOf_e_5 : ck_ fX11 (some .int) cX11_slotOf 5 [.iload 4, .aload 0, .tableswitch 0 11 39 #[], .iload 1, .iaload, .if_icmp .ge 50, .aload 0, .tableswitch 0 11 40 #[], .iconst 10, .iload 1, .imul, .iload 4, .iadd, .iaload, .iload 2, .if_icmp .ne 42, .iconst 10, .iload 1, .imul, .iload 4, .iadd, .goto 43] 42 = true := qck_r (nn_ _) (by decide +kernel)
theorem bs_X11_slotOf_e_5 {P : Zt → Option Zv → Prop} (K : Int → Zl → List Zv → Zt → Prop) : sx_ K P [.iload 4, .aload 0, .tableswitch 0 11 39 #[], .iload 1, .iaload, .if_icmp .ge 50, .aload 0, .tableswitch 0 11 40 #[], .iconst 10, .iload 1, .imul, .iload 4, .iadd, .iaload, .iload 2, .if_icmp .ne 42, .iconst 10, .iload 1, .imul, .iload 4, .iadd, .goto 43] 42 = x_iload 4 (x_aload 0 (x_g1 111 239 (x_iload 1 (x_iaload (x_if_icmp .ge 50 K (x_aload 0 (x_g1 111 240 (x_iconst 10 (x_iload 1 (x_imul (x_iload 4 (x_iadd (x_iaload (x_iload 2 (x_if_icmp .ne 42 K (x_iconst 10 (x_iload 1 (x_imul (x_iload 4 (x_iadd (x_goto 43 K))))))))))))))))))))) := ((xe_iload 4).trans (congrArg (x_iload 4) ((xe_aload 0).trans (congrArg (x_aload 0) ((xe_g1 (kk := 111) rfl tl_11_39).trans (congrArg (x_g1 111 239) ((xe_iload 1).trans (congrArg (x_iload 1) ((xe_iaload).trans (congrArg (x_iaload) ((xe_if_icmp .ge 50).trans (congrArg (x_if_icmp .ge 50 K) ((xe_aload 0).trans (congrArg (x_aload 0) ((xe_g1 (kk := 111) rfl tl_11_40).trans (congrArg (x_g1 111 240) ((xe_iconst 10).trans (congrArg (x_iconst 10) ((xe_iload 1).trans (congrArg (x_iload 1) ((xe_imul).trans (congrArg (x_imul) ((xe_iload 4).trans (congrArg (x_iload 4) ((xe_iadd).trans (congrArg (x_iadd) ((xe_iaload).trans (congrArg (x_iaload) ((xe_iload 2).trans (congrArg (x_iload 2) ((xe_if_icmp .ne 42).trans (congrArg (x_if_icmp .ne 42 K) ((xe_iconst 10).trans (congrArg (x_iconst 10) ((xe_iload 1).trans (congrArg (x_iload 1) ((xe_imul).trans (congrArg (x_imul) ((xe_iload 4).trans (congrArg (x_iload 4) ((xe_iadd).trans (congrArg (x_iadd) (xe_goto 43)))))))))))))))))))))))))))))))))))))))))))
theorem bk_X11_slotOf_e_50 : ck_ fX11 (some .int) cX11_slotOf 50 [.iload 3, .ireturn] 52 = true := qck_r (nn_ _) (by decide +kernel)
theorem bs_X11_slotOf_e_50 {P : Zt → Option Zv → Prop} (K : Int → Zl → List Zv → Zt → Prop) : sx_ K P [.iload 3, .ireturn] 52 = x_iload 3 (x_ireturn P) := ((xe_iload 3).trans (congrArg (x_iload 3) (xe_ireturn)))
theorem bk_X11_slotOf_e_42 : ck_ fX11 (some .int) cX11_slotOf 42 [.iload 3] 43 = true := qck_r (nn_ _) (by decide +kernel)
theorem bs_X11_slotOf_e_42 {P : Zt → Option Zv → Prop} (K : Int → Zl → List Zv → Zt → Prop) : sx_ K P [.iload 3] 43 = x_iload 3 (K 43) := ((xe_iload 3).trans (congrArg (x_iload 3) xe_nil))
theorem bk_X11_slotOf_e_0 : ck_ fX11 (some .int) cX11_slotOf 0 [.iconst (-1), .istore 3, .iconst 0, .istore 4] 5 = true := qck_r (nn_ _) (by decide +kernel)
theorem bs_X11_slotOf_e_0 {P : Zt → Option Zv → Prop} (K : Int → Zl → List Zv → Zt → Prop) : sx_ K P [.iconst (-1), .istore 3, .iconst 0, .istore 4] 5 = x_iconst (-1) (x_istore 3 (x_iconst 0 (x_istore 4 (K 5)))) := ((xe_iconst (-1)).trans (congrArg (x_iconst (-1)) ((xe_istore 3).trans (congrArg (x_istore 3) ((xe_iconst 0).trans (congrArg (x_iconst 0) ((xe_istore 4).trans (congrArg (x_istore 4) xe_nil))))))))
abbrev po_X11_slotOf_e (T : Zt) (m : Int) (s : Int) (sh p : Int) : Zt → Option Zv → Prop := fun T' r => T = T' ∧ ∃ x : Int, r = some (vI x) ∧ (((x = -1 ∧ ¬ SL_ T sh p) ∨ (10 * sh ≤ x ∧ x < 10 * sh + 10 ∧ SL_ T sh p ∧ x < 10 * sh + T 239 0 sh)) ∧ x = ab9_ m (slR_ (rp9_ T m) s p))
set_option maxHeartbeats 4000000 in
theorem ct_X11_slotOf_e {T : Zt} {m : Int} {s : Int} {sh p : Int} (h1 : 0 ≤ sh ∧ sh < 800) (hsh : sh = 2 * m + s ∧ 0 ≤ s ∧ s ≤ 1) : Ct_ yX11_slotOf zX11_slotOf T [vR 111 0, vI sh, vI p] (po_X11_slotOf_e T m s sh p) := by
  refine ct_of pn_11 rfl rfl (Nat.le_of_ble_eq_true rfl) (fun hT hav => ?_)
  have hr_sh : -2147483648 ≤ sh ∧ sh ≤ 2147483647 := hav (vI sh) (List.mem_cons_of_mem _ List.mem_cons_self)
  have hr_p : -2147483648 ≤ p ∧ p ≤ 2147483647 := hav (vI p) (List.mem_cons_of_mem _ (List.mem_cons_of_mem _ List.mem_cons_self))
  have hz : zX11_slotOf.2.2.2.1 = some .boolean → ∀ (T' : Zt) (x : Int), po_X11_slotOf_e T m s sh p T' (some (vI x)) → 0 ≤ x ∧ x ≤ 1 := fun h => by cases h
  have hsb : 0 ≤ T 239 0 sh ∧ T 239 0 sh ≤ 10 := bd_a hT 239 (by decide +kernel : ta_ 239 = some (1, some 800, 0, 10)) 0 (by omega)
  have hsl : rp9_ T m 449 s = T 239 0 sh := rp_v (dm_449 (by omega)) rfl (by show 2 * m + s = _; omega)
  show J_ zX11_slotOf T (po_X11_slotOf_e T m s sh p) 0 0 0 [some (vR 111 0), some (vI sh), some (vI p), none, none] [] T
  have c_5 : ∀ (nn : Nat) (sl : Int) (k : Int), ((10 - k).toNat) ≤ nn → (0 ≤ k ∧ -1 ≤ sl ∧ sl < 8000 ∧ (k = 0 ∨ k ≤ T 239 0 sh)) → ((sl = -1 ∧ ∀ j, 0 ≤ j → j < k → T 240 0 (10 * sh + j) ≠ p) ∨ (10 * sh ≤ sl ∧ sl < 10 * sh + T 239 0 sh ∧ T 240 0 sl = p)) → (sl = ab9_ m (sln_ (rp9_ T m) s p k.toNat)) → J_ zX11_slotOf T (po_X11_slotOf_e T m s sh p) 0 0 5 [some (vR 111 0), some (vI sh), some (vI p), some (vI sl), some (vI k)] [] T := by
    intro nn
    induction nn using Nat.strongRecOn with
    | _ nn ih_5 =>
      intro sl k hm_5 k1 k2 k3
      replace hm_5 := fun (_ : Unit) => hm_5
      have c_43 : ∀ (v : Int), (k < T 239 0 sh ∧ T 239 0 sh ≤ 10 ∧ -1 ≤ v ∧ v < 8000) → ((v = -1 ∧ ∀ j, 0 ≤ j → j < k + 1 → T 240 0 (10 * sh + j) ≠ p) ∨ (10 * sh ≤ v ∧ v < 10 * sh + T 239 0 sh ∧ T 240 0 v = p)) → (v = ab9_ m (sln_ (rp9_ T m) s p (k + 1).toNat)) → J_ zX11_slotOf T (po_X11_slotOf_e T m s sh p) 0 0 43 [some (vR 111 0), some (vI sh), some (vI p), some (vI sl), some (vI k)] [vI v] T := by
        intro v v0 v1 v3
        refine j_blx (F := fX11) tb_X11 (nn_ _) bk_X11_slotOf_e_43 bs_X11_slotOf_e_43 hz (fun K hK => ?_)
        refine rg_i (by omega) ?_
        refine hK 5 [some (vR 111 0), some (vI sh), some (vI p), some (vI v), some (vI (k + 1))] [] T ?_
        refine ih_5 _ ?_ v (k + 1) (Nat.le_refl _) ?_ ?_ ?_
        · have hm_5 := hm_5 (); omega
        · omega
        · exact v1
        · exact v3
      refine j_blx (F := fX11) tb_X11 (nn_ _) bk_X11_slotOf_e_5 bs_X11_slotOf_e_5 hz (fun K hK => ?_)
      refine ix_i (by omega) ?_
      intro b1 b1b
      refine And.intro (fun c2 => ?_) (fun c2 => ?_)
      · refine hK 50 _ [] T ?_
        refine j_blx (F := fX11) tb_X11 (nn_ _) bk_X11_slotOf_e_50 bs_X11_slotOf_e_50 hz (fun K hK => ?_)
        refine (show po_X11_slotOf_e T m s sh p T (some (vI sl)) from ?_)
        refine ⟨rfl, _, rfl, k2.imp (fun z => ⟨z.1, fun ⟨j, a, b, c⟩ => z.2 j a (by omega) c⟩) (fun z => ⟨z.1, by omega, ⟨sl - 10 * sh, by omega, by omega, by rw [show 10 * sh + (sl - 10 * sh) = sl by omega]; exact z.2.2⟩, z.2.1⟩), ?_⟩
        show sl = ab9_ m (sln_ (rp9_ T m) s p (rp9_ T m 449 s).toNat)
        rw [hsl, show T 239 0 sh = k by omega]
        exact k3
      · refine rg_i (by omega) ?_
        refine rg_i (by omega) ?_
        refine ix_i (by omega) ?_
        intro b3 b3b
        refine And.intro (fun c4 => ?_) (fun c4 => ?_)
        · refine hK 42 _ [] T ?_
          refine j_blx (F := fX11) tb_X11 (nn_ _) bk_X11_slotOf_e_42 bs_X11_slotOf_e_42 hz (fun K hK => ?_)
          refine hK 43 _ [vI sl] T ?_
          refine c_43 sl ?_ ?_ ?_
          · omega
          · rcases k2 with z | z
            · exact Or.inl ⟨z.1, fun j a b => by
                by_cases e9 : j = k
                · rw [e9]; omega
                · exact z.2 j a (by omega)⟩
            · exact Or.inr z
          · have z9 : rp9_ T m 448 (10 * s + ((k.toNat : Nat) : Int)) = T 240 0 (10 * sh + k) := by
              rw [show ((k.toNat : Nat) : Int) = k by omega]
              exact rp_v (dm_448 (by omega)) rfl (by show 20 * m + (10 * s + k) = _; omega)
            rw [show (k + 1).toNat = k.toNat + 1 by omega]
            rw [sln_f (fun y => by omega)]
            exact k3
        · refine rg_i (by omega) ?_
          refine rg_i (by omega) ?_
          refine hK 43 _ [vI ((10 * sh) + k)] T ?_
          refine c_43 ((10 * sh) + k) ?_ ?_ ?_
          · omega
          · exact Or.inr ⟨by omega, by omega, by omega⟩
          · have z9 : rp9_ T m 448 (10 * s + ((k.toNat : Nat) : Int)) = T 240 0 (10 * sh + k) := by
              rw [show ((k.toNat : Nat) : Int) = k by omega]
              exact rp_v (dm_448 (by omega)) rfl (by show 20 * m + (10 * s + k) = _; omega)
            rw [show (k + 1).toNat = k.toNat + 1 by omega]
            rw [sln_t (z9.trans (by omega)), ab_2 (by omega)]
            omega
  refine j_blx (F := fX11) tb_X11 (nn_ _) bk_X11_slotOf_e_0 bs_X11_slotOf_e_0 hz (fun K hK => ?_)
  refine hK 5 [some (vR 111 0), some (vI sh), some (vI p), some (vI (-1)), some (vI 0)] [] T ?_
  refine c_5 _ (-1) 0 (Nat.le_refl _) ?_ ?_ ?_
  · omega
  · exact Or.inl ⟨rfl, fun j a b => by omega⟩
  · exact (ab_1 (m := m) (x := sln_ (rp9_ T m) s p (0 : Int).toNat) rfl).symm
theorem bk_X11_stands_e_0 : ck_ fX11 (some .boolean) cX11_stands 0 [.aload 0, .iconst 2, .iload 1, .imul, .iload 2, .iadd, .iload 3] 7 = true := qck_r (nn_ _) (by decide +kernel)
theorem bs_X11_stands_e_0 {P : Zt → Option Zv → Prop} (K : Int → Zl → List Zv → Zt → Prop) : sx_ K P [.aload 0, .iconst 2, .iload 1, .imul, .iload 2, .iadd, .iload 3] 7 = x_aload 0 (x_iconst 2 (x_iload 1 (x_imul (x_iload 2 (x_iadd (x_iload 3 (K 7))))))) := ((xe_aload 0).trans (congrArg (x_aload 0) ((xe_iconst 2).trans (congrArg (x_iconst 2) ((xe_iload 1).trans (congrArg (x_iload 1) ((xe_imul).trans (congrArg (x_imul) ((xe_iload 2).trans (congrArg (x_iload 2) ((xe_iadd).trans (congrArg (x_iadd) ((xe_iload 3).trans (congrArg (x_iload 3) xe_nil))))))))))))))
theorem bk_X11_stands_e_10 : ck_ fX11 (some .boolean) cX11_stands 10 [.istore 5, .iload 5, .iconst (-1), .if_icmp .eq 34, .aload 0, .tableswitch 0 11 41 #[], .iload 5, .iaload, .iload 4, .if_icmp .ne 34, .iconst 1, .goto 35] 34 = true := qck_r (nn_ _) (by decide +kernel)
theorem bs_X11_stands_e_10 {P : Zt → Option Zv → Prop} (K : Int → Zl → List Zv → Zt → Prop) : sx_ K P [.istore 5, .iload 5, .iconst (-1), .if_icmp .eq 34, .aload 0, .tableswitch 0 11 41 #[], .iload 5, .iaload, .iload 4, .if_icmp .ne 34, .iconst 1, .goto 35] 34 = x_istore 5 (x_iload 5 (x_iconst (-1) (x_if_icmp .eq 34 K (x_aload 0 (x_g1 111 241 (x_iload 5 (x_iaload (x_iload 4 (x_if_icmp .ne 34 K (x_iconst 1 (x_goto 35 K))))))))))) := ((xe_istore 5).trans (congrArg (x_istore 5) ((xe_iload 5).trans (congrArg (x_iload 5) ((xe_iconst (-1)).trans (congrArg (x_iconst (-1)) ((xe_if_icmp .eq 34).trans (congrArg (x_if_icmp .eq 34 K) ((xe_aload 0).trans (congrArg (x_aload 0) ((xe_g1 (kk := 111) rfl tl_11_41).trans (congrArg (x_g1 111 241) ((xe_iload 5).trans (congrArg (x_iload 5) ((xe_iaload).trans (congrArg (x_iaload) ((xe_iload 4).trans (congrArg (x_iload 4) ((xe_if_icmp .ne 34).trans (congrArg (x_if_icmp .ne 34 K) ((xe_iconst 1).trans (congrArg (x_iconst 1) (xe_goto 35)))))))))))))))))))))))
theorem bk_X11_stands_e_34 : ck_ fX11 (some .boolean) cX11_stands 34 [.iconst 0, .ireturn] 36 = true := qck_r (nn_ _) (by decide +kernel)
theorem bs_X11_stands_e_34 {P : Zt → Option Zv → Prop} (K : Int → Zl → List Zv → Zt → Prop) : sx_ K P [.iconst 0, .ireturn] 36 = x_iconst 0 (x_ireturn P) := ((xe_iconst 0).trans (congrArg (x_iconst 0) (xe_ireturn)))
theorem bk_X11_stands_e_35 : ck_ fX11 (some .boolean) cX11_stands 35 [.ireturn] 36 = true := qck_r (nn_ _) (by decide +kernel)
theorem bs_X11_stands_e_35 {P : Zt → Option Zv → Prop} (K : Int → Zl → List Zv → Zt → Prop) : sx_ K P [.ireturn] 36 = x_ireturn P := (xe_ireturn)
abbrev po_X11_stands_e (T : Zt) (m s p w : Int) : Zt → Option Zv → Prop := fun T' r => T = T' ∧ ∃ x : Int, r = some (vI x) ∧ ((x = 1 ∧ SL_ T (2 * m + s) p ∧ slR_ (rp9_ T m) s p ≠ -1 ∧ rp9_ T m 472 (slR_ (rp9_ T m) s p) = w) ∨ (x = 0 ∧ ¬ (slR_ (rp9_ T m) s p ≠ -1 ∧ rp9_ T m 472 (slR_ (rp9_ T m) s p) = w)))
set_option maxHeartbeats 4000000 in
theorem ct_X11_stands_e {T : Zt} {m s p w : Int} (h1 : 0 ≤ m ∧ m < 400) (hs : 0 ≤ s ∧ s ≤ 1) : Ct_ yX11_stands zX11_stands T [vR 111 0, vI m, vI s, vI p, vI w] (po_X11_stands_e T m s p w) := by
  refine ct_of pn_11 rfl rfl (Nat.le_of_ble_eq_true rfl) (fun hT hav => ?_)
  have hr_m : -2147483648 ≤ m ∧ m ≤ 2147483647 := hav (vI m) (List.mem_cons_of_mem _ List.mem_cons_self)
  have hr_s : -2147483648 ≤ s ∧ s ≤ 2147483647 := hav (vI s) (List.mem_cons_of_mem _ (List.mem_cons_of_mem _ List.mem_cons_self))
  have hr_p : -2147483648 ≤ p ∧ p ≤ 2147483647 := hav (vI p) (List.mem_cons_of_mem _ (List.mem_cons_of_mem _ (List.mem_cons_of_mem _ List.mem_cons_self)))
  have hr_w : -2147483648 ≤ w ∧ w ≤ 2147483647 := hav (vI w) (List.mem_cons_of_mem _ (List.mem_cons_of_mem _ (List.mem_cons_of_mem _ (List.mem_cons_of_mem _ List.mem_cons_self))))
  have hz : zX11_stands.2.2.2.1 = some .boolean → ∀ (T' : Zt) (x : Int), po_X11_stands_e T m s p w T' (some (vI x)) → 0 ≤ x ∧ x ≤ 1 := fun _ T' x h => by obtain ⟨-, y, e, hy⟩ := h; cases e; omega
  show J_ zX11_stands T (po_X11_stands_e T m s p w) 0 0 0 [some (vR 111 0), some (vI m), some (vI s), some (vI p), some (vI w), none] [] T
  refine j_blx (F := fX11) tb_X11 (nn_ _) bk_X11_stands_e_0 bs_X11_stands_e_0 hz (fun K hK => ?_)
  refine rg_i (by omega) ?_
  refine rg_i (by omega) ?_
  refine hK 7 _ [vI p, vI ((2 * m) + s), vR 111 0] T ?_
  refine j_callV (y := yX11_slotOf) (Yc := zX11_slotOf) (rest := []) [vI ((2 * m) + s), vI p] (ct_X11_slotOf_e (T := T) (m := m) (s := s) (by omega) ⟨rfl, by omega, by omega⟩) cl_X11_378 (qd_c (by decide +kernel)) (nn_ _) rfl (rf_of rfl) (Nat.le_of_ble_eq_true rfl) (Nat.le_of_ble_eq_true rfl) (Nat.le_of_ble_eq_true rfl) rfl ?_
  rintro _ _ ⟨rfl, x1, rfl, hx1, hx1e⟩
  have hx1c := ab_c hx1e
  show J_ zX11_stands T (po_X11_stands_e T m s p w) 0 0 10 _ [vI x1] T
  refine j_blx (F := fX11) tb_X11 (nn_ _) bk_X11_stands_e_10 bs_X11_stands_e_10 hz (fun K hK => ?_)
  refine And.intro (fun c2 => ?_) (fun c2 => ?_)
  · refine hK 34 [some (vR 111 0), some (vI m), some (vI s), some (vI p), some (vI w), some (vI x1)] [] T ?_
    refine j_blx (F := fX11) tb_X11 (nn_ _) bk_X11_stands_e_34 bs_X11_stands_e_34 hz (fun K hK => ?_)
    refine (show po_X11_stands_e T m s p w T (some (vI 0)) from ?_)
    refine ⟨rfl, _, rfl, Or.inr ⟨rfl, fun y => ?_⟩⟩
    have z7 := y.1
    have z6 := y.2
    have z5 := slR_b (a := rp9_ T m) (s := s) (q := p)
    have z8 : rp9_ T m 472 (slR_ (rp9_ T m) s p) = T 241 0 x1 := rp_v (dm_472 (by omega)) rfl (by show 20 * m + slR_ (rp9_ T m) s p = _; omega)
    omega
  · refine ix_i (by omega) ?_
    intro b3 b3b
    refine And.intro (fun c4 => ?_) (fun c4 => ?_)
    · refine hK 34 _ [] T ?_
      refine j_blx (F := fX11) tb_X11 (nn_ _) bk_X11_stands_e_34 bs_X11_stands_e_34 hz (fun K hK => ?_)
      refine (show po_X11_stands_e T m s p w T (some (vI 0)) from ?_)
      refine ⟨rfl, _, rfl, Or.inr ⟨rfl, fun y => ?_⟩⟩
      have z7 := y.1
      have z6 := y.2
      have z5 := slR_b (a := rp9_ T m) (s := s) (q := p)
      have z8 : rp9_ T m 472 (slR_ (rp9_ T m) s p) = T 241 0 x1 := rp_v (dm_472 (by omega)) rfl (by show 20 * m + slR_ (rp9_ T m) s p = _; omega)
      omega
    · refine hK 35 _ [vI 1] T ?_
      refine j_blx (F := fX11) tb_X11 (nn_ _) bk_X11_stands_e_35 bs_X11_stands_e_35 hz (fun K hK => ?_)
      refine (show po_X11_stands_e T m s p w T (some (vI 1)) from ?_)
      have z8 : rp9_ T m 472 (slR_ (rp9_ T m) s p) = T 241 0 x1 := rp_v (dm_472 (by omega)) rfl (by show 20 * m + slR_ (rp9_ T m) s p = _; omega)
      exact ⟨rfl, _, rfl, Or.inl ⟨rfl, by rcases hx1 with z | z; exact absurd z.1 (by omega); exact z.2.2.1, by omega, by omega⟩⟩
abbrev po_X11_isKind_e (T : Zt) (sp k : Int) : Zt → Option Zv → Prop := fun T' r => T = T' ∧ ∃ x : Int, r = some (vI x) ∧ ((x = 1 ∧ ((sp = 0 ∧ 0 ≤ k ∧ k ≤ 5) ∨ (sp = 1 ∧ (k = 1 ∨ k = 5)) ∨ (sp = 2 ∧ (k = 1 ∨ k = 6)) ∨ (¬ sp = 0 ∧ ¬ sp = 1 ∧ ¬ sp = 2 ∧ 1 ≤ k ∧ k ≤ 4))) ∨ (x = 0 ∧ ¬ ((sp = 0 ∧ 0 ≤ k ∧ k ≤ 5) ∨ (sp = 1 ∧ (k = 1 ∨ k = 5)) ∨ (sp = 2 ∧ (k = 1 ∨ k = 6)) ∨ (¬ sp = 0 ∧ ¬ sp = 1 ∧ ¬ sp = 2 ∧ 1 ≤ k ∧ k ≤ 4))))
set_option maxHeartbeats 4000000 in
theorem ct_X11_isKind_e {T : Zt} {sp k : Int} : Ct_ yX11_isKind zX11_isKind T [vR 111 0, vI sp, vI k] (po_X11_isKind_e T sp k) := by
  refine ct_of pn_11 rfl rfl (Nat.le_of_ble_eq_true rfl) (fun hT hav => ?_)
  have hr_sp : -2147483648 ≤ sp ∧ sp ≤ 2147483647 := hav (vI sp) (List.mem_cons_of_mem _ List.mem_cons_self)
  have hr_k : -2147483648 ≤ k ∧ k ≤ 2147483647 := hav (vI k) (List.mem_cons_of_mem _ (List.mem_cons_of_mem _ List.mem_cons_self))
  have hz : zX11_isKind.2.2.2.1 = some .boolean → ∀ (T' : Zt) (x : Int), po_X11_isKind_e T sp k T' (some (vI x)) → 0 ≤ x ∧ x ≤ 1 := fun _ T' x h => by obtain ⟨-, y, e, hy⟩ := h; cases e; omega
  show J_ zX11_isKind T (po_X11_isKind_e T sp k) 0 0 0 [some (vR 111 0), some (vI sp), some (vI k)] [] T
  refine j_blx (F := fX11) tb_X11 (nn_ _) bk_X11_isKind_0 bs_X11_isKind_0 hz (fun K hK => ?_)
  refine hK 1 _ [vI sp] T ?_
  by_cases z1_0 : sp = 0
  · refine j_tsI (pc := 1) 0 (off := 27) (tgt := 28) (by decide) ds_X11_isKind_1 (by omega) (by decide) rfl (by decide) (by decide) ?_
    refine j_blx (F := fX11) tb_X11 (nn_ _) bk_X11_isKind_28 bs_X11_isKind_28 hz (fun K hK => ?_)
    refine hK 31 _ [vI 5, vI 0, vI k] T ?_
    refine j_callS (y := yX11_in) (Yc := zX11_in) (rest := []) [vI k, vI 0, vI 5] (ct_X11_in (T := T)) cl_X11_255 (qd_c (by decide +kernel)) (nn_ _) rfl (rf_of rfl) (Nat.le_of_ble_eq_true rfl) (Nat.le_of_ble_eq_true rfl) (Nat.le_of_ble_eq_true rfl) rfl ?_
    rintro _ _ ⟨rfl, x2, rfl, hx2⟩
    show J_ zX11_isKind T (po_X11_isKind_e T sp k) 0 0 34 _ [vI x2] T
    refine j_blx (F := fX11) tb_X11 (nn_ _) bk_X11_isKind_34 bs_X11_isKind_34 hz (fun K hK => ?_)
    refine (show po_X11_isKind_e T sp k T (some (vI x2)) from ?_)
    exact ⟨rfl, _, rfl, by omega⟩
  by_cases z1_1 : sp = 1
  · refine j_tsI (pc := 1) 1 (off := 34) (tgt := 35) (by decide) ds_X11_isKind_1 (by omega) (by decide) rfl (by decide) (by decide) ?_
    refine j_blx (F := fX11) tb_X11 (nn_ _) bk_X11_isKind_35 bs_X11_isKind_35 hz (fun K hK => ?_)
    refine And.intro (fun c3 => ?_) (fun c3 => ?_)
    · refine hK 45 _ [] T ?_
      refine j_blx (F := fX11) tb_X11 (nn_ _) bk_X11_isKind_45 bs_X11_isKind_45 hz (fun K hK => ?_)
      refine hK 50 _ [vI 1] T ?_
      refine j_blx (F := fX11) tb_X11 (nn_ _) bk_X11_isKind_50 bs_X11_isKind_50 hz (fun K hK => ?_)
      refine (show po_X11_isKind_e T sp k T (some (vI 1)) from ?_)
      exact ⟨rfl, _, rfl, Or.inl ⟨rfl, by omega⟩⟩
    · refine And.intro (fun c4 => ?_) (fun c4 => ?_)
      · refine hK 49 _ [] T ?_
        refine j_blx (F := fX11) tb_X11 (nn_ _) bk_X11_isKind_49 bs_X11_isKind_49 hz (fun K hK => ?_)
        refine (show po_X11_isKind_e T sp k T (some (vI 0)) from ?_)
        exact ⟨rfl, _, rfl, Or.inr ⟨rfl, by omega⟩⟩
      · refine hK 50 _ [vI 1] T ?_
        refine j_blx (F := fX11) tb_X11 (nn_ _) bk_X11_isKind_50 bs_X11_isKind_50 hz (fun K hK => ?_)
        refine (show po_X11_isKind_e T sp k T (some (vI 1)) from ?_)
        exact ⟨rfl, _, rfl, Or.inl ⟨rfl, by omega⟩⟩
  by_cases z1_2 : sp = 2
  · refine j_tsI (pc := 1) 2 (off := 50) (tgt := 51) (by decide) ds_X11_isKind_1 (by omega) (by decide) rfl (by decide) (by decide) ?_
    refine j_blx (F := fX11) tb_X11 (nn_ _) bk_X11_isKind_51 bs_X11_isKind_51 hz (fun K hK => ?_)
    refine And.intro (fun c5 => ?_) (fun c5 => ?_)
    · refine hK 62 _ [] T ?_
      refine j_blx (F := fX11) tb_X11 (nn_ _) bk_X11_isKind_62 bs_X11_isKind_62 hz (fun K hK => ?_)
      refine hK 67 _ [vI 1] T ?_
      refine j_blx (F := fX11) tb_X11 (nn_ _) bk_X11_isKind_67 bs_X11_isKind_67 hz (fun K hK => ?_)
      refine (show po_X11_isKind_e T sp k T (some (vI 1)) from ?_)
      exact ⟨rfl, _, rfl, Or.inl ⟨rfl, by omega⟩⟩
    · refine And.intro (fun c6 => ?_) (fun c6 => ?_)
      · refine hK 66 _ [] T ?_
        refine j_blx (F := fX11) tb_X11 (nn_ _) bk_X11_isKind_66 bs_X11_isKind_66 hz (fun K hK => ?_)
        refine (show po_X11_isKind_e T sp k T (some (vI 0)) from ?_)
        exact ⟨rfl, _, rfl, Or.inr ⟨rfl, by omega⟩⟩
      · refine hK 67 _ [vI 1] T ?_
        refine j_blx (F := fX11) tb_X11 (nn_ _) bk_X11_isKind_67 bs_X11_isKind_67 hz (fun K hK => ?_)
        refine (show po_X11_isKind_e T sp k T (some (vI 1)) from ?_)
        exact ⟨rfl, _, rfl, Or.inl ⟨rfl, by omega⟩⟩
  refine j_tsO (pc := 1) (tgt := 68) (by decide) ds_X11_isKind_1 (by omega) (by decide) (by decide) ?_
  refine j_blx (F := fX11) tb_X11 (nn_ _) bk_X11_isKind_68 bs_X11_isKind_68 hz (fun K hK => ?_)
  refine hK 71 _ [vI 4, vI 1, vI k] T ?_
  refine j_callS (y := yX11_in) (Yc := zX11_in) (rest := []) [vI k, vI 1, vI 4] (ct_X11_in (T := T)) cl_X11_255 (qd_c (by decide +kernel)) (nn_ _) rfl (rf_of rfl) (Nat.le_of_ble_eq_true rfl) (Nat.le_of_ble_eq_true rfl) (Nat.le_of_ble_eq_true rfl) rfl ?_
  rintro _ _ ⟨rfl, x7, rfl, hx7⟩
  show J_ zX11_isKind T (po_X11_isKind_e T sp k) 0 0 74 _ [vI x7] T
  refine j_blx (F := fX11) tb_X11 (nn_ _) bk_X11_isKind_74 bs_X11_isKind_74 hz (fun K hK => ?_)
  refine (show po_X11_isKind_e T sp k T (some (vI x7)) from ?_)
  exact ⟨rfl, _, rfl, by omega⟩
abbrev po_X11_isTold_e (T : Zt) (sp k s : Int) : Zt → Option Zv → Prop := fun T' r => T = T' ∧ ∃ x : Int, r = some (vI x) ∧ ((x = 1 ∧ (((sp = 0 ∧ 0 ≤ k ∧ k ≤ 5) ∨ (sp = 1 ∧ (k = 1 ∨ k = 5)) ∨ (sp = 2 ∧ (k = 1 ∨ k = 6)) ∨ (¬ sp = 0 ∧ ¬ sp = 1 ∧ ¬ sp = 2 ∧ 1 ≤ k ∧ k ≤ 4)) ∧ ((sp = 0 ∧ k = 0) ∨ (0 ≤ s ∧ s ≤ 1)))) ∨ (x = 0 ∧ ¬ (((sp = 0 ∧ 0 ≤ k ∧ k ≤ 5) ∨ (sp = 1 ∧ (k = 1 ∨ k = 5)) ∨ (sp = 2 ∧ (k = 1 ∨ k = 6)) ∨ (¬ sp = 0 ∧ ¬ sp = 1 ∧ ¬ sp = 2 ∧ 1 ≤ k ∧ k ≤ 4)) ∧ ((sp = 0 ∧ k = 0) ∨ (0 ≤ s ∧ s ≤ 1)))))
set_option maxHeartbeats 4000000 in
theorem ct_X11_isTold_e {T : Zt} {sp k s : Int} : Ct_ yX11_isTold zX11_isTold T [vR 111 0, vI sp, vI k, vI s] (po_X11_isTold_e T sp k s) := by
  refine ct_of pn_11 rfl rfl (Nat.le_of_ble_eq_true rfl) (fun hT hav => ?_)
  have hr_sp : -2147483648 ≤ sp ∧ sp ≤ 2147483647 := hav (vI sp) (List.mem_cons_of_mem _ List.mem_cons_self)
  have hr_k : -2147483648 ≤ k ∧ k ≤ 2147483647 := hav (vI k) (List.mem_cons_of_mem _ (List.mem_cons_of_mem _ List.mem_cons_self))
  have hr_s : -2147483648 ≤ s ∧ s ≤ 2147483647 := hav (vI s) (List.mem_cons_of_mem _ (List.mem_cons_of_mem _ (List.mem_cons_of_mem _ List.mem_cons_self)))
  have hz : zX11_isTold.2.2.2.1 = some .boolean → ∀ (T' : Zt) (x : Int), po_X11_isTold_e T sp k s T' (some (vI x)) → 0 ≤ x ∧ x ≤ 1 := fun _ T' x h => by obtain ⟨-, y, e, hy⟩ := h; cases e; omega
  show J_ zX11_isTold T (po_X11_isTold_e T sp k s) 0 0 0 [some (vR 111 0), some (vI sp), some (vI k), some (vI s)] [] T
  refine j_blx (F := fX11) tb_X11 (nn_ _) bk_X11_isTold_0 bs_X11_isTold_0 hz (fun K hK => ?_)
  refine hK 3 _ [vI k, vI sp, vR 111 0] T ?_
  refine j_callV (y := yX11_isKind) (Yc := zX11_isKind) (rest := []) [vI sp, vI k] (ct_X11_isKind_e (T := T)) cl_X11_394 (qd_c (by decide +kernel)) (nn_ _) rfl (rf_of rfl) (Nat.le_of_ble_eq_true rfl) (Nat.le_of_ble_eq_true rfl) (Nat.le_of_ble_eq_true rfl) rfl ?_
  rintro _ _ ⟨rfl, x1, rfl, hx1⟩
  show J_ zX11_isTold T (po_X11_isTold_e T sp k s) 0 0 6 _ [vI x1] T
  refine j_blx (F := fX11) tb_X11 (nn_ _) bk_X11_isTold_6 bs_X11_isTold_6 hz (fun K hK => ?_)
  refine And.intro (fun c2 => ?_) (fun c2 => ?_)
  · replace hx1 := hx1.resolve_left (fun z => absurd (c2.symm.trans z.1) (by decide))
    clear c2
    refine hK 30 _ [] T ?_
    refine j_blx (F := fX11) tb_X11 (nn_ _) bk_X11_isTold_30 bs_X11_isTold_30 hz (fun K hK => ?_)
    refine (show po_X11_isTold_e T sp k s T (some (vI 0)) from ?_)
    exact ⟨rfl, _, rfl, Or.inr ⟨rfl, by omega⟩⟩
  · replace hx1 := hx1.resolve_right (fun z => c2 z.1)
    clear c2
    refine And.intro (fun c3 => ?_) (fun c3 => ?_)
    · refine hK 17 _ [] T ?_
      refine j_blx (F := fX11) tb_X11 (nn_ _) bk_X11_isTold_17 bs_X11_isTold_17 hz (fun K hK => ?_)
      refine hK 20 _ [vI 1, vI 0, vI s] T ?_
      refine j_callS (y := yX11_in) (Yc := zX11_in) (rest := []) [vI s, vI 0, vI 1] (ct_X11_in (T := T)) cl_X11_255 (qd_c (by decide +kernel)) (nn_ _) rfl (rf_of rfl) (Nat.le_of_ble_eq_true rfl) (Nat.le_of_ble_eq_true rfl) (Nat.le_of_ble_eq_true rfl) rfl ?_
      rintro _ _ ⟨rfl, x4, rfl, hx4⟩
      show J_ zX11_isTold T (po_X11_isTold_e T sp k s) 0 0 23 _ [vI x4] T
      refine j_blx (F := fX11) tb_X11 (nn_ _) bk_X11_isTold_23 bs_X11_isTold_23 hz (fun K hK => ?_)
      refine And.intro (fun c5 => ?_) (fun c5 => ?_)
      · replace hx4 := hx4.resolve_left (fun z => absurd (c5.symm.trans z.1) (by decide))
        clear c5
        refine hK 30 _ [] T ?_
        refine j_blx (F := fX11) tb_X11 (nn_ _) bk_X11_isTold_30 bs_X11_isTold_30 hz (fun K hK => ?_)
        refine (show po_X11_isTold_e T sp k s T (some (vI 0)) from ?_)
        exact ⟨rfl, _, rfl, Or.inr ⟨rfl, by omega⟩⟩
      · replace hx4 := hx4.resolve_right (fun z => c5 z.1)
        clear c5
        refine hK 31 _ [vI 1] T ?_
        refine j_blx (F := fX11) tb_X11 (nn_ _) bk_X11_isTold_31 bs_X11_isTold_31 hz (fun K hK => ?_)
        refine (show po_X11_isTold_e T sp k s T (some (vI 1)) from ?_)
        exact ⟨rfl, _, rfl, Or.inl ⟨rfl, by omega⟩⟩
    · refine And.intro (fun c6 => ?_) (fun c6 => ?_)
      · refine hK 26 _ [] T ?_
        refine j_blx (F := fX11) tb_X11 (nn_ _) bk_X11_isTold_26 bs_X11_isTold_26 hz (fun K hK => ?_)
        refine hK 31 _ [vI 1] T ?_
        refine j_blx (F := fX11) tb_X11 (nn_ _) bk_X11_isTold_31 bs_X11_isTold_31 hz (fun K hK => ?_)
        refine (show po_X11_isTold_e T sp k s T (some (vI 1)) from ?_)
        exact ⟨rfl, _, rfl, Or.inl ⟨rfl, by omega⟩⟩
      · refine hK 20 _ [vI 1, vI 0, vI s] T ?_
        refine j_callS (y := yX11_in) (Yc := zX11_in) (rest := []) [vI s, vI 0, vI 1] (ct_X11_in (T := T)) cl_X11_255 (qd_c (by decide +kernel)) (nn_ _) rfl (rf_of rfl) (Nat.le_of_ble_eq_true rfl) (Nat.le_of_ble_eq_true rfl) (Nat.le_of_ble_eq_true rfl) rfl ?_
        rintro _ _ ⟨rfl, x7, rfl, hx7⟩
        show J_ zX11_isTold T (po_X11_isTold_e T sp k s) 0 0 23 _ [vI x7] T
        refine j_blx (F := fX11) tb_X11 (nn_ _) bk_X11_isTold_23 bs_X11_isTold_23 hz (fun K hK => ?_)
        refine And.intro (fun c8 => ?_) (fun c8 => ?_)
        · replace hx7 := hx7.resolve_left (fun z => absurd (c8.symm.trans z.1) (by decide))
          clear c8
          refine hK 30 _ [] T ?_
          refine j_blx (F := fX11) tb_X11 (nn_ _) bk_X11_isTold_30 bs_X11_isTold_30 hz (fun K hK => ?_)
          refine (show po_X11_isTold_e T sp k s T (some (vI 0)) from ?_)
          exact ⟨rfl, _, rfl, Or.inr ⟨rfl, by omega⟩⟩
        · replace hx7 := hx7.resolve_right (fun z => c8 z.1)
          clear c8
          refine hK 31 _ [vI 1] T ?_
          refine j_blx (F := fX11) tb_X11 (nn_ _) bk_X11_isTold_31 bs_X11_isTold_31 hz (fun K hK => ?_)
          refine (show po_X11_isTold_e T sp k s T (some (vI 1)) from ?_)
          exact ⟨rfl, _, rfl, Or.inl ⟨rfl, by omega⟩⟩
abbrev po_X11_isBounded_e (T : Zt) (sp k v : Int) : Zt → Option Zv → Prop := fun T' r => T = T' ∧ ∃ x : Int, r = some (vI x) ∧ ((x = 1 ∧ (sp ≠ 3 ∨ k ≠ 1 ∨ (1 ≤ v ∧ v ≤ 4))) ∨ (x = 0 ∧ ¬ (sp ≠ 3 ∨ k ≠ 1 ∨ (1 ≤ v ∧ v ≤ 4))))
set_option maxHeartbeats 4000000 in
theorem ct_X11_isBounded_e {T : Zt} {sp k v : Int} : Ct_ yX11_isBounded zX11_isBounded T [vI sp, vI k, vI v] (po_X11_isBounded_e T sp k v) := by
  refine ct_of pn_11 rfl rfl (Nat.le_of_ble_eq_true rfl) (fun hT hav => ?_)
  have hr_sp : -2147483648 ≤ sp ∧ sp ≤ 2147483647 := hav (vI sp) List.mem_cons_self
  have hr_k : -2147483648 ≤ k ∧ k ≤ 2147483647 := hav (vI k) (List.mem_cons_of_mem _ List.mem_cons_self)
  have hr_v : -2147483648 ≤ v ∧ v ≤ 2147483647 := hav (vI v) (List.mem_cons_of_mem _ (List.mem_cons_of_mem _ List.mem_cons_self))
  have hz : zX11_isBounded.2.2.2.1 = some .boolean → ∀ (T' : Zt) (x : Int), po_X11_isBounded_e T sp k v T' (some (vI x)) → 0 ≤ x ∧ x ≤ 1 := fun _ T' x h => by obtain ⟨-, y, e, hy⟩ := h; cases e; omega
  show J_ zX11_isBounded T (po_X11_isBounded_e T sp k v) 0 0 0 [some (vI sp), some (vI k), some (vI v)] [] T
  refine j_blx (F := fX11) tb_X11 (nn_ _) bk_X11_isBounded_0 bs_X11_isBounded_0 hz (fun K hK => ?_)
  refine And.intro (fun c1 => ?_) (fun c1 => ?_)
  · refine hK 19 _ [] T ?_
    refine j_blx (F := fX11) tb_X11 (nn_ _) bk_X11_isBounded_19 bs_X11_isBounded_19 hz (fun K hK => ?_)
    refine hK 24 _ [vI 1] T ?_
    refine j_blx (F := fX11) tb_X11 (nn_ _) bk_X11_isBounded_24 bs_X11_isBounded_24 hz (fun K hK => ?_)
    refine (show po_X11_isBounded_e T sp k v T (some (vI 1)) from ?_)
    exact ⟨rfl, _, rfl, Or.inl ⟨rfl, by omega⟩⟩
  · refine And.intro (fun c2 => ?_) (fun c2 => ?_)
    · refine hK 19 _ [] T ?_
      refine j_blx (F := fX11) tb_X11 (nn_ _) bk_X11_isBounded_19 bs_X11_isBounded_19 hz (fun K hK => ?_)
      refine hK 24 _ [vI 1] T ?_
      refine j_blx (F := fX11) tb_X11 (nn_ _) bk_X11_isBounded_24 bs_X11_isBounded_24 hz (fun K hK => ?_)
      refine (show po_X11_isBounded_e T sp k v T (some (vI 1)) from ?_)
      exact ⟨rfl, _, rfl, Or.inl ⟨rfl, by omega⟩⟩
    · refine hK 13 _ [vI 4, vI 1, vI v] T ?_
      refine j_callS (y := yX11_in) (Yc := zX11_in) (rest := []) [vI v, vI 1, vI 4] (ct_X11_in (T := T)) cl_X11_255 (qd_c (by decide +kernel)) (nn_ _) rfl (rf_of rfl) (Nat.le_of_ble_eq_true rfl) (Nat.le_of_ble_eq_true rfl) (Nat.le_of_ble_eq_true rfl) rfl ?_
      rintro _ _ ⟨rfl, x3, rfl, hx3⟩
      show J_ zX11_isBounded T (po_X11_isBounded_e T sp k v) 0 0 16 _ [vI x3] T
      refine j_blx (F := fX11) tb_X11 (nn_ _) bk_X11_isBounded_16 bs_X11_isBounded_16 hz (fun K hK => ?_)
      refine And.intro (fun c4 => ?_) (fun c4 => ?_)
      · replace hx3 := hx3.resolve_left (fun z => absurd (c4.symm.trans z.1) (by decide))
        clear c4
        refine hK 23 _ [] T ?_
        refine j_blx (F := fX11) tb_X11 (nn_ _) bk_X11_isBounded_23 bs_X11_isBounded_23 hz (fun K hK => ?_)
        refine (show po_X11_isBounded_e T sp k v T (some (vI 0)) from ?_)
        exact ⟨rfl, _, rfl, Or.inr ⟨rfl, by omega⟩⟩
      · replace hx3 := hx3.resolve_right (fun z => c4 z.1)
        clear c4
        refine hK 24 _ [vI 1] T ?_
        refine j_blx (F := fX11) tb_X11 (nn_ _) bk_X11_isBounded_24 bs_X11_isBounded_24 hz (fun K hK => ?_)
        refine (show po_X11_isBounded_e T sp k v T (some (vI 1)) from ?_)
        exact ⟨rfl, _, rfl, Or.inl ⟨rfl, by omega⟩⟩
theorem bk_X11_sendOff_e_27 : ck_ fX11 none cX11_sendOff 27 [.iload 6, .aload 0, .tableswitch 0 11 44 #[], .iload 4, .iaload, .if_icmp .ge 91, .aload 0, .tableswitch 0 11 45 #[], .iconst 6, .iload 4, .imul, .iload 6, .iadd, .iaload, .iload 3, .if_icmp .eq 85, .aload 0, .tableswitch 0 11 45 #[], .iconst 6, .iload 4, .imul, .iload 5, .iadd, .aload 0, .tableswitch 0 11 45 #[], .iconst 6, .iload 4, .imul, .iload 6, .iadd, .iaload, .iastore, .iinc 5 1, .iinc 6 1, .goto 27] 91 = true := qck_r (nn_ _) (by decide +kernel)
theorem bs_X11_sendOff_e_27 {P : Zt → Option Zv → Prop} (K : Int → Zl → List Zv → Zt → Prop) : sx_ K P [.iload 6, .aload 0, .tableswitch 0 11 44 #[], .iload 4, .iaload, .if_icmp .ge 91, .aload 0, .tableswitch 0 11 45 #[], .iconst 6, .iload 4, .imul, .iload 6, .iadd, .iaload, .iload 3, .if_icmp .eq 85, .aload 0, .tableswitch 0 11 45 #[], .iconst 6, .iload 4, .imul, .iload 5, .iadd, .aload 0, .tableswitch 0 11 45 #[], .iconst 6, .iload 4, .imul, .iload 6, .iadd, .iaload, .iastore, .iinc 5 1, .iinc 6 1, .goto 27] 91 = x_iload 6 (x_aload 0 (x_g1 111 244 (x_iload 4 (x_iaload (x_if_icmp .ge 91 K (x_aload 0 (x_g1 111 245 (x_iconst 6 (x_iload 4 (x_imul (x_iload 6 (x_iadd (x_iaload (x_iload 3 (x_if_icmp .eq 85 K (x_aload 0 (x_g1 111 245 (x_iconst 6 (x_iload 4 (x_imul (x_iload 5 (x_iadd (x_aload 0 (x_g1 111 245 (x_iconst 6 (x_iload 4 (x_imul (x_iload 6 (x_iadd (x_iaload (x_iastore (x_iinc 5 1 (x_iinc 6 1 (x_goto 27 K)))))))))))))))))))))))))))))))))) := ((xe_iload 6).trans (congrArg (x_iload 6) ((xe_aload 0).trans (congrArg (x_aload 0) ((xe_g1 (kk := 111) rfl tl_11_44).trans (congrArg (x_g1 111 244) ((xe_iload 4).trans (congrArg (x_iload 4) ((xe_iaload).trans (congrArg (x_iaload) ((xe_if_icmp .ge 91).trans (congrArg (x_if_icmp .ge 91 K) ((xe_aload 0).trans (congrArg (x_aload 0) ((xe_g1 (kk := 111) rfl tl_11_45).trans (congrArg (x_g1 111 245) ((xe_iconst 6).trans (congrArg (x_iconst 6) ((xe_iload 4).trans (congrArg (x_iload 4) ((xe_imul).trans (congrArg (x_imul) ((xe_iload 6).trans (congrArg (x_iload 6) ((xe_iadd).trans (congrArg (x_iadd) ((xe_iaload).trans (congrArg (x_iaload) ((xe_iload 3).trans (congrArg (x_iload 3) ((xe_if_icmp .eq 85).trans (congrArg (x_if_icmp .eq 85 K) ((xe_aload 0).trans (congrArg (x_aload 0) ((xe_g1 (kk := 111) rfl tl_11_45).trans (congrArg (x_g1 111 245) ((xe_iconst 6).trans (congrArg (x_iconst 6) ((xe_iload 4).trans (congrArg (x_iload 4) ((xe_imul).trans (congrArg (x_imul) ((xe_iload 5).trans (congrArg (x_iload 5) ((xe_iadd).trans (congrArg (x_iadd) ((xe_aload 0).trans (congrArg (x_aload 0) ((xe_g1 (kk := 111) rfl tl_11_45).trans (congrArg (x_g1 111 245) ((xe_iconst 6).trans (congrArg (x_iconst 6) ((xe_iload 4).trans (congrArg (x_iload 4) ((xe_imul).trans (congrArg (x_imul) ((xe_iload 6).trans (congrArg (x_iload 6) ((xe_iadd).trans (congrArg (x_iadd) ((xe_iaload).trans (congrArg (x_iaload) ((xe_iastore).trans (congrArg (x_iastore) ((xe_iinc 5 1).trans (congrArg (x_iinc 5 1) ((xe_iinc 6 1).trans (congrArg (x_iinc 6 1) (xe_goto 27)))))))))))))))))))))))))))))))))))))))))))))))))))))))))))))))))))))
theorem bk_X11_sendOff_e_91 : ck_ fX11 none cX11_sendOff 91 [.aload 0, .tableswitch 0 11 44 #[], .iload 4, .iload 5, .iastore, .iconst 2, .iload 5, .imul, .aload 0, .aload 0, .tableswitch 0 11 30 #[], .iload 1, .iaload, .iconst 9] 113 = true := qck_r (nn_ _) (by decide +kernel)
theorem bs_X11_sendOff_e_91 {P : Zt → Option Zv → Prop} (K : Int → Zl → List Zv → Zt → Prop) : sx_ K P [.aload 0, .tableswitch 0 11 44 #[], .iload 4, .iload 5, .iastore, .iconst 2, .iload 5, .imul, .aload 0, .aload 0, .tableswitch 0 11 30 #[], .iload 1, .iaload, .iconst 9] 113 = x_aload 0 (x_g1 111 244 (x_iload 4 (x_iload 5 (x_iastore (x_iconst 2 (x_iload 5 (x_imul (x_aload 0 (x_aload 0 (x_g1 111 230 (x_iload 1 (x_iaload (x_iconst 9 (K 113)))))))))))))) := ((xe_aload 0).trans (congrArg (x_aload 0) ((xe_g1 (kk := 111) rfl tl_11_44).trans (congrArg (x_g1 111 244) ((xe_iload 4).trans (congrArg (x_iload 4) ((xe_iload 5).trans (congrArg (x_iload 5) ((xe_iastore).trans (congrArg (x_iastore) ((xe_iconst 2).trans (congrArg (x_iconst 2) ((xe_iload 5).trans (congrArg (x_iload 5) ((xe_imul).trans (congrArg (x_imul) ((xe_aload 0).trans (congrArg (x_aload 0) ((xe_aload 0).trans (congrArg (x_aload 0) ((xe_g1 (kk := 111) rfl tl_11_30).trans (congrArg (x_g1 111 230) ((xe_iload 1).trans (congrArg (x_iload 1) ((xe_iaload).trans (congrArg (x_iaload) ((xe_iconst 9).trans (congrArg (x_iconst 9) xe_nil))))))))))))))))))))))))))))
theorem bk_X11_sendOff_e_116 : ck_ fX11 none cX11_sendOff 116 [.if_icmp .ge 178, .aload 0, .tableswitch 0 11 35 #[], .iload 1, .iconst 2, .iastore, .aload 0, .tableswitch 0 11 36 #[], .iload 1, .iload 2, .ifCond .ne 139, .iconst 0, .goto 151] 139 = true := qck_r (nn_ _) (by decide +kernel)
theorem bs_X11_sendOff_e_116 {P : Zt → Option Zv → Prop} (K : Int → Zl → List Zv → Zt → Prop) : sx_ K P [.if_icmp .ge 178, .aload 0, .tableswitch 0 11 35 #[], .iload 1, .iconst 2, .iastore, .aload 0, .tableswitch 0 11 36 #[], .iload 1, .iload 2, .ifCond .ne 139, .iconst 0, .goto 151] 139 = x_if_icmp .ge 178 K (x_aload 0 (x_g1 111 235 (x_iload 1 (x_iconst 2 (x_iastore (x_aload 0 (x_g1 111 236 (x_iload 1 (x_iload 2 (x_ifCond .ne 139 K (x_iconst 0 (x_goto 151 K)))))))))))) := ((xe_if_icmp .ge 178).trans (congrArg (x_if_icmp .ge 178 K) ((xe_aload 0).trans (congrArg (x_aload 0) ((xe_g1 (kk := 111) rfl tl_11_35).trans (congrArg (x_g1 111 235) ((xe_iload 1).trans (congrArg (x_iload 1) ((xe_iconst 2).trans (congrArg (x_iconst 2) ((xe_iastore).trans (congrArg (x_iastore) ((xe_aload 0).trans (congrArg (x_aload 0) ((xe_g1 (kk := 111) rfl tl_11_36).trans (congrArg (x_g1 111 236) ((xe_iload 1).trans (congrArg (x_iload 1) ((xe_iload 2).trans (congrArg (x_iload 2) ((xe_ifCond .ne 139).trans (congrArg (x_ifCond .ne 139 K) ((xe_iconst 0).trans (congrArg (x_iconst 0) (xe_goto 151)))))))))))))))))))))))))
theorem bk_X11_sendOff_e_178 : ck_ fX11 none cX11_sendOff 178 [.return_] 179 = true := qck_r (nn_ _) (by decide +kernel)
theorem bs_X11_sendOff_e_178 {P : Zt → Option Zv → Prop} (K : Int → Zl → List Zv → Zt → Prop) : sx_ K P [.return_] 179 = x_return_ P := (xe_return_)
theorem bk_X11_sendOff_e_139 : ck_ fX11 none cX11_sendOff 139 [.aload 0, .aload 0, .tableswitch 0 11 30 #[], .iload 1, .iaload, .iconst 12] 148 = true := qck_r (nn_ _) (by decide +kernel)
theorem bs_X11_sendOff_e_139 {P : Zt → Option Zv → Prop} (K : Int → Zl → List Zv → Zt → Prop) : sx_ K P [.aload 0, .aload 0, .tableswitch 0 11 30 #[], .iload 1, .iaload, .iconst 12] 148 = x_aload 0 (x_aload 0 (x_g1 111 230 (x_iload 1 (x_iaload (x_iconst 12 (K 148)))))) := ((xe_aload 0).trans (congrArg (x_aload 0) ((xe_aload 0).trans (congrArg (x_aload 0) ((xe_g1 (kk := 111) rfl tl_11_30).trans (congrArg (x_g1 111 230) ((xe_iload 1).trans (congrArg (x_iload 1) ((xe_iaload).trans (congrArg (x_iaload) ((xe_iconst 12).trans (congrArg (x_iconst 12) xe_nil))))))))))))
theorem bk_X11_sendOff_e_151 : ck_ fX11 none cX11_sendOff 151 [.iastore, .aload 0, .tableswitch 0 11 37 #[], .iload 1, .iload 2, .ifCond .ne 176, .aload 0, .aload 0, .tableswitch 0 11 30 #[], .iload 1, .iaload, .iconst 12] 170 = true := qck_r (nn_ _) (by decide +kernel)
theorem bs_X11_sendOff_e_151 {P : Zt → Option Zv → Prop} (K : Int → Zl → List Zv → Zt → Prop) : sx_ K P [.iastore, .aload 0, .tableswitch 0 11 37 #[], .iload 1, .iload 2, .ifCond .ne 176, .aload 0, .aload 0, .tableswitch 0 11 30 #[], .iload 1, .iaload, .iconst 12] 170 = x_iastore (x_aload 0 (x_g1 111 237 (x_iload 1 (x_iload 2 (x_ifCond .ne 176 K (x_aload 0 (x_aload 0 (x_g1 111 230 (x_iload 1 (x_iaload (x_iconst 12 (K 170)))))))))))) := ((xe_iastore).trans (congrArg (x_iastore) ((xe_aload 0).trans (congrArg (x_aload 0) ((xe_g1 (kk := 111) rfl tl_11_37).trans (congrArg (x_g1 111 237) ((xe_iload 1).trans (congrArg (x_iload 1) ((xe_iload 2).trans (congrArg (x_iload 2) ((xe_ifCond .ne 176).trans (congrArg (x_ifCond .ne 176 K) ((xe_aload 0).trans (congrArg (x_aload 0) ((xe_aload 0).trans (congrArg (x_aload 0) ((xe_g1 (kk := 111) rfl tl_11_30).trans (congrArg (x_g1 111 230) ((xe_iload 1).trans (congrArg (x_iload 1) ((xe_iaload).trans (congrArg (x_iaload) ((xe_iconst 12).trans (congrArg (x_iconst 12) xe_nil))))))))))))))))))))))))
theorem bk_X11_sendOff_e_176 : ck_ fX11 none cX11_sendOff 176 [.iconst 0, .iastore, .return_] 179 = true := qck_r (nn_ _) (by decide +kernel)
theorem bs_X11_sendOff_e_176 {P : Zt → Option Zv → Prop} (K : Int → Zl → List Zv → Zt → Prop) : sx_ K P [.iconst 0, .iastore, .return_] 179 = x_iconst 0 (x_iastore (x_return_ P)) := ((xe_iconst 0).trans (congrArg (x_iconst 0) ((xe_iastore).trans (congrArg (x_iastore) (xe_return_)))))
theorem bk_X11_sendOff_e_173 : ck_ fX11 none cX11_sendOff 173 [.goto 177] 176 = true := qck_r (nn_ _) (by decide +kernel)
theorem bs_X11_sendOff_e_173 {P : Zt → Option Zv → Prop} (K : Int → Zl → List Zv → Zt → Prop) : sx_ K P [.goto 177] 176 = x_goto 177 K := (xe_goto 177)
theorem bk_X11_sendOff_e_177 : ck_ fX11 none cX11_sendOff 177 [.iastore, .return_] 179 = true := qck_r (nn_ _) (by decide +kernel)
theorem bs_X11_sendOff_e_177 {P : Zt → Option Zv → Prop} (K : Int → Zl → List Zv → Zt → Prop) : sx_ K P [.iastore, .return_] 179 = x_iastore (x_return_ P) := ((xe_iastore).trans (congrArg (x_iastore) (xe_return_)))
theorem bk_X11_sendOff_e_85 : ck_ fX11 none cX11_sendOff 85 [.iinc 6 1, .goto 27] 91 = true := qck_r (nn_ _) (by decide +kernel)
theorem bs_X11_sendOff_e_85 {P : Zt → Option Zv → Prop} (K : Int → Zl → List Zv → Zt → Prop) : sx_ K P [.iinc 6 1, .goto 27] 91 = x_iinc 6 1 (x_goto 27 K) := ((xe_iinc 6 1).trans (congrArg (x_iinc 6 1) (xe_goto 27)))
theorem bk_X11_sendOff_e_0 : ck_ fX11 none cX11_sendOff 0 [.iconst 2, .iload 1, .imul, .iload 2, .iadd, .istore 4, .aload 0, .tableswitch 0 11 43 #[], .iload 3, .iconst 1, .bastore, .aload 0, .tableswitch 0 11 41 #[], .iload 3, .iconst 2, .iastore, .iconst 0, .istore 5, .iconst 0, .istore 6] 27 = true := qck_r (nn_ _) (by decide +kernel)
theorem bs_X11_sendOff_e_0 {P : Zt → Option Zv → Prop} (K : Int → Zl → List Zv → Zt → Prop) : sx_ K P [.iconst 2, .iload 1, .imul, .iload 2, .iadd, .istore 4, .aload 0, .tableswitch 0 11 43 #[], .iload 3, .iconst 1, .bastore, .aload 0, .tableswitch 0 11 41 #[], .iload 3, .iconst 2, .iastore, .iconst 0, .istore 5, .iconst 0, .istore 6] 27 = x_iconst 2 (x_iload 1 (x_imul (x_iload 2 (x_iadd (x_istore 4 (x_aload 0 (x_g1 111 243 (x_iload 3 (x_iconst 1 (x_bastore (x_aload 0 (x_g1 111 241 (x_iload 3 (x_iconst 2 (x_iastore (x_iconst 0 (x_istore 5 (x_iconst 0 (x_istore 6 (K 27)))))))))))))))))))) := ((xe_iconst 2).trans (congrArg (x_iconst 2) ((xe_iload 1).trans (congrArg (x_iload 1) ((xe_imul).trans (congrArg (x_imul) ((xe_iload 2).trans (congrArg (x_iload 2) ((xe_iadd).trans (congrArg (x_iadd) ((xe_istore 4).trans (congrArg (x_istore 4) ((xe_aload 0).trans (congrArg (x_aload 0) ((xe_g1 (kk := 111) rfl tl_11_43).trans (congrArg (x_g1 111 243) ((xe_iload 3).trans (congrArg (x_iload 3) ((xe_iconst 1).trans (congrArg (x_iconst 1) ((xe_bastore).trans (congrArg (x_bastore) ((xe_aload 0).trans (congrArg (x_aload 0) ((xe_g1 (kk := 111) rfl tl_11_41).trans (congrArg (x_g1 111 241) ((xe_iload 3).trans (congrArg (x_iload 3) ((xe_iconst 2).trans (congrArg (x_iconst 2) ((xe_iastore).trans (congrArg (x_iastore) ((xe_iconst 0).trans (congrArg (x_iconst 0) ((xe_istore 5).trans (congrArg (x_istore 5) ((xe_iconst 0).trans (congrArg (x_iconst 0) ((xe_istore 6).trans (congrArg (x_istore 6) xe_nil))))))))))))))))))))))))))))))))))))))))
abbrev po_X11_sendOff_e (T : Zt) (ru : Int → Int) (bu : Int) (m s sl : Int) : Zt → Option Zv → Prop := fun T' r => r = none ∧ fr_ [(243, []), (241, []), (245, []), (244, []), (235, []), (236, []), (237, [])] T T' ∧ (FM_ T' ∧ SO_ T T' m ∧ SB1_ T' m (bu) ∧ ro9_ T T' m ∧ rp9_ T' m = soR_ ru (rp9_ T m) m s sl)
set_option maxHeartbeats 4000000 in
theorem ct_X11_sendOff_e {T : Zt} {ru : Int → Int} {bu : Int} {m s sl : Int} (h1 : 0 ≤ m ∧ m < T 111 0 29) (hs : 0 ≤ s ∧ s ≤ 1) (h3 : 0 ≤ sl ∧ sl < 8000 ∧ 20 * m ≤ sl ∧ sl < 20 * m + 20) (hmc : MC_ T) (hri : RI_ T) (hfm : FM_ T) (hrl : RLR_ T m ru) (hbu : 9 ≤ bu) (hsb : SB1_ T m bu) : Ct_ yX11_sendOff zX11_sendOff T [vR 111 0, vI m, vI s, vI sl] (po_X11_sendOff_e T ru bu m s sl) := by
  refine ct_of pn_11 rfl rfl (Nat.le_of_ble_eq_true rfl) (fun hT hav => ?_)
  have hr_m : -2147483648 ≤ m ∧ m ≤ 2147483647 := hav (vI m) (List.mem_cons_of_mem _ List.mem_cons_self)
  have hr_s : -2147483648 ≤ s ∧ s ≤ 2147483647 := hav (vI s) (List.mem_cons_of_mem _ (List.mem_cons_of_mem _ List.mem_cons_self))
  have hr_sl : -2147483648 ≤ sl ∧ sl ≤ 2147483647 := hav (vI sl) (List.mem_cons_of_mem _ (List.mem_cons_of_mem _ (List.mem_cons_of_mem _ List.mem_cons_self)))
  have hz : zX11_sendOff.2.2.2.1 = some .boolean → ∀ (T' : Zt) (x : Int), po_X11_sendOff_e T ru bu m s sl T' (some (vI x)) → 0 ≤ x ∧ x ≤ 1 := fun h => by cases h
  have hb_29 : 0 ≤ T 111 0 29 ∧ T 111 0 29 ≤ 400 := bd_f hT 111 29 tl_11_29 0
  have hb_6 : 0 ≤ T 111 0 6 ∧ T 111 0 6 ≤ 4 := bd_f hT 111 6 tl_11_6 0
  have hcm := hmc m (by omega) (by omega)
  have hcb : 0 ≤ T 230 0 m ∧ T 230 0 m ≤ 3 := bd_a hT 230 (by decide +kernel : ta_ 230 = some (1, some 400, 0, 3)) 0 (by omega)
  have hr9 : (1 : Int) ≤ T 205 0 (23 * T 230 0 m + 9) ∧ T 205 0 (23 * T 230 0 m + 9) ≤ (6 : Int) := hri (T 230 0 m) 9 (by omega) (by omega) (by omega) (by omega)
  have hr12 : (1 : Int) ≤ T 205 0 (23 * T 230 0 m + 12) ∧ T 205 0 (23 * T 230 0 m + 12) ≤ (9 : Int) := hri (T 230 0 m) 12 (by omega) (by omega) (by omega) (by omega)
  have hfb : 0 ≤ T 244 0 (2 * m + s) ∧ T 244 0 (2 * m + s) ≤ 6 := bd_a hT 244 (by decide +kernel : ta_ 244 = some (1, some 800, 0, 6)) 0 (by omega)
  have hru12 := hrl 12 (by omega) (by omega)
  have hru9 := hrl 9 (by omega) (by omega)
  show J_ zX11_sendOff T (po_X11_sendOff_e T ru bu m s sl) 0 0 0 [some (vR 111 0), some (vI m), some (vI s), some (vI sl), none, none, none] [] T
  have c_27 : ∀ (nn : Nat) (kp : Int) (i : Int) (T1 : Zt), ((6 - i).toNat) ≤ nn → (fr_ [(243, []), (241, []), (245, [])] T T1) → (0 ≤ kp ∧ kp ≤ i ∧ i ≤ T 244 0 (2 * m + s)) → (ro9_ T T1 m) → (rp9_ T1 m = (cpR_ (u2_ (u2_ (rp9_ T m) 474 (sl - 20 * m) 1) 472 (sl - 20 * m) 2) s sl i.toNat).1) → (kp = (cpR_ (u2_ (u2_ (rp9_ T m) 474 (sl - 20 * m) 1) 472 (sl - 20 * m) 2) s sl i.toNat).2) → J_ zX11_sendOff T (po_X11_sendOff_e T ru bu m s sl) 0 0 27 [some (vR 111 0), some (vI m), some (vI s), some (vI sl), some (vI (2 * m + s)), some (vI kp), some (vI i)] [] T1 := by
    intro nn
    induction nn using Nat.strongRecOn with
    | _ nn ih_27 =>
      intro kp i T1 hm_27 hf_27 i1 ro1 rc rk
      replace hm_27 := fun (_ : Unit) => hm_27
      refine j_blx (F := fX11) tb_X11 (nn_ _) bk_X11_sendOff_e_27 bs_X11_sendOff_e_27 hz (fun K hK => ?_)
      refine ix_i (by omega) ?_
      intro b1 b1b
      have e2 : T1 244 0 (2 * m + s) = T 244 0 (2 * m + s) := hf_27 244 0 (2 * m + s) rfl
      rw [e2] at b1 b1b ⊢
      refine And.intro (fun c3 => ?_) (fun c3 => ?_)
      · refine hK 91 _ [] T1 ?_
        refine j_blx (F := fX11) tb_X11 (nn_ _) bk_X11_sendOff_e_91 bs_X11_sendOff_e_91 hz (fun K hK => ?_)
        refine iy_i (by omega) (by omega) ?_
        refine x_nm (fun U4 hU4 => ?_)
        have e5 := up_f hU4
        refine rg_i (by omega) ?_
        refine ix_i (by omega) ?_
        intro b6 b6b
        have e7 : U4 230 0 m = T 230 0 m := (up_k hU4 (by exact Nat.ne_of_beq_eq_false rfl) 0 m).trans (hf_27 230 0 m rfl)
        rw [e7] at b6 b6b ⊢
        refine hK 113 _ [vI 9, vI (T 230 0 m), vR 111 0, vI (2 * kp)] U4 ?_
        refine j_callV (y := yX11_rule0) (Yc := zX11_rule0) (rest := [vI (2 * kp)]) [vI (T 230 0 m), vI 9] (ct_X11_rule0 (T := U4) (by omega) (by omega)) cl_X11_321 (qd_c (by decide +kernel)) (nn_ _) rfl (rf_of rfl) (Nat.le_of_ble_eq_true rfl) (Nat.le_of_ble_eq_true rfl) (Nat.le_of_ble_eq_true rfl) rfl ?_
        rintro _ _ ⟨rfl, rfl⟩
        have e8 : U4 205 0 (23 * (T 230 0 m) + 9) = T 205 0 (23 * (T 230 0 m) + 9) := (up_k hU4 (by exact Nat.ne_of_beq_eq_false rfl) 0 (23 * (T 230 0 m) + 9)).trans (hf_27 205 0 (23 * (T 230 0 m) + 9) rfl)
        rw [e8]
        show J_ zX11_sendOff T (po_X11_sendOff_e T ru bu m s sl) 0 0 116 _ [vI (T 205 0 (23 * (T 230 0 m) + 9)), vI (2 * kp)] U4
        refine j_blx (F := fX11) tb_X11 (nn_ _) bk_X11_sendOff_e_116 bs_X11_sendOff_e_116 hz (fun K hK => ?_)
        refine And.intro (fun c9 => ?_) (fun c9 => ?_)
        · refine hK 178 _ [] U4 ?_
          refine j_blx (F := fX11) tb_X11 (nn_ _) bk_X11_sendOff_e_178 bs_X11_sendOff_e_178 hz (fun K hK => ?_)
          refine (show po_X11_sendOff_e T ru bu m s sl U4 (none) from ?_)
          have z470 : rp9_ T m 470 s = i := (rp_v (K := 244) (x := 2 * m + s) (dm_470 (by omega)) rfl rfl).trans (by omega)
          have rU4 : rp9_ U4 m = u2_ ((cpR_ (u2_ (u2_ (rp9_ T m) 474 (sl - 20 * m) 1) 472 (sl - 20 * m) 2) s sl i.toNat).1) 470 s kp := by rw [rp_u (m := m) (k := 470) (j := s) hU4 (dm_470 (by omega)) rfl (by show 2 * m + s = _; omega), rc]
          refine ⟨rfl, fr_u (fr_t (fr_0 _ _) (fr_s hf_27 rfl)) hU4 rfl, fm_f (FM__f (ws := [(243, []), (241, []), (245, [])]) (hfm) hf_27 ⟨fun _ => rfl, fun _ => rfl, trivial⟩) hU4 (by omega), so_f (ws := [(244, [])]) (so_f (ws := [(243, []), (241, []), (245, [])]) (so_r) hf_27 ⟨fun _ => rfl, fun _ => rfl, fun _ => rfl⟩) (fr_u (fr_0 _ _) hU4 rfl) ⟨fun _ => rfl, fun _ => rfl, fun _ => rfl⟩, sb1_f (ws := [(244, [])]) (sb1_f (ws := [(243, []), (241, []), (245, [])]) (hsb) hf_27 ⟨fun _ => rfl, fun _ => rfl, fun _ => rfl⟩) (fr_u (fr_0 _ _) hU4 rfl) ⟨fun _ => rfl, fun _ => rfl, fun _ => rfl⟩, ro_u (m := m) (k := 470) (j := s) (ro1) hU4 (dm_470 (by omega)) rfl (by show 2 * m + s = _; omega), ?_⟩
          exact Eq.trans rU4 (Eq.symm (by have g9 := soR__3 (r := ru) (a := rp9_ T m) (m := m) (s := s) (x := sl) (show ¬ (2 * (cpR_ (u2_ (u2_ (rp9_ T m) 474 (sl - 20 * m) 1) 472 (sl - 20 * m) 2) s sl ((rp9_ T m) 470 s).toNat).2 < ru 9) by (try simp only [← hru12, ← hru9, z470, ← rk]); omega); (try simp only [← hru12, ← hru9, z470, ← rk] at g9); exact g9))
        · refine iy_i (by omega) (by omega) ?_
          refine x_nm (fun U10 hU10 => ?_)
          have e11 := up_f hU10
          refine And.intro (fun c12 => ?_) (fun c12 => ?_)
          · refine hK 139 _ [vI m, vR 236 0] U10 ?_
            refine j_blx (F := fX11) tb_X11 (nn_ _) bk_X11_sendOff_e_139 bs_X11_sendOff_e_139 hz (fun K hK => ?_)
            refine ix_i (by omega) ?_
            intro b13 b13b
            have e14 : U10 230 0 m = T 230 0 m := (up_k hU10 (by exact Nat.ne_of_beq_eq_false rfl) 0 m).trans ((up_k hU4 (by exact Nat.ne_of_beq_eq_false rfl) 0 m).trans (hf_27 230 0 m rfl))
            rw [e14] at b13 b13b ⊢
            refine hK 148 _ [vI 12, vI (T 230 0 m), vR 111 0, vI m, vR 236 0] U10 ?_
            refine j_callV (y := yX11_rule0) (Yc := zX11_rule0) (rest := [vI m, vR 236 0]) [vI (T 230 0 m), vI 12] (ct_X11_rule0 (T := U10) (by omega) (by omega)) cl_X11_321 (qd_c (by decide +kernel)) (nn_ _) rfl (rf_of rfl) (Nat.le_of_ble_eq_true rfl) (Nat.le_of_ble_eq_true rfl) (Nat.le_of_ble_eq_true rfl) rfl ?_
            rintro _ _ ⟨rfl, rfl⟩
            have e15 : U10 205 0 (23 * (T 230 0 m) + 12) = T 205 0 (23 * (T 230 0 m) + 12) := (up_k hU10 (by exact Nat.ne_of_beq_eq_false rfl) 0 (23 * (T 230 0 m) + 12)).trans ((up_k hU4 (by exact Nat.ne_of_beq_eq_false rfl) 0 (23 * (T 230 0 m) + 12)).trans (hf_27 205 0 (23 * (T 230 0 m) + 12) rfl))
            rw [e15]
            show J_ zX11_sendOff T (po_X11_sendOff_e T ru bu m s sl) 0 0 151 _ [vI (T 205 0 (23 * (T 230 0 m) + 12)), vI m, vR 236 0] U10
            refine j_blx (F := fX11) tb_X11 (nn_ _) bk_X11_sendOff_e_151 bs_X11_sendOff_e_151 hz (fun K hK => ?_)
            refine iy_i (by omega) (by omega) ?_
            refine x_nm (fun U16 hU16 => ?_)
            have e17 := up_f hU16
            refine And.intro (fun c18 => ?_) (fun c18 => ?_)
            · refine hK 176 _ [vI m, vR 237 0] U16 ?_
              refine j_blx (F := fX11) tb_X11 (nn_ _) bk_X11_sendOff_e_176 bs_X11_sendOff_e_176 hz (fun K hK => ?_)
              refine iy_i (by omega) (by omega) ?_
              refine x_nm (fun U19 hU19 => ?_)
              have e20 := up_f hU19
              refine (show po_X11_sendOff_e T ru bu m s sl U19 (none) from ?_)
              have z470 : rp9_ T m 470 s = i := (rp_v (K := 244) (x := 2 * m + s) (dm_470 (by omega)) rfl rfl).trans (by omega)
              have rU4 : rp9_ U4 m = u2_ ((cpR_ (u2_ (u2_ (rp9_ T m) 474 (sl - 20 * m) 1) 472 (sl - 20 * m) 2) s sl i.toNat).1) 470 s kp := by rw [rp_u (m := m) (k := 470) (j := s) hU4 (dm_470 (by omega)) rfl (by show 2 * m + s = _; omega), rc]
              have rU10 : rp9_ U10 m = u2_ (u2_ ((cpR_ (u2_ (u2_ (rp9_ T m) 474 (sl - 20 * m) 1) 472 (sl - 20 * m) 2) s sl i.toNat).1) 470 s kp) 103 3 2 := by rw [rp_u (m := m) (k := 103) (j := 3) hU10 rfl rfl (by show m = _; omega), rU4]
              have rU16 : rp9_ U16 m = u2_ (u2_ (u2_ ((cpR_ (u2_ (u2_ (rp9_ T m) 474 (sl - 20 * m) 1) 472 (sl - 20 * m) 2) s sl i.toNat).1) 470 s kp) 103 3 2) 468 0 (T 205 0 (23 * (T 230 0 m) + 12)) := by rw [rp_u (m := m) (k := 468) (j := 0) hU16 rfl rfl (by show m = _; omega), rU10]
              have rU19 : rp9_ U19 m = u2_ (u2_ (u2_ (u2_ ((cpR_ (u2_ (u2_ (rp9_ T m) 474 (sl - 20 * m) 1) 472 (sl - 20 * m) 2) s sl i.toNat).1) 470 s kp) 103 3 2) 468 0 (T 205 0 (23 * (T 230 0 m) + 12))) 468 1 0 := by rw [rp_u (m := m) (k := 468) (j := 1) hU19 rfl rfl (by show m = _; omega), rU16]
              have e8 : U19 235 0 m = 2 := ((up_k hU19 (by exact Nat.ne_of_beq_eq_false rfl) 0 m).trans (up_k hU16 (by exact Nat.ne_of_beq_eq_false rfl) 0 m)).trans (up_f hU10)
              refine ⟨rfl, fr_u (fr_u (fr_u (fr_u (fr_t (fr_0 _ _) (fr_s hf_27 rfl)) hU4 rfl) hU10 rfl) hU16 rfl) hU19 rfl, fm_3 hfm hs (fun j hj => (up_k hU19 (by exact Nat.ne_of_beq_eq_false rfl) 0 j).trans ((up_k hU16 (by exact Nat.ne_of_beq_eq_false rfl) 0 j).trans ((up_g hU10 (fun z => hj z.2.2)).trans ((up_k hU4 (by exact Nat.ne_of_beq_eq_false rfl) 0 j).trans (hf_27 235 0 j rfl))))) (fun j hj => (up_k hU19 (by exact Nat.ne_of_beq_eq_false rfl) 0 j).trans ((up_k hU16 (by exact Nat.ne_of_beq_eq_false rfl) 0 j).trans ((up_k hU10 (by exact Nat.ne_of_beq_eq_false rfl) 0 j).trans ((up_g hU4 (fun z => hj z.2.2)).trans (hf_27 244 0 j rfl))))) (by omega), so_1 (so_0 (so_f (ws := [(235, [])]) (so_f (ws := [(244, [])]) (so_f (ws := [(243, []), (241, []), (245, [])]) (so_r) hf_27 ⟨fun _ => rfl, fun _ => rfl, fun _ => rfl⟩) (fr_u (fr_0 _ _) hU4 rfl) ⟨fun _ => rfl, fun _ => rfl, fun _ => rfl⟩) (fr_u (fr_0 _ _) hU10 rfl) ⟨fun _ => rfl, fun _ => rfl, fun _ => rfl⟩) hU16) hU19, sb1_1 (sb1_0 (sb1_f (ws := [(235, [])]) (sb1_f (ws := [(244, [])]) (sb1_f (ws := [(243, []), (241, []), (245, [])]) (hsb) hf_27 ⟨fun _ => rfl, fun _ => rfl, fun _ => rfl⟩) (fr_u (fr_0 _ _) hU4 rfl) ⟨fun _ => rfl, fun _ => rfl, fun _ => rfl⟩) (fr_u (fr_0 _ _) hU10 rfl) ⟨fun _ => rfl, fun _ => rfl, fun _ => rfl⟩) hU16 (by omega)) hU19 (by omega), ro_u (m := m) (k := 468) (j := 1) (ro_u (m := m) (k := 468) (j := 0) (ro_u (m := m) (k := 103) (j := 3) (ro_u (m := m) (k := 470) (j := s) (ro1) hU4 (dm_470 (by omega)) rfl (by show 2 * m + s = _; omega)) hU10 rfl rfl (by show m = _; omega)) hU16 rfl rfl (by show m = _; omega)) hU19 rfl rfl (by show m = _; omega), ?_⟩
              first
              | exact Eq.trans rU19 (Eq.symm (by have g9 := soR__1 (r := ru) (a := rp9_ T m) (m := m) (s := s) (x := sl) (show 2 * (cpR_ (u2_ (u2_ (rp9_ T m) 474 (sl - 20 * m) 1) 472 (sl - 20 * m) 2) s sl ((rp9_ T m) 470 s).toNat).2 < ru 9 by (try simp only [← hru12, ← hru9, z470, ← rk]); omega) (show s = 0 by (try simp only [← hru12, ← hru9, z470, ← rk]); omega); (try simp only [← hru12, ← hru9, z470, ← rk] at g9); exact g9))
              | exact Eq.trans rU19 (Eq.symm (by have g9 := soR__2 (r := ru) (a := rp9_ T m) (m := m) (s := s) (x := sl) (show 2 * (cpR_ (u2_ (u2_ (rp9_ T m) 474 (sl - 20 * m) 1) 472 (sl - 20 * m) 2) s sl ((rp9_ T m) 470 s).toNat).2 < ru 9 by (try simp only [← hru12, ← hru9, z470, ← rk]); omega) (show ¬ (s = 0) by (try simp only [← hru12, ← hru9, z470, ← rk]); omega); (try simp only [← hru12, ← hru9, z470, ← rk] at g9); exact g9))
              | (exfalso; omega)
            · refine ix_i (by omega) ?_
              intro b21 b21b
              have e22 : U16 230 0 m = T 230 0 m := (up_k hU16 (by exact Nat.ne_of_beq_eq_false rfl) 0 m).trans ((up_k hU10 (by exact Nat.ne_of_beq_eq_false rfl) 0 m).trans ((up_k hU4 (by exact Nat.ne_of_beq_eq_false rfl) 0 m).trans (hf_27 230 0 m rfl)))
              rw [e22] at b21 b21b ⊢
              refine hK 170 _ [vI 12, vI (T 230 0 m), vR 111 0, vI m, vR 237 0] U16 ?_
              refine j_callV (y := yX11_rule0) (Yc := zX11_rule0) (rest := [vI m, vR 237 0]) [vI (T 230 0 m), vI 12] (ct_X11_rule0 (T := U16) (by omega) (by omega)) cl_X11_321 (qd_c (by decide +kernel)) (nn_ _) rfl (rf_of rfl) (Nat.le_of_ble_eq_true rfl) (Nat.le_of_ble_eq_true rfl) (Nat.le_of_ble_eq_true rfl) rfl ?_
              rintro _ _ ⟨rfl, rfl⟩
              have e23 : U16 205 0 (23 * (T 230 0 m) + 12) = T 205 0 (23 * (T 230 0 m) + 12) := (up_k hU16 (by exact Nat.ne_of_beq_eq_false rfl) 0 (23 * (T 230 0 m) + 12)).trans ((up_k hU10 (by exact Nat.ne_of_beq_eq_false rfl) 0 (23 * (T 230 0 m) + 12)).trans ((up_k hU4 (by exact Nat.ne_of_beq_eq_false rfl) 0 (23 * (T 230 0 m) + 12)).trans (hf_27 205 0 (23 * (T 230 0 m) + 12) rfl)))
              rw [e23]
              show J_ zX11_sendOff T (po_X11_sendOff_e T ru bu m s sl) 0 0 173 _ [vI (T 205 0 (23 * (T 230 0 m) + 12)), vI m, vR 237 0] U16
              refine j_blx (F := fX11) tb_X11 (nn_ _) bk_X11_sendOff_e_173 bs_X11_sendOff_e_173 hz (fun K hK => ?_)
              refine hK 177 _ [vI (T 205 0 (23 * (T 230 0 m) + 12)), vI m, vR 237 0] U16 ?_
              refine j_blx (F := fX11) tb_X11 (nn_ _) bk_X11_sendOff_e_177 bs_X11_sendOff_e_177 hz (fun K hK => ?_)
              refine iy_i (by omega) (by omega) ?_
              refine x_nm (fun U24 hU24 => ?_)
              have e25 := up_f hU24
              refine (show po_X11_sendOff_e T ru bu m s sl U24 (none) from ?_)
              have z470 : rp9_ T m 470 s = i := (rp_v (K := 244) (x := 2 * m + s) (dm_470 (by omega)) rfl rfl).trans (by omega)
              have rU4 : rp9_ U4 m = u2_ ((cpR_ (u2_ (u2_ (rp9_ T m) 474 (sl - 20 * m) 1) 472 (sl - 20 * m) 2) s sl i.toNat).1) 470 s kp := by rw [rp_u (m := m) (k := 470) (j := s) hU4 (dm_470 (by omega)) rfl (by show 2 * m + s = _; omega), rc]
              have rU10 : rp9_ U10 m = u2_ (u2_ ((cpR_ (u2_ (u2_ (rp9_ T m) 474 (sl - 20 * m) 1) 472 (sl - 20 * m) 2) s sl i.toNat).1) 470 s kp) 103 3 2 := by rw [rp_u (m := m) (k := 103) (j := 3) hU10 rfl rfl (by show m = _; omega), rU4]
              have rU16 : rp9_ U16 m = u2_ (u2_ (u2_ ((cpR_ (u2_ (u2_ (rp9_ T m) 474 (sl - 20 * m) 1) 472 (sl - 20 * m) 2) s sl i.toNat).1) 470 s kp) 103 3 2) 468 0 (T 205 0 (23 * (T 230 0 m) + 12)) := by rw [rp_u (m := m) (k := 468) (j := 0) hU16 rfl rfl (by show m = _; omega), rU10]
              have rU24 : rp9_ U24 m = u2_ (u2_ (u2_ (u2_ ((cpR_ (u2_ (u2_ (rp9_ T m) 474 (sl - 20 * m) 1) 472 (sl - 20 * m) 2) s sl i.toNat).1) 470 s kp) 103 3 2) 468 0 (T 205 0 (23 * (T 230 0 m) + 12))) 468 1 (T 205 0 (23 * (T 230 0 m) + 12)) := by rw [rp_u (m := m) (k := 468) (j := 1) hU24 rfl rfl (by show m = _; omega), rU16]
              have e8 : U24 235 0 m = 2 := ((up_k hU24 (by exact Nat.ne_of_beq_eq_false rfl) 0 m).trans (up_k hU16 (by exact Nat.ne_of_beq_eq_false rfl) 0 m)).trans (up_f hU10)
              refine ⟨rfl, fr_u (fr_u (fr_u (fr_u (fr_t (fr_0 _ _) (fr_s hf_27 rfl)) hU4 rfl) hU10 rfl) hU16 rfl) hU24 rfl, fm_3 hfm hs (fun j hj => (up_k hU24 (by exact Nat.ne_of_beq_eq_false rfl) 0 j).trans ((up_k hU16 (by exact Nat.ne_of_beq_eq_false rfl) 0 j).trans ((up_g hU10 (fun z => hj z.2.2)).trans ((up_k hU4 (by exact Nat.ne_of_beq_eq_false rfl) 0 j).trans (hf_27 235 0 j rfl))))) (fun j hj => (up_k hU24 (by exact Nat.ne_of_beq_eq_false rfl) 0 j).trans ((up_k hU16 (by exact Nat.ne_of_beq_eq_false rfl) 0 j).trans ((up_k hU10 (by exact Nat.ne_of_beq_eq_false rfl) 0 j).trans ((up_g hU4 (fun z => hj z.2.2)).trans (hf_27 244 0 j rfl))))) (by omega), so_1 (so_0 (so_f (ws := [(235, [])]) (so_f (ws := [(244, [])]) (so_f (ws := [(243, []), (241, []), (245, [])]) (so_r) hf_27 ⟨fun _ => rfl, fun _ => rfl, fun _ => rfl⟩) (fr_u (fr_0 _ _) hU4 rfl) ⟨fun _ => rfl, fun _ => rfl, fun _ => rfl⟩) (fr_u (fr_0 _ _) hU10 rfl) ⟨fun _ => rfl, fun _ => rfl, fun _ => rfl⟩) hU16) hU24, sb1_1 (sb1_0 (sb1_f (ws := [(235, [])]) (sb1_f (ws := [(244, [])]) (sb1_f (ws := [(243, []), (241, []), (245, [])]) (hsb) hf_27 ⟨fun _ => rfl, fun _ => rfl, fun _ => rfl⟩) (fr_u (fr_0 _ _) hU4 rfl) ⟨fun _ => rfl, fun _ => rfl, fun _ => rfl⟩) (fr_u (fr_0 _ _) hU10 rfl) ⟨fun _ => rfl, fun _ => rfl, fun _ => rfl⟩) hU16 (by omega)) hU24 (by omega), ro_u (m := m) (k := 468) (j := 1) (ro_u (m := m) (k := 468) (j := 0) (ro_u (m := m) (k := 103) (j := 3) (ro_u (m := m) (k := 470) (j := s) (ro1) hU4 (dm_470 (by omega)) rfl (by show 2 * m + s = _; omega)) hU10 rfl rfl (by show m = _; omega)) hU16 rfl rfl (by show m = _; omega)) hU24 rfl rfl (by show m = _; omega), ?_⟩
              first
              | exact Eq.trans rU24 (Eq.symm (by have g9 := soR__1 (r := ru) (a := rp9_ T m) (m := m) (s := s) (x := sl) (show 2 * (cpR_ (u2_ (u2_ (rp9_ T m) 474 (sl - 20 * m) 1) 472 (sl - 20 * m) 2) s sl ((rp9_ T m) 470 s).toNat).2 < ru 9 by (try simp only [← hru12, ← hru9, z470, ← rk]); omega) (show s = 0 by (try simp only [← hru12, ← hru9, z470, ← rk]); omega); (try simp only [← hru12, ← hru9, z470, ← rk] at g9); exact g9))
              | exact Eq.trans rU24 (Eq.symm (by have g9 := soR__2 (r := ru) (a := rp9_ T m) (m := m) (s := s) (x := sl) (show 2 * (cpR_ (u2_ (u2_ (rp9_ T m) 474 (sl - 20 * m) 1) 472 (sl - 20 * m) 2) s sl ((rp9_ T m) 470 s).toNat).2 < ru 9 by (try simp only [← hru12, ← hru9, z470, ← rk]); omega) (show ¬ (s = 0) by (try simp only [← hru12, ← hru9, z470, ← rk]); omega); (try simp only [← hru12, ← hru9, z470, ← rk] at g9); exact g9))
              | (exfalso; omega)
          · refine hK 151 _ [vI 0, vI m, vR 236 0] U10 ?_
            refine j_blx (F := fX11) tb_X11 (nn_ _) bk_X11_sendOff_e_151 bs_X11_sendOff_e_151 hz (fun K hK => ?_)
            refine iy_i (by omega) (by omega) ?_
            refine x_nm (fun U26 hU26 => ?_)
            have e27 := up_f hU26
            refine And.intro (fun c28 => ?_) (fun c28 => ?_)
            · refine hK 176 _ [vI m, vR 237 0] U26 ?_
              refine j_blx (F := fX11) tb_X11 (nn_ _) bk_X11_sendOff_e_176 bs_X11_sendOff_e_176 hz (fun K hK => ?_)
              refine iy_i (by omega) (by omega) ?_
              refine x_nm (fun U29 hU29 => ?_)
              have e30 := up_f hU29
              refine (show po_X11_sendOff_e T ru bu m s sl U29 (none) from ?_)
              have z470 : rp9_ T m 470 s = i := (rp_v (K := 244) (x := 2 * m + s) (dm_470 (by omega)) rfl rfl).trans (by omega)
              have rU4 : rp9_ U4 m = u2_ ((cpR_ (u2_ (u2_ (rp9_ T m) 474 (sl - 20 * m) 1) 472 (sl - 20 * m) 2) s sl i.toNat).1) 470 s kp := by rw [rp_u (m := m) (k := 470) (j := s) hU4 (dm_470 (by omega)) rfl (by show 2 * m + s = _; omega), rc]
              have rU10 : rp9_ U10 m = u2_ (u2_ ((cpR_ (u2_ (u2_ (rp9_ T m) 474 (sl - 20 * m) 1) 472 (sl - 20 * m) 2) s sl i.toNat).1) 470 s kp) 103 3 2 := by rw [rp_u (m := m) (k := 103) (j := 3) hU10 rfl rfl (by show m = _; omega), rU4]
              have rU26 : rp9_ U26 m = u2_ (u2_ (u2_ ((cpR_ (u2_ (u2_ (rp9_ T m) 474 (sl - 20 * m) 1) 472 (sl - 20 * m) 2) s sl i.toNat).1) 470 s kp) 103 3 2) 468 0 0 := by rw [rp_u (m := m) (k := 468) (j := 0) hU26 rfl rfl (by show m = _; omega), rU10]
              have rU29 : rp9_ U29 m = u2_ (u2_ (u2_ (u2_ ((cpR_ (u2_ (u2_ (rp9_ T m) 474 (sl - 20 * m) 1) 472 (sl - 20 * m) 2) s sl i.toNat).1) 470 s kp) 103 3 2) 468 0 0) 468 1 0 := by rw [rp_u (m := m) (k := 468) (j := 1) hU29 rfl rfl (by show m = _; omega), rU26]
              have e8 : U29 235 0 m = 2 := ((up_k hU29 (by exact Nat.ne_of_beq_eq_false rfl) 0 m).trans (up_k hU26 (by exact Nat.ne_of_beq_eq_false rfl) 0 m)).trans (up_f hU10)
              refine ⟨rfl, fr_u (fr_u (fr_u (fr_u (fr_t (fr_0 _ _) (fr_s hf_27 rfl)) hU4 rfl) hU10 rfl) hU26 rfl) hU29 rfl, fm_3 hfm hs (fun j hj => (up_k hU29 (by exact Nat.ne_of_beq_eq_false rfl) 0 j).trans ((up_k hU26 (by exact Nat.ne_of_beq_eq_false rfl) 0 j).trans ((up_g hU10 (fun z => hj z.2.2)).trans ((up_k hU4 (by exact Nat.ne_of_beq_eq_false rfl) 0 j).trans (hf_27 235 0 j rfl))))) (fun j hj => (up_k hU29 (by exact Nat.ne_of_beq_eq_false rfl) 0 j).trans ((up_k hU26 (by exact Nat.ne_of_beq_eq_false rfl) 0 j).trans ((up_k hU10 (by exact Nat.ne_of_beq_eq_false rfl) 0 j).trans ((up_g hU4 (fun z => hj z.2.2)).trans (hf_27 244 0 j rfl))))) (by omega), so_1 (so_0 (so_f (ws := [(235, [])]) (so_f (ws := [(244, [])]) (so_f (ws := [(243, []), (241, []), (245, [])]) (so_r) hf_27 ⟨fun _ => rfl, fun _ => rfl, fun _ => rfl⟩) (fr_u (fr_0 _ _) hU4 rfl) ⟨fun _ => rfl, fun _ => rfl, fun _ => rfl⟩) (fr_u (fr_0 _ _) hU10 rfl) ⟨fun _ => rfl, fun _ => rfl, fun _ => rfl⟩) hU26) hU29, sb1_1 (sb1_0 (sb1_f (ws := [(235, [])]) (sb1_f (ws := [(244, [])]) (sb1_f (ws := [(243, []), (241, []), (245, [])]) (hsb) hf_27 ⟨fun _ => rfl, fun _ => rfl, fun _ => rfl⟩) (fr_u (fr_0 _ _) hU4 rfl) ⟨fun _ => rfl, fun _ => rfl, fun _ => rfl⟩) (fr_u (fr_0 _ _) hU10 rfl) ⟨fun _ => rfl, fun _ => rfl, fun _ => rfl⟩) hU26 (by omega)) hU29 (by omega), ro_u (m := m) (k := 468) (j := 1) (ro_u (m := m) (k := 468) (j := 0) (ro_u (m := m) (k := 103) (j := 3) (ro_u (m := m) (k := 470) (j := s) (ro1) hU4 (dm_470 (by omega)) rfl (by show 2 * m + s = _; omega)) hU10 rfl rfl (by show m = _; omega)) hU26 rfl rfl (by show m = _; omega)) hU29 rfl rfl (by show m = _; omega), ?_⟩
              first
              | exact Eq.trans rU29 (Eq.symm (by have g9 := soR__1 (r := ru) (a := rp9_ T m) (m := m) (s := s) (x := sl) (show 2 * (cpR_ (u2_ (u2_ (rp9_ T m) 474 (sl - 20 * m) 1) 472 (sl - 20 * m) 2) s sl ((rp9_ T m) 470 s).toNat).2 < ru 9 by (try simp only [← hru12, ← hru9, z470, ← rk]); omega) (show s = 0 by (try simp only [← hru12, ← hru9, z470, ← rk]); omega); (try simp only [← hru12, ← hru9, z470, ← rk] at g9); exact g9))
              | exact Eq.trans rU29 (Eq.symm (by have g9 := soR__2 (r := ru) (a := rp9_ T m) (m := m) (s := s) (x := sl) (show 2 * (cpR_ (u2_ (u2_ (rp9_ T m) 474 (sl - 20 * m) 1) 472 (sl - 20 * m) 2) s sl ((rp9_ T m) 470 s).toNat).2 < ru 9 by (try simp only [← hru12, ← hru9, z470, ← rk]); omega) (show ¬ (s = 0) by (try simp only [← hru12, ← hru9, z470, ← rk]); omega); (try simp only [← hru12, ← hru9, z470, ← rk] at g9); exact g9))
              | (exfalso; omega)
            · refine ix_i (by omega) ?_
              intro b31 b31b
              have e32 : U26 230 0 m = T 230 0 m := (up_k hU26 (by exact Nat.ne_of_beq_eq_false rfl) 0 m).trans ((up_k hU10 (by exact Nat.ne_of_beq_eq_false rfl) 0 m).trans ((up_k hU4 (by exact Nat.ne_of_beq_eq_false rfl) 0 m).trans (hf_27 230 0 m rfl)))
              rw [e32] at b31 b31b ⊢
              refine hK 170 _ [vI 12, vI (T 230 0 m), vR 111 0, vI m, vR 237 0] U26 ?_
              refine j_callV (y := yX11_rule0) (Yc := zX11_rule0) (rest := [vI m, vR 237 0]) [vI (T 230 0 m), vI 12] (ct_X11_rule0 (T := U26) (by omega) (by omega)) cl_X11_321 (qd_c (by decide +kernel)) (nn_ _) rfl (rf_of rfl) (Nat.le_of_ble_eq_true rfl) (Nat.le_of_ble_eq_true rfl) (Nat.le_of_ble_eq_true rfl) rfl ?_
              rintro _ _ ⟨rfl, rfl⟩
              have e33 : U26 205 0 (23 * (T 230 0 m) + 12) = T 205 0 (23 * (T 230 0 m) + 12) := (up_k hU26 (by exact Nat.ne_of_beq_eq_false rfl) 0 (23 * (T 230 0 m) + 12)).trans ((up_k hU10 (by exact Nat.ne_of_beq_eq_false rfl) 0 (23 * (T 230 0 m) + 12)).trans ((up_k hU4 (by exact Nat.ne_of_beq_eq_false rfl) 0 (23 * (T 230 0 m) + 12)).trans (hf_27 205 0 (23 * (T 230 0 m) + 12) rfl)))
              rw [e33]
              show J_ zX11_sendOff T (po_X11_sendOff_e T ru bu m s sl) 0 0 173 _ [vI (T 205 0 (23 * (T 230 0 m) + 12)), vI m, vR 237 0] U26
              refine j_blx (F := fX11) tb_X11 (nn_ _) bk_X11_sendOff_e_173 bs_X11_sendOff_e_173 hz (fun K hK => ?_)
              refine hK 177 _ [vI (T 205 0 (23 * (T 230 0 m) + 12)), vI m, vR 237 0] U26 ?_
              refine j_blx (F := fX11) tb_X11 (nn_ _) bk_X11_sendOff_e_177 bs_X11_sendOff_e_177 hz (fun K hK => ?_)
              refine iy_i (by omega) (by omega) ?_
              refine x_nm (fun U34 hU34 => ?_)
              have e35 := up_f hU34
              refine (show po_X11_sendOff_e T ru bu m s sl U34 (none) from ?_)
              have z470 : rp9_ T m 470 s = i := (rp_v (K := 244) (x := 2 * m + s) (dm_470 (by omega)) rfl rfl).trans (by omega)
              have rU4 : rp9_ U4 m = u2_ ((cpR_ (u2_ (u2_ (rp9_ T m) 474 (sl - 20 * m) 1) 472 (sl - 20 * m) 2) s sl i.toNat).1) 470 s kp := by rw [rp_u (m := m) (k := 470) (j := s) hU4 (dm_470 (by omega)) rfl (by show 2 * m + s = _; omega), rc]
              have rU10 : rp9_ U10 m = u2_ (u2_ ((cpR_ (u2_ (u2_ (rp9_ T m) 474 (sl - 20 * m) 1) 472 (sl - 20 * m) 2) s sl i.toNat).1) 470 s kp) 103 3 2 := by rw [rp_u (m := m) (k := 103) (j := 3) hU10 rfl rfl (by show m = _; omega), rU4]
              have rU26 : rp9_ U26 m = u2_ (u2_ (u2_ ((cpR_ (u2_ (u2_ (rp9_ T m) 474 (sl - 20 * m) 1) 472 (sl - 20 * m) 2) s sl i.toNat).1) 470 s kp) 103 3 2) 468 0 0 := by rw [rp_u (m := m) (k := 468) (j := 0) hU26 rfl rfl (by show m = _; omega), rU10]
              have rU34 : rp9_ U34 m = u2_ (u2_ (u2_ (u2_ ((cpR_ (u2_ (u2_ (rp9_ T m) 474 (sl - 20 * m) 1) 472 (sl - 20 * m) 2) s sl i.toNat).1) 470 s kp) 103 3 2) 468 0 0) 468 1 (T 205 0 (23 * (T 230 0 m) + 12)) := by rw [rp_u (m := m) (k := 468) (j := 1) hU34 rfl rfl (by show m = _; omega), rU26]
              have e8 : U34 235 0 m = 2 := ((up_k hU34 (by exact Nat.ne_of_beq_eq_false rfl) 0 m).trans (up_k hU26 (by exact Nat.ne_of_beq_eq_false rfl) 0 m)).trans (up_f hU10)
              refine ⟨rfl, fr_u (fr_u (fr_u (fr_u (fr_t (fr_0 _ _) (fr_s hf_27 rfl)) hU4 rfl) hU10 rfl) hU26 rfl) hU34 rfl, fm_3 hfm hs (fun j hj => (up_k hU34 (by exact Nat.ne_of_beq_eq_false rfl) 0 j).trans ((up_k hU26 (by exact Nat.ne_of_beq_eq_false rfl) 0 j).trans ((up_g hU10 (fun z => hj z.2.2)).trans ((up_k hU4 (by exact Nat.ne_of_beq_eq_false rfl) 0 j).trans (hf_27 235 0 j rfl))))) (fun j hj => (up_k hU34 (by exact Nat.ne_of_beq_eq_false rfl) 0 j).trans ((up_k hU26 (by exact Nat.ne_of_beq_eq_false rfl) 0 j).trans ((up_k hU10 (by exact Nat.ne_of_beq_eq_false rfl) 0 j).trans ((up_g hU4 (fun z => hj z.2.2)).trans (hf_27 244 0 j rfl))))) (by omega), so_1 (so_0 (so_f (ws := [(235, [])]) (so_f (ws := [(244, [])]) (so_f (ws := [(243, []), (241, []), (245, [])]) (so_r) hf_27 ⟨fun _ => rfl, fun _ => rfl, fun _ => rfl⟩) (fr_u (fr_0 _ _) hU4 rfl) ⟨fun _ => rfl, fun _ => rfl, fun _ => rfl⟩) (fr_u (fr_0 _ _) hU10 rfl) ⟨fun _ => rfl, fun _ => rfl, fun _ => rfl⟩) hU26) hU34, sb1_1 (sb1_0 (sb1_f (ws := [(235, [])]) (sb1_f (ws := [(244, [])]) (sb1_f (ws := [(243, []), (241, []), (245, [])]) (hsb) hf_27 ⟨fun _ => rfl, fun _ => rfl, fun _ => rfl⟩) (fr_u (fr_0 _ _) hU4 rfl) ⟨fun _ => rfl, fun _ => rfl, fun _ => rfl⟩) (fr_u (fr_0 _ _) hU10 rfl) ⟨fun _ => rfl, fun _ => rfl, fun _ => rfl⟩) hU26 (by omega)) hU34 (by omega), ro_u (m := m) (k := 468) (j := 1) (ro_u (m := m) (k := 468) (j := 0) (ro_u (m := m) (k := 103) (j := 3) (ro_u (m := m) (k := 470) (j := s) (ro1) hU4 (dm_470 (by omega)) rfl (by show 2 * m + s = _; omega)) hU10 rfl rfl (by show m = _; omega)) hU26 rfl rfl (by show m = _; omega)) hU34 rfl rfl (by show m = _; omega), ?_⟩
              first
              | exact Eq.trans rU34 (Eq.symm (by have g9 := soR__1 (r := ru) (a := rp9_ T m) (m := m) (s := s) (x := sl) (show 2 * (cpR_ (u2_ (u2_ (rp9_ T m) 474 (sl - 20 * m) 1) 472 (sl - 20 * m) 2) s sl ((rp9_ T m) 470 s).toNat).2 < ru 9 by (try simp only [← hru12, ← hru9, z470, ← rk]); omega) (show s = 0 by (try simp only [← hru12, ← hru9, z470, ← rk]); omega); (try simp only [← hru12, ← hru9, z470, ← rk] at g9); exact g9))
              | exact Eq.trans rU34 (Eq.symm (by have g9 := soR__2 (r := ru) (a := rp9_ T m) (m := m) (s := s) (x := sl) (show 2 * (cpR_ (u2_ (u2_ (rp9_ T m) 474 (sl - 20 * m) 1) 472 (sl - 20 * m) 2) s sl ((rp9_ T m) 470 s).toNat).2 < ru 9 by (try simp only [← hru12, ← hru9, z470, ← rk]); omega) (show ¬ (s = 0) by (try simp only [← hru12, ← hru9, z470, ← rk]); omega); (try simp only [← hru12, ← hru9, z470, ← rk] at g9); exact g9))
              | (exfalso; omega)
      · refine rg_i (by omega) ?_
        refine rg_i (by omega) ?_
        refine ix_i (by omega) ?_
        intro b36 b36b
        refine And.intro (fun c37 => ?_) (fun c37 => ?_)
        · refine hK 85 _ [] T1 ?_
          refine j_blx (F := fX11) tb_X11 (nn_ _) bk_X11_sendOff_e_85 bs_X11_sendOff_e_85 hz (fun K hK => ?_)
          refine rg_i (by omega) ?_
          refine hK 27 [some (vR 111 0), some (vI m), some (vI s), some (vI sl), some (vI (2 * m + s)), some (vI kp), some (vI (i + 1))] [] T1 ?_
          refine ih_27 _ ?_ kp (i + 1) T1 (Nat.le_refl _) ?_ ?_ ?_ ?_ ?_
          · have hm_27 := hm_27 (); omega
          · exact fr_t (fr_0 _ _) (fr_s hf_27 rfl)
          · omega
          · exact ro1
          · have z9 : (cpR_ (u2_ (u2_ (rp9_ T m) 474 (sl - 20 * m) 1) 472 (sl - 20 * m) 2) s sl i.toNat).1 471 (6 * s + ((i.toNat : Nat) : Int)) = T1 245 0 (6 * (2 * m + s) + i) := by
              rw [← rc, show ((i.toNat : Nat) : Int) = i by omega]
              exact rp_v (dm_471 (by omega)) rfl (by show 12 * m + (6 * s + i) = _; omega)
            rw [show (i + 1).toNat = i.toNat + 1 by omega]
            rw [cpR_t (z9.trans (by omega))]
            exact rc
          · have z9 : (cpR_ (u2_ (u2_ (rp9_ T m) 474 (sl - 20 * m) 1) 472 (sl - 20 * m) 2) s sl i.toNat).1 471 (6 * s + ((i.toNat : Nat) : Int)) = T1 245 0 (6 * (2 * m + s) + i) := by
              rw [← rc, show ((i.toNat : Nat) : Int) = i by omega]
              exact rp_v (dm_471 (by omega)) rfl (by show 12 * m + (6 * s + i) = _; omega)
            rw [show (i + 1).toNat = i.toNat + 1 by omega]
            rw [cpR_t (z9.trans (by omega))]
            exact rk
        · refine rg_i (by omega) ?_
          refine rg_i (by omega) ?_
          refine rg_i (by omega) ?_
          refine rg_i (by omega) ?_
          refine ix_i (by omega) ?_
          intro b38 b38b
          refine iy_i (by omega) (by omega) ?_
          refine x_nm (fun U39 hU39 => ?_)
          have e40 := up_f hU39
          refine rg_i (by omega) ?_
          refine rg_i (by omega) ?_
          refine hK 27 [some (vR 111 0), some (vI m), some (vI s), some (vI sl), some (vI (2 * m + s)), some (vI (kp + 1)), some (vI (i + 1))] [] U39 ?_
          refine ih_27 _ ?_ (kp + 1) (i + 1) U39 (Nat.le_refl _) ?_ ?_ ?_ ?_ ?_
          · have hm_27 := hm_27 (); omega
          · exact fr_u (fr_t (fr_0 _ _) (fr_s hf_27 rfl)) hU39 rfl
          · omega
          · exact ro_u (m := m) (k := 471) (j := 6 * s + kp) (ro1) hU39 (dm_471 (by omega)) rfl (by show 12 * m + (6 * s + kp) = _; omega)
          · have z9 : (cpR_ (u2_ (u2_ (rp9_ T m) 474 (sl - 20 * m) 1) 472 (sl - 20 * m) 2) s sl i.toNat).1 471 (6 * s + ((i.toNat : Nat) : Int)) = T1 245 0 (6 * (2 * m + s) + i) := by
              rw [← rc, show ((i.toNat : Nat) : Int) = i by omega]
              exact rp_v (dm_471 (by omega)) rfl (by show 12 * m + (6 * s + i) = _; omega)
            rw [show (i + 1).toNat = i.toNat + 1 by omega]
            rw [cpR_f (fun y => by omega)]
            show rp9_ U39 m = u2_ (cpR_ (u2_ (u2_ (rp9_ T m) 474 (sl - 20 * m) 1) 472 (sl - 20 * m) 2) s sl i.toNat).1 471 (6 * s + (cpR_ (u2_ (u2_ (rp9_ T m) 474 (sl - 20 * m) 1) 472 (sl - 20 * m) 2) s sl i.toNat).2) ((cpR_ (u2_ (u2_ (rp9_ T m) 474 (sl - 20 * m) 1) 472 (sl - 20 * m) 2) s sl i.toNat).1 471 (6 * s + ((i.toNat : Nat) : Int)))
            rw [z9, ← rk, ← rc]
            exact rp_u (m := m) (k := 471) (j := 6 * s + kp) hU39 (dm_471 (by omega)) rfl (by show 12 * m + (6 * s + kp) = _; omega)
          · have z9 : (cpR_ (u2_ (u2_ (rp9_ T m) 474 (sl - 20 * m) 1) 472 (sl - 20 * m) 2) s sl i.toNat).1 471 (6 * s + ((i.toNat : Nat) : Int)) = T1 245 0 (6 * (2 * m + s) + i) := by
              rw [← rc, show ((i.toNat : Nat) : Int) = i by omega]
              exact rp_v (dm_471 (by omega)) rfl (by show 12 * m + (6 * s + i) = _; omega)
            rw [show (i + 1).toNat = i.toNat + 1 by omega]
            rw [cpR_f (fun y => by omega)]
            show kp + 1 = (cpR_ (u2_ (u2_ (rp9_ T m) 474 (sl - 20 * m) 1) 472 (sl - 20 * m) 2) s sl i.toNat).2 + 1
            omega
  refine j_blx (F := fX11) tb_X11 (nn_ _) bk_X11_sendOff_e_0 bs_X11_sendOff_e_0 hz (fun K hK => ?_)
  refine rg_i (by omega) ?_
  refine rg_i (by omega) ?_
  refine iy_i (by omega) (by omega) ?_
  refine x_nm (fun U41 hU41 => ?_)
  have e42 := up_f hU41
  refine iy_i (by omega) (by omega) ?_
  refine x_nm (fun U43 hU43 => ?_)
  have e44 := up_f hU43
  refine hK 27 [some (vR 111 0), some (vI m), some (vI s), some (vI sl), some (vI ((2 * m) + s)), some (vI 0), some (vI 0)] [] U43 ?_
  refine c_27 _ 0 0 U43 (Nat.le_refl _) ?_ ?_ ?_ ?_ ?_
  · exact fr_u (fr_u (fr_0 _ _) hU41 rfl) hU43 rfl
  · omega
  · exact ro_u (m := m) (k := 472) (j := sl - 20 * m) (ro_u (m := m) (k := 474) (j := sl - 20 * m) (ro_r) hU41 (dm_474 (by omega)) rfl (by show 20 * m + (sl - 20 * m) = _; omega)) hU43 (dm_472 (by omega)) rfl (by show 20 * m + (sl - 20 * m) = _; omega)
  have rU41 : rp9_ U41 m = u2_ (rp9_ T m) 474 (sl - 20 * m) 1 := by rw [rp_u (m := m) (k := 474) (j := sl - 20 * m) hU41 (dm_474 (by omega)) rfl (by show 20 * m + (sl - 20 * m) = _; omega)]
  have rU43 : rp9_ U43 m = u2_ (u2_ (rp9_ T m) 474 (sl - 20 * m) 1) 472 (sl - 20 * m) 2 := by rw [rp_u (m := m) (k := 472) (j := sl - 20 * m) hU43 (dm_472 (by omega)) rfl (by show 20 * m + (sl - 20 * m) = _; omega), rU41]
  · exact rU43
  · rfl
theorem bk_X11_substitute_e_29 : ck_ fX11 none cX11_substitute 29 [.iload 8, .aload 0, .tableswitch 0 11 44 #[], .iload 5, .iaload, .if_icmp .ge 96, .aload 0, .tableswitch 0 11 45 #[], .iconst 6, .iload 5, .imul, .iload 8, .iadd, .aload 0, .tableswitch 0 11 45 #[], .iconst 6, .iload 5, .imul, .iload 8, .iadd, .iaload, .iload 6, .if_icmp .ne 76, .iload 7, .goto 89] 76 = true := qck_r (nn_ _) (by decide +kernel)
theorem bs_X11_substitute_e_29 {P : Zt → Option Zv → Prop} (K : Int → Zl → List Zv → Zt → Prop) : sx_ K P [.iload 8, .aload 0, .tableswitch 0 11 44 #[], .iload 5, .iaload, .if_icmp .ge 96, .aload 0, .tableswitch 0 11 45 #[], .iconst 6, .iload 5, .imul, .iload 8, .iadd, .aload 0, .tableswitch 0 11 45 #[], .iconst 6, .iload 5, .imul, .iload 8, .iadd, .iaload, .iload 6, .if_icmp .ne 76, .iload 7, .goto 89] 76 = x_iload 8 (x_aload 0 (x_g1 111 244 (x_iload 5 (x_iaload (x_if_icmp .ge 96 K (x_aload 0 (x_g1 111 245 (x_iconst 6 (x_iload 5 (x_imul (x_iload 8 (x_iadd (x_aload 0 (x_g1 111 245 (x_iconst 6 (x_iload 5 (x_imul (x_iload 8 (x_iadd (x_iaload (x_iload 6 (x_if_icmp .ne 76 K (x_iload 7 (x_goto 89 K)))))))))))))))))))))))) := ((xe_iload 8).trans (congrArg (x_iload 8) ((xe_aload 0).trans (congrArg (x_aload 0) ((xe_g1 (kk := 111) rfl tl_11_44).trans (congrArg (x_g1 111 244) ((xe_iload 5).trans (congrArg (x_iload 5) ((xe_iaload).trans (congrArg (x_iaload) ((xe_if_icmp .ge 96).trans (congrArg (x_if_icmp .ge 96 K) ((xe_aload 0).trans (congrArg (x_aload 0) ((xe_g1 (kk := 111) rfl tl_11_45).trans (congrArg (x_g1 111 245) ((xe_iconst 6).trans (congrArg (x_iconst 6) ((xe_iload 5).trans (congrArg (x_iload 5) ((xe_imul).trans (congrArg (x_imul) ((xe_iload 8).trans (congrArg (x_iload 8) ((xe_iadd).trans (congrArg (x_iadd) ((xe_aload 0).trans (congrArg (x_aload 0) ((xe_g1 (kk := 111) rfl tl_11_45).trans (congrArg (x_g1 111 245) ((xe_iconst 6).trans (congrArg (x_iconst 6) ((xe_iload 5).trans (congrArg (x_iload 5) ((xe_imul).trans (congrArg (x_imul) ((xe_iload 8).trans (congrArg (x_iload 8) ((xe_iadd).trans (congrArg (x_iadd) ((xe_iaload).trans (congrArg (x_iaload) ((xe_iload 6).trans (congrArg (x_iload 6) ((xe_if_icmp .ne 76).trans (congrArg (x_if_icmp .ne 76 K) ((xe_iload 7).trans (congrArg (x_iload 7) (xe_goto 89)))))))))))))))))))))))))))))))))))))))))))))))))
theorem bk_X11_substitute_e_96 : ck_ fX11 none cX11_substitute 96 [.aload 0, .tableswitch 0 11 41 #[], .iload 6, .iconst 2, .iastore, .aload 0, .tableswitch 0 11 41 #[], .iload 7, .iconst 1, .iastore, .aload 0, .iload 1, .iconst 6, .iload 2, .iadd, .aload 0, .iload 1, .iconst 6, .iload 2, .iadd] 124 = true := qck_r (nn_ _) (by decide +kernel)
theorem bs_X11_substitute_e_96 {P : Zt → Option Zv → Prop} (K : Int → Zl → List Zv → Zt → Prop) : sx_ K P [.aload 0, .tableswitch 0 11 41 #[], .iload 6, .iconst 2, .iastore, .aload 0, .tableswitch 0 11 41 #[], .iload 7, .iconst 1, .iastore, .aload 0, .iload 1, .iconst 6, .iload 2, .iadd, .aload 0, .iload 1, .iconst 6, .iload 2, .iadd] 124 = x_aload 0 (x_g1 111 241 (x_iload 6 (x_iconst 2 (x_iastore (x_aload 0 (x_g1 111 241 (x_iload 7 (x_iconst 1 (x_iastore (x_aload 0 (x_iload 1 (x_iconst 6 (x_iload 2 (x_iadd (x_aload 0 (x_iload 1 (x_iconst 6 (x_iload 2 (x_iadd (K 124)))))))))))))))))))) := ((xe_aload 0).trans (congrArg (x_aload 0) ((xe_g1 (kk := 111) rfl tl_11_41).trans (congrArg (x_g1 111 241) ((xe_iload 6).trans (congrArg (x_iload 6) ((xe_iconst 2).trans (congrArg (x_iconst 2) ((xe_iastore).trans (congrArg (x_iastore) ((xe_aload 0).trans (congrArg (x_aload 0) ((xe_g1 (kk := 111) rfl tl_11_41).trans (congrArg (x_g1 111 241) ((xe_iload 7).trans (congrArg (x_iload 7) ((xe_iconst 1).trans (congrArg (x_iconst 1) ((xe_iastore).trans (congrArg (x_iastore) ((xe_aload 0).trans (congrArg (x_aload 0) ((xe_iload 1).trans (congrArg (x_iload 1) ((xe_iconst 6).trans (congrArg (x_iconst 6) ((xe_iload 2).trans (congrArg (x_iload 2) ((xe_iadd).trans (congrArg (x_iadd) ((xe_aload 0).trans (congrArg (x_aload 0) ((xe_iload 1).trans (congrArg (x_iload 1) ((xe_iconst 6).trans (congrArg (x_iconst 6) ((xe_iload 2).trans (congrArg (x_iload 2) ((xe_iadd).trans (congrArg (x_iadd) xe_nil))))))))))))))))))))))))))))))))))))))))
theorem bk_X11_substitute_e_127 : ck_ fX11 none cX11_substitute 127 [.iconst 1, .fadd] 129 = true := qck_r (nn_ _) (by decide +kernel)
theorem bs_X11_substitute_e_127 {P : Zt → Option Zv → Prop} (K : Int → Zl → List Zv → Zt → Prop) : sx_ K P [.iconst 1, .fadd] 129 = x_iconst 1 (x_fadd (K 129)) := ((xe_iconst 1).trans (congrArg (x_iconst 1) ((xe_fadd).trans (congrArg (x_fadd) xe_nil))))
theorem bk_X11_substitute_e_132 : ck_ fX11 none cX11_substitute 132 [.return_] 133 = true := qck_r (nn_ _) (by decide +kernel)
theorem bs_X11_substitute_e_132 {P : Zt → Option Zv → Prop} (K : Int → Zl → List Zv → Zt → Prop) : sx_ K P [.return_] 133 = x_return_ P := (xe_return_)
theorem bk_X11_substitute_e_76 : ck_ fX11 none cX11_substitute 76 [.aload 0, .tableswitch 0 11 45 #[], .iconst 6, .iload 5, .imul, .iload 8, .iadd, .iaload, .iastore, .iinc 8 1, .goto 29] 96 = true := qck_r (nn_ _) (by decide +kernel)
theorem bs_X11_substitute_e_76 {P : Zt → Option Zv → Prop} (K : Int → Zl → List Zv → Zt → Prop) : sx_ K P [.aload 0, .tableswitch 0 11 45 #[], .iconst 6, .iload 5, .imul, .iload 8, .iadd, .iaload, .iastore, .iinc 8 1, .goto 29] 96 = x_aload 0 (x_g1 111 245 (x_iconst 6 (x_iload 5 (x_imul (x_iload 8 (x_iadd (x_iaload (x_iastore (x_iinc 8 1 (x_goto 29 K)))))))))) := ((xe_aload 0).trans (congrArg (x_aload 0) ((xe_g1 (kk := 111) rfl tl_11_45).trans (congrArg (x_g1 111 245) ((xe_iconst 6).trans (congrArg (x_iconst 6) ((xe_iload 5).trans (congrArg (x_iload 5) ((xe_imul).trans (congrArg (x_imul) ((xe_iload 8).trans (congrArg (x_iload 8) ((xe_iadd).trans (congrArg (x_iadd) ((xe_iaload).trans (congrArg (x_iaload) ((xe_iastore).trans (congrArg (x_iastore) ((xe_iinc 8 1).trans (congrArg (x_iinc 8 1) (xe_goto 29)))))))))))))))))))))
theorem bk_X11_substitute_e_89 : ck_ fX11 none cX11_substitute 89 [.iastore, .iinc 8 1, .goto 29] 96 = true := qck_r (nn_ _) (by decide +kernel)
theorem bs_X11_substitute_e_89 {P : Zt → Option Zv → Prop} (K : Int → Zl → List Zv → Zt → Prop) : sx_ K P [.iastore, .iinc 8 1, .goto 29] 96 = x_iastore (x_iinc 8 1 (x_goto 29 K)) := ((xe_iastore).trans (congrArg (x_iastore) ((xe_iinc 8 1).trans (congrArg (x_iinc 8 1) (xe_goto 29)))))
theorem bk_X11_substitute_e_0 : ck_ fX11 none cX11_substitute 0 [.iconst 2, .iload 1, .imul, .iload 2, .iadd, .istore 5, .aload 0, .iload 5, .iload 3] 11 = true := qck_r (nn_ _) (by decide +kernel)
theorem bs_X11_substitute_e_0 {P : Zt → Option Zv → Prop} (K : Int → Zl → List Zv → Zt → Prop) : sx_ K P [.iconst 2, .iload 1, .imul, .iload 2, .iadd, .istore 5, .aload 0, .iload 5, .iload 3] 11 = x_iconst 2 (x_iload 1 (x_imul (x_iload 2 (x_iadd (x_istore 5 (x_aload 0 (x_iload 5 (x_iload 3 (K 11))))))))) := ((xe_iconst 2).trans (congrArg (x_iconst 2) ((xe_iload 1).trans (congrArg (x_iload 1) ((xe_imul).trans (congrArg (x_imul) ((xe_iload 2).trans (congrArg (x_iload 2) ((xe_iadd).trans (congrArg (x_iadd) ((xe_istore 5).trans (congrArg (x_istore 5) ((xe_aload 0).trans (congrArg (x_aload 0) ((xe_iload 5).trans (congrArg (x_iload 5) ((xe_iload 3).trans (congrArg (x_iload 3) xe_nil))))))))))))))))))
theorem bk_X11_substitute_e_14 : ck_ fX11 none cX11_substitute 14 [.istore 6, .aload 0, .iload 5, .iload 4] 21 = true := qck_r (nn_ _) (by decide +kernel)
theorem bs_X11_substitute_e_14 {P : Zt → Option Zv → Prop} (K : Int → Zl → List Zv → Zt → Prop) : sx_ K P [.istore 6, .aload 0, .iload 5, .iload 4] 21 = x_istore 6 (x_aload 0 (x_iload 5 (x_iload 4 (K 21)))) := ((xe_istore 6).trans (congrArg (x_istore 6) ((xe_aload 0).trans (congrArg (x_aload 0) ((xe_iload 5).trans (congrArg (x_iload 5) ((xe_iload 4).trans (congrArg (x_iload 4) xe_nil))))))))
theorem bk_X11_substitute_e_24 : ck_ fX11 none cX11_substitute 24 [.istore 7, .iconst 0, .istore 8] 29 = true := qck_r (nn_ _) (by decide +kernel)
theorem bs_X11_substitute_e_24 {P : Zt → Option Zv → Prop} (K : Int → Zl → List Zv → Zt → Prop) : sx_ K P [.istore 7, .iconst 0, .istore 8] 29 = x_istore 7 (x_iconst 0 (x_istore 8 (K 29))) := ((xe_istore 7).trans (congrArg (x_istore 7) ((xe_iconst 0).trans (congrArg (x_iconst 0) ((xe_istore 8).trans (congrArg (x_istore 8) xe_nil))))))
abbrev po_X11_substitute_e (T : Zt) (m s p q : Int) : Zt → Option Zv → Prop := fun T' r => r = none ∧ fr_ [(245, []), (241, []), (246, [])] T T' ∧ (ro9_ T T' m ∧ rp9_ T' m = suR_ (rp9_ T m) m s p q)
set_option maxHeartbeats 4000000 in
theorem ct_X11_substitute_e {T : Zt} {m s p q : Int} (h1 : 0 ≤ m ∧ m < 400) (hs : 0 ≤ s ∧ s ≤ 1) (hs1 : SL_ T (2 * m + s) p) (hs2 : SL_ T (2 * m + s) q) : Ct_ yX11_substitute zX11_substitute T [vR 111 0, vI m, vI s, vI p, vI q] (po_X11_substitute_e T m s p q) := by
  refine ct_of pn_11 rfl rfl (Nat.le_of_ble_eq_true rfl) (fun hT hav => ?_)
  have hr_m : -2147483648 ≤ m ∧ m ≤ 2147483647 := hav (vI m) (List.mem_cons_of_mem _ List.mem_cons_self)
  have hr_s : -2147483648 ≤ s ∧ s ≤ 2147483647 := hav (vI s) (List.mem_cons_of_mem _ (List.mem_cons_of_mem _ List.mem_cons_self))
  have hr_p : -2147483648 ≤ p ∧ p ≤ 2147483647 := hav (vI p) (List.mem_cons_of_mem _ (List.mem_cons_of_mem _ (List.mem_cons_of_mem _ List.mem_cons_self)))
  have hr_q : -2147483648 ≤ q ∧ q ≤ 2147483647 := hav (vI q) (List.mem_cons_of_mem _ (List.mem_cons_of_mem _ (List.mem_cons_of_mem _ (List.mem_cons_of_mem _ List.mem_cons_self))))
  have hz : zX11_substitute.2.2.2.1 = some .boolean → ∀ (T' : Zt) (x : Int), po_X11_substitute_e T m s p q T' (some (vI x)) → 0 ≤ x ∧ x ≤ 1 := fun h => by cases h
  have hsb : 0 ≤ T 239 0 (2 * m + s) ∧ T 239 0 (2 * m + s) ≤ 10 := bd_a hT 239 (by decide +kernel : ta_ 239 = some (1, some 800, 0, 10)) 0 (by omega)
  have hfb : 0 ≤ T 244 0 (2 * m + s) ∧ T 244 0 (2 * m + s) ≤ 6 := bd_a hT 244 (by decide +kernel : ta_ 244 = some (1, some 800, 0, 6)) 0 (by omega)
  have z469_0 : rp9_ T m 469 s = T 246 0 (8 * m + (6 + s)) := rp_v (dm_469 (by omega)) rfl (by show 8 * m + 6 + s = _; omega)
  show J_ zX11_substitute T (po_X11_substitute_e T m s p q) 0 0 0 [some (vR 111 0), some (vI m), some (vI s), some (vI p), some (vI q), none, none, none, none] [] T
  have c_29 : ∀ (nn : Nat) (sa : Int) (sb : Int) (i : Int) (T1 : Zt), ((6 - i).toNat) ≤ nn → (fr_ [(245, [])] T T1) → (0 ≤ i ∧ 10 * (2 * m + s) ≤ sa ∧ sa < 10 * (2 * m + s) + 10 ∧ 10 * (2 * m + s) ≤ sb ∧ sb < 10 * (2 * m + s) + 10 ∧ i ≤ T 244 0 (2 * m + s)) → (sa = ab9_ m (slR_ (rp9_ T m) s p)) → (sb = ab9_ m (slR_ (rp9_ T m) s q)) → (ro9_ T T1 m) → (rp9_ T1 m = mpR_ (rp9_ T m) s sa sb i.toNat) → J_ zX11_substitute T (po_X11_substitute_e T m s p q) 0 0 29 [some (vR 111 0), some (vI m), some (vI s), some (vI p), some (vI q), some (vI (2 * m + s)), some (vI sa), some (vI sb), some (vI i)] [] T1 := by
    intro nn
    induction nn using Nat.strongRecOn with
    | _ nn ih_29 =>
      intro sa sb i T1 hm_29 hf_29 i1 ea eb ro1 rc
      replace hm_29 := fun (_ : Unit) => hm_29
      refine j_blx (F := fX11) tb_X11 (nn_ _) bk_X11_substitute_e_29 bs_X11_substitute_e_29 hz (fun K hK => ?_)
      refine ix_i (by omega) ?_
      intro b1 b1b
      have e2 : T1 244 0 (2 * m + s) = T 244 0 (2 * m + s) := hf_29 244 0 (2 * m + s) rfl
      rw [e2] at b1 b1b ⊢
      refine And.intro (fun c3 => ?_) (fun c3 => ?_)
      · refine hK 96 _ [] T1 ?_
        refine j_blx (F := fX11) tb_X11 (nn_ _) bk_X11_substitute_e_96 bs_X11_substitute_e_96 hz (fun K hK => ?_)
        refine iy_i (by omega) (by omega) ?_
        refine x_nm (fun U4 hU4 => ?_)
        have e5 := up_f hU4
        refine iy_i (by omega) (by omega) ?_
        refine x_nm (fun U6 hU6 => ?_)
        have e7 := up_f hU6
        refine rg_i (by omega) ?_
        refine rg_i (by omega) ?_
        refine hK 124 _ [vI (6 + s), vI m, vR 111 0, vI (6 + s), vI m, vR 111 0] U6 ?_
        refine j_callV (y := yX11_liveOf) (Yc := zX11_liveOf) (rest := [vI (6 + s), vI m, vR 111 0]) [vI m, vI (6 + s)] (ct_X11_liveOf (T := U6) (by omega) (by omega)) cl_X11_400 (qd_c (by decide +kernel)) (nn_ _) rfl (rf_of rfl) (Nat.le_of_ble_eq_true rfl) (Nat.le_of_ble_eq_true rfl) (Nat.le_of_ble_eq_true rfl) rfl ?_
        rintro _ _ ⟨rfl, rfl⟩
        have e8 : U6 246 0 (8 * m + (6 + s)) = T 246 0 (8 * m + (6 + s)) := (up_k hU6 (by exact Nat.ne_of_beq_eq_false rfl) 0 (8 * m + (6 + s))).trans ((up_k hU4 (by exact Nat.ne_of_beq_eq_false rfl) 0 (8 * m + (6 + s))).trans (hf_29 246 0 (8 * m + (6 + s)) rfl))
        rw [e8]
        show J_ zX11_substitute T (po_X11_substitute_e T m s p q) 0 0 127 _ [vI (T 246 0 (8 * m + (6 + s))), vI (6 + s), vI m, vR 111 0] U6
        refine j_blx (F := fX11) tb_X11 (nn_ _) bk_X11_substitute_e_127 bs_X11_substitute_e_127 hz (fun K hK => ?_)
        intro w9 w9b
        refine hK 129 _ [vI (wr_ ((T 246 0 (8 * m + (6 + s))) + 1)), vI (6 + s), vI m, vR 111 0] U6 ?_
        refine j_callV (y := yX11_setLive) (Yc := zX11_setLive) (rest := []) [vI m, vI (6 + s), vI (wr_ ((T 246 0 (8 * m + (6 + s))) + 1))] (ct_X11_setLive_e (T := U6) (by omega) (by omega)) cl_X11_410 (qd_c (by decide +kernel)) (nn_ _) rfl (rf_of rfl) (Nat.le_of_ble_eq_true rfl) (Nat.le_of_ble_eq_true rfl) (Nat.le_of_ble_eq_true rfl) rfl ?_
        rintro U10 _ ⟨rfl, hU10⟩
        show J_ zX11_substitute T (po_X11_substitute_e T m s p q) 0 0 132 _ [] U10
        refine j_blx (F := fX11) tb_X11 (nn_ _) bk_X11_substitute_e_132 bs_X11_substitute_e_132 hz (fun K hK => ?_)
        refine (show po_X11_substitute_e T m s p q U10 (none) from ?_)
        have z470 : rp9_ T m 470 s = i := (rp_v (K := 244) (x := 2 * m + s) (dm_470 (by omega)) rfl rfl).trans (by omega)
        have rU4 : rp9_ U4 m = u2_ (mpR_ (rp9_ T m) s sa sb i.toNat) 472 (sa - 20 * m) 2 := by rw [rp_u (m := m) (k := 472) (j := sa - 20 * m) hU4 (dm_472 (by omega)) rfl (by show 20 * m + (sa - 20 * m) = _; omega), rc]
        have rU6 : rp9_ U6 m = u2_ (u2_ (mpR_ (rp9_ T m) s sa sb i.toNat) 472 (sa - 20 * m) 2) 472 (sb - 20 * m) 1 := by rw [rp_u (m := m) (k := 472) (j := sb - 20 * m) hU6 (dm_472 (by omega)) rfl (by show 20 * m + (sb - 20 * m) = _; omega), rU4]
        have rU10 : rp9_ U10 m = u2_ (u2_ (u2_ (mpR_ (rp9_ T m) s sa sb i.toNat) 472 (sa - 20 * m) 2) 472 (sb - 20 * m) 1) 469 s (wr_ ((T 246 0 (8 * m + (6 + s))) + 1)) := by rw [rp_u (m := m) (k := 469) (j := s) hU10 (dm_469 (by omega)) rfl (by show 8 * m + 6 + s = _; omega), rU6]
        refine ⟨rfl, fr_u (fr_u (fr_u (fr_t (fr_0 _ _) (fr_s hf_29 rfl)) hU4 rfl) hU6 rfl) hU10 rfl, ro_u (m := m) (k := 469) (j := s) (ro_u (m := m) (k := 472) (j := sb - 20 * m) (ro_u (m := m) (k := 472) (j := sa - 20 * m) (ro1) hU4 (dm_472 (by omega)) rfl (by show 20 * m + (sa - 20 * m) = _; omega)) hU6 (dm_472 (by omega)) rfl (by show 20 * m + (sb - 20 * m) = _; omega)) hU10 (dm_469 (by omega)) rfl (by show 8 * m + 6 + s = _; omega), ?_⟩
        exact Eq.trans rU10 (Eq.symm (by have g9 := suR__1 (a := rp9_ T m) (m := m) (s := s) (q := p) (o := q); (try simp only [z469_0, z470, ← ea, ← eb] at g9); exact g9))
      · refine rg_i (by omega) ?_
        refine rg_i (by omega) ?_
        refine rg_i (by omega) ?_
        refine rg_i (by omega) ?_
        refine ix_i (by omega) ?_
        intro b11 b11b
        refine And.intro (fun c12 => ?_) (fun c12 => ?_)
        · refine hK 76 _ [vI ((6 * (2 * m + s)) + i), vR 245 0] T1 ?_
          refine j_blx (F := fX11) tb_X11 (nn_ _) bk_X11_substitute_e_76 bs_X11_substitute_e_76 hz (fun K hK => ?_)
          refine rg_i (by omega) ?_
          refine rg_i (by omega) ?_
          refine ix_i (by omega) ?_
          intro b13 b13b
          refine iy_i (by omega) (by omega) ?_
          refine x_nm (fun U14 hU14 => ?_)
          have e15 := up_f hU14
          refine rg_i (by omega) ?_
          refine hK 29 [some (vR 111 0), some (vI m), some (vI s), some (vI p), some (vI q), some (vI (2 * m + s)), some (vI sa), some (vI sb), some (vI (i + 1))] [] U14 ?_
          refine ih_29 _ ?_ sa sb (i + 1) U14 (Nat.le_refl _) ?_ ?_ ?_ ?_ ?_ ?_
          · have hm_29 := hm_29 (); omega
          · exact fr_u (fr_t (fr_0 _ _) (fr_s hf_29 rfl)) hU14 rfl
          · omega
          · exact ea
          · exact eb
          · exact ro_u (m := m) (k := 471) (j := 6 * s + i) (ro1) hU14 (dm_471 (by omega)) rfl (by show 12 * m + (6 * s + i) = _; omega)
          · have z9 : mpR_ (rp9_ T m) s sa sb i.toNat 471 (6 * s + ((i.toNat : Nat) : Int)) = T1 245 0 (6 * (2 * m + s) + i) := by
              rw [← rc, show ((i.toNat : Nat) : Int) = i by omega]
              exact rp_v (dm_471 (by omega)) rfl (by show 12 * m + (6 * s + i) = _; omega)
            rw [show (i + 1).toNat = i.toNat + 1 by omega]
            show rp9_ U14 m = u2_ (mpR_ (rp9_ T m) s sa sb i.toNat) 471 (6 * s + ((i.toNat : Nat) : Int)) (cz_ (mpR_ (rp9_ T m) s sa sb i.toNat 471 (6 * s + ((i.toNat : Nat) : Int)) = sa) sb (mpR_ (rp9_ T m) s sa sb i.toNat 471 (6 * s + ((i.toNat : Nat) : Int))))
            rw [z9, cz_f (by omega), ← rc, show ((i.toNat : Nat) : Int) = i by omega]
            exact rp_u (m := m) (k := 471) (j := 6 * s + i) hU14 (dm_471 (by omega)) rfl (by show 12 * m + (6 * s + i) = _; omega)
        · refine hK 89 [some (vR 111 0), some (vI m), some (vI s), some (vI p), some (vI q), some (vI (2 * m + s)), some (vI sa), some (vI sb), some (vI i)] [vI sb, vI ((6 * (2 * m + s)) + i), vR 245 0] T1 ?_
          refine j_blx (F := fX11) tb_X11 (nn_ _) bk_X11_substitute_e_89 bs_X11_substitute_e_89 hz (fun K hK => ?_)
          refine iy_i (by omega) (by omega) ?_
          refine x_nm (fun U16 hU16 => ?_)
          have e17 := up_f hU16
          refine rg_i (by omega) ?_
          refine hK 29 [some (vR 111 0), some (vI m), some (vI s), some (vI p), some (vI q), some (vI (2 * m + s)), some (vI sa), some (vI sb), some (vI (i + 1))] [] U16 ?_
          refine ih_29 _ ?_ sa sb (i + 1) U16 (Nat.le_refl _) ?_ ?_ ?_ ?_ ?_ ?_
          · have hm_29 := hm_29 (); omega
          · exact fr_u (fr_t (fr_0 _ _) (fr_s hf_29 rfl)) hU16 rfl
          · omega
          · exact ea
          · exact eb
          · exact ro_u (m := m) (k := 471) (j := 6 * s + i) (ro1) hU16 (dm_471 (by omega)) rfl (by show 12 * m + (6 * s + i) = _; omega)
          · have z9 : mpR_ (rp9_ T m) s sa sb i.toNat 471 (6 * s + ((i.toNat : Nat) : Int)) = T1 245 0 (6 * (2 * m + s) + i) := by
              rw [← rc, show ((i.toNat : Nat) : Int) = i by omega]
              exact rp_v (dm_471 (by omega)) rfl (by show 12 * m + (6 * s + i) = _; omega)
            rw [show (i + 1).toNat = i.toNat + 1 by omega]
            show rp9_ U16 m = u2_ (mpR_ (rp9_ T m) s sa sb i.toNat) 471 (6 * s + ((i.toNat : Nat) : Int)) (cz_ (mpR_ (rp9_ T m) s sa sb i.toNat 471 (6 * s + ((i.toNat : Nat) : Int)) = sa) sb (mpR_ (rp9_ T m) s sa sb i.toNat 471 (6 * s + ((i.toNat : Nat) : Int))))
            rw [z9, cz_t (by omega), ← rc, show ((i.toNat : Nat) : Int) = i by omega]
            exact rp_u (m := m) (k := 471) (j := 6 * s + i) hU16 (dm_471 (by omega)) rfl (by show 12 * m + (6 * s + i) = _; omega)
  refine j_blx (F := fX11) tb_X11 (nn_ _) bk_X11_substitute_e_0 bs_X11_substitute_e_0 hz (fun K hK => ?_)
  refine rg_i (by omega) ?_
  refine rg_i (by omega) ?_
  refine hK 11 [some (vR 111 0), some (vI m), some (vI s), some (vI p), some (vI q), some (vI ((2 * m) + s)), none, none, none] [vI p, vI ((2 * m) + s), vR 111 0] T ?_
  refine j_callV (y := yX11_slotOf) (Yc := zX11_slotOf) (rest := []) [vI ((2 * m) + s), vI p] (ct_X11_slotOf_e (T := T) (m := m) (s := s) (by omega) ⟨rfl, by omega, by omega⟩) cl_X11_378 (qd_c (by decide +kernel)) (nn_ _) rfl (rf_of rfl) (Nat.le_of_ble_eq_true rfl) (Nat.le_of_ble_eq_true rfl) (Nat.le_of_ble_eq_true rfl) rfl ?_
  rintro _ _ ⟨rfl, x18, rfl, hx18, hx18e⟩
  have hx18c := ab_c hx18e
  show J_ zX11_substitute T (po_X11_substitute_e T m s p q) 0 0 14 _ [vI x18] T
  refine j_blx (F := fX11) tb_X11 (nn_ _) bk_X11_substitute_e_14 bs_X11_substitute_e_14 hz (fun K hK => ?_)
  refine hK 21 [some (vR 111 0), some (vI m), some (vI s), some (vI p), some (vI q), some (vI ((2 * m) + s)), some (vI x18), none, none] [vI q, vI ((2 * m) + s), vR 111 0] T ?_
  refine j_callV (pc := 21) (y := yX11_slotOf) (Yc := zX11_slotOf) (rest := []) [vI ((2 * m) + s), vI q] (ct_X11_slotOf_e (T := T) (m := m) (s := s) (by omega) ⟨rfl, by omega, by omega⟩) cl_X11_378 (by show decode cX11_substitute (Int.toNat 21) = _; decide +kernel) (by decide) rfl rfl (Nat.le_of_ble_eq_true rfl) (by first | decide | (simp only [zX11_slotOf]; omega)) (by first | decide | (simp only [zX11_slotOf]; omega)) rfl ?_
  rintro _ _ ⟨rfl, x19, rfl, hx19, hx19e⟩
  have hx19c := ab_c hx19e
  show J_ zX11_substitute T (po_X11_substitute_e T m s p q) 0 0 24 _ [vI x19] T
  have y1 : 10 * (2 * m + s) ≤ x18 ∧ x18 < 10 * (2 * m + s) + 10 := by
    rcases hx18 with z | z
    · exact absurd hs1 z.2
    · exact ⟨z.1, z.2.1⟩
  have y2 : 10 * (2 * m + s) ≤ x19 ∧ x19 < 10 * (2 * m + s) + 10 := by
    rcases hx19 with z | z
    · exact absurd hs2 z.2
    · exact ⟨z.1, z.2.1⟩
  refine j_blx (F := fX11) tb_X11 (nn_ _) bk_X11_substitute_e_24 bs_X11_substitute_e_24 hz (fun K hK => ?_)
  refine hK 29 [some (vR 111 0), some (vI m), some (vI s), some (vI p), some (vI q), some (vI ((2 * m) + s)), some (vI x18), some (vI x19), some (vI 0)] [] T ?_
  refine c_29 _ x18 x19 0 T (Nat.le_refl _) ?_ ?_ ?_ ?_ ?_ ?_
  · exact fr_0 _ _
  · omega
  · exact hx18e
  · exact hx19e
  · exact ro_r
  · rfl
theorem bk_X11_rotate_e_20 : ck_ fX11 none cX11_rotate 20 [.iload 4, .iconst 1, .iadd, .iload 2, .if_icmp .ge 60, .aload 0, .tableswitch 0 11 45 #[], .iconst 6, .iload 1, .imul, .iload 4, .iadd, .aload 0, .tableswitch 0 11 45 #[], .iconst 6, .iload 1, .imul, .iload 4, .iadd, .iconst 1, .iadd, .iaload, .iastore, .iinc 4 1, .goto 20] 60 = true := qck_r (nn_ _) (by decide +kernel)
theorem bs_X11_rotate_e_20 {P : Zt → Option Zv → Prop} (K : Int → Zl → List Zv → Zt → Prop) : sx_ K P [.iload 4, .iconst 1, .iadd, .iload 2, .if_icmp .ge 60, .aload 0, .tableswitch 0 11 45 #[], .iconst 6, .iload 1, .imul, .iload 4, .iadd, .aload 0, .tableswitch 0 11 45 #[], .iconst 6, .iload 1, .imul, .iload 4, .iadd, .iconst 1, .iadd, .iaload, .iastore, .iinc 4 1, .goto 20] 60 = x_iload 4 (x_iconst 1 (x_iadd (x_iload 2 (x_if_icmp .ge 60 K (x_aload 0 (x_g1 111 245 (x_iconst 6 (x_iload 1 (x_imul (x_iload 4 (x_iadd (x_aload 0 (x_g1 111 245 (x_iconst 6 (x_iload 1 (x_imul (x_iload 4 (x_iadd (x_iconst 1 (x_iadd (x_iaload (x_iastore (x_iinc 4 1 (x_goto 20 K)))))))))))))))))))))))) := ((xe_iload 4).trans (congrArg (x_iload 4) ((xe_iconst 1).trans (congrArg (x_iconst 1) ((xe_iadd).trans (congrArg (x_iadd) ((xe_iload 2).trans (congrArg (x_iload 2) ((xe_if_icmp .ge 60).trans (congrArg (x_if_icmp .ge 60 K) ((xe_aload 0).trans (congrArg (x_aload 0) ((xe_g1 (kk := 111) rfl tl_11_45).trans (congrArg (x_g1 111 245) ((xe_iconst 6).trans (congrArg (x_iconst 6) ((xe_iload 1).trans (congrArg (x_iload 1) ((xe_imul).trans (congrArg (x_imul) ((xe_iload 4).trans (congrArg (x_iload 4) ((xe_iadd).trans (congrArg (x_iadd) ((xe_aload 0).trans (congrArg (x_aload 0) ((xe_g1 (kk := 111) rfl tl_11_45).trans (congrArg (x_g1 111 245) ((xe_iconst 6).trans (congrArg (x_iconst 6) ((xe_iload 1).trans (congrArg (x_iload 1) ((xe_imul).trans (congrArg (x_imul) ((xe_iload 4).trans (congrArg (x_iload 4) ((xe_iadd).trans (congrArg (x_iadd) ((xe_iconst 1).trans (congrArg (x_iconst 1) ((xe_iadd).trans (congrArg (x_iadd) ((xe_iaload).trans (congrArg (x_iaload) ((xe_iastore).trans (congrArg (x_iastore) ((xe_iinc 4 1).trans (congrArg (x_iinc 4 1) (xe_goto 20)))))))))))))))))))))))))))))))))))))))))))))))))
theorem bk_X11_rotate_e_60 : ck_ fX11 none cX11_rotate 60 [.aload 0, .tableswitch 0 11 45 #[], .iconst 6, .iload 1, .imul, .iload 2, .iadd, .iconst 1, .isub, .iload 3, .iastore, .return_] 75 = true := qck_r (nn_ _) (by decide +kernel)
theorem bs_X11_rotate_e_60 {P : Zt → Option Zv → Prop} (K : Int → Zl → List Zv → Zt → Prop) : sx_ K P [.aload 0, .tableswitch 0 11 45 #[], .iconst 6, .iload 1, .imul, .iload 2, .iadd, .iconst 1, .isub, .iload 3, .iastore, .return_] 75 = x_aload 0 (x_g1 111 245 (x_iconst 6 (x_iload 1 (x_imul (x_iload 2 (x_iadd (x_iconst 1 (x_isub (x_iload 3 (x_iastore (x_return_ P))))))))))) := ((xe_aload 0).trans (congrArg (x_aload 0) ((xe_g1 (kk := 111) rfl tl_11_45).trans (congrArg (x_g1 111 245) ((xe_iconst 6).trans (congrArg (x_iconst 6) ((xe_iload 1).trans (congrArg (x_iload 1) ((xe_imul).trans (congrArg (x_imul) ((xe_iload 2).trans (congrArg (x_iload 2) ((xe_iadd).trans (congrArg (x_iadd) ((xe_iconst 1).trans (congrArg (x_iconst 1) ((xe_isub).trans (congrArg (x_isub) ((xe_iload 3).trans (congrArg (x_iload 3) ((xe_iastore).trans (congrArg (x_iastore) (xe_return_)))))))))))))))))))))))
theorem bk_X11_rotate_e_0 : ck_ fX11 none cX11_rotate 0 [.aload 0, .tableswitch 0 11 44 #[], .iload 1, .iaload, .istore 2, .aload 0, .tableswitch 0 11 45 #[], .iconst 6, .iload 1, .imul, .iaload, .istore 3, .iconst 0, .istore 4] 20 = true := qck_r (nn_ _) (by decide +kernel)
theorem bs_X11_rotate_e_0 {P : Zt → Option Zv → Prop} (K : Int → Zl → List Zv → Zt → Prop) : sx_ K P [.aload 0, .tableswitch 0 11 44 #[], .iload 1, .iaload, .istore 2, .aload 0, .tableswitch 0 11 45 #[], .iconst 6, .iload 1, .imul, .iaload, .istore 3, .iconst 0, .istore 4] 20 = x_aload 0 (x_g1 111 244 (x_iload 1 (x_iaload (x_istore 2 (x_aload 0 (x_g1 111 245 (x_iconst 6 (x_iload 1 (x_imul (x_iaload (x_istore 3 (x_iconst 0 (x_istore 4 (K 20)))))))))))))) := ((xe_aload 0).trans (congrArg (x_aload 0) ((xe_g1 (kk := 111) rfl tl_11_44).trans (congrArg (x_g1 111 244) ((xe_iload 1).trans (congrArg (x_iload 1) ((xe_iaload).trans (congrArg (x_iaload) ((xe_istore 2).trans (congrArg (x_istore 2) ((xe_aload 0).trans (congrArg (x_aload 0) ((xe_g1 (kk := 111) rfl tl_11_45).trans (congrArg (x_g1 111 245) ((xe_iconst 6).trans (congrArg (x_iconst 6) ((xe_iload 1).trans (congrArg (x_iload 1) ((xe_imul).trans (congrArg (x_imul) ((xe_iaload).trans (congrArg (x_iaload) ((xe_istore 3).trans (congrArg (x_istore 3) ((xe_iconst 0).trans (congrArg (x_iconst 0) ((xe_istore 4).trans (congrArg (x_istore 4) xe_nil))))))))))))))))))))))))))))
abbrev po_X11_rotate_e (T : Zt) (m : Int) (s : Int) (sh : Int) : Zt → Option Zv → Prop := fun T' r => r = none ∧ fr_ [(245, [])] T T' ∧ (ro9_ T T' m ∧ rp9_ T' m = rtR_ (rp9_ T m) s)
set_option maxHeartbeats 4000000 in
theorem ct_X11_rotate_e {T : Zt} {m : Int} {s : Int} {sh : Int} (h1 : 0 ≤ sh ∧ sh < 800) (h2 : 1 ≤ T 244 0 sh) (hsh : sh = 2 * m + s ∧ 0 ≤ s ∧ s ≤ 1) : Ct_ yX11_rotate zX11_rotate T [vR 111 0, vI sh] (po_X11_rotate_e T m s sh) := by
  refine ct_of pn_11 rfl rfl (Nat.le_of_ble_eq_true rfl) (fun hT hav => ?_)
  have hr_sh : -2147483648 ≤ sh ∧ sh ≤ 2147483647 := hav (vI sh) (List.mem_cons_of_mem _ List.mem_cons_self)
  have hz : zX11_rotate.2.2.2.1 = some .boolean → ∀ (T' : Zt) (x : Int), po_X11_rotate_e T m s sh T' (some (vI x)) → 0 ≤ x ∧ x ≤ 1 := fun h => by cases h
  have hfb : 0 ≤ T 244 0 sh ∧ T 244 0 sh ≤ 6 := bd_a hT 244 (by decide +kernel : ta_ 244 = some (1, some 800, 0, 6)) 0 (by omega)
  have hsb : 0 ≤ T 245 0 (6 * sh) ∧ T 245 0 (6 * sh) ≤ 7999 := bd_a hT 245 (by decide +kernel : ta_ 245 = some (1, some 4800, 0, 7999)) 0 (by omega)
  show J_ zX11_rotate T (po_X11_rotate_e T m s sh) 0 0 0 [some (vR 111 0), some (vI sh), none, none, none] [] T
  have c_20 : ∀ (nn : Nat) (i : Int) (T1 : Zt), ((6 - i).toNat) ≤ nn → (fr_ [(245, [])] T T1) → (0 ≤ i ∧ i + 1 ≤ T 244 0 sh) → (ro9_ T T1 m) → (rp9_ T1 m = shR_ (rp9_ T m) s i.toNat) → J_ zX11_rotate T (po_X11_rotate_e T m s sh) 0 0 20 [some (vR 111 0), some (vI sh), some (vI (T 244 0 sh)), some (vI (T 245 0 (6 * sh))), some (vI i)] [] T1 := by
    intro nn
    induction nn using Nat.strongRecOn with
    | _ nn ih_20 =>
      intro i T1 hm_20 hf_20 i1 ro1 rc
      replace hm_20 := fun (_ : Unit) => hm_20
      refine j_blx (F := fX11) tb_X11 (nn_ _) bk_X11_rotate_e_20 bs_X11_rotate_e_20 hz (fun K hK => ?_)
      refine rg_i (by omega) ?_
      refine And.intro (fun c1 => ?_) (fun c1 => ?_)
      · refine hK 60 _ [] T1 ?_
        refine j_blx (F := fX11) tb_X11 (nn_ _) bk_X11_rotate_e_60 bs_X11_rotate_e_60 hz (fun K hK => ?_)
        refine rg_i (by omega) ?_
        refine rg_i (by omega) ?_
        refine rg_i (by omega) ?_
        refine iy_i (by omega) (by omega) ?_
        refine x_nm (fun U2 hU2 => ?_)
        have e3 := up_f hU2
        refine (show po_X11_rotate_e T m s sh U2 (none) from ?_)
        have z470 : rp9_ T m 470 s = T 244 0 sh := rp_v (dm_470 (by omega)) rfl (by show 2 * m + s = _; omega)
        have z471 : rp9_ T m 471 (6 * s) = T 245 0 (6 * sh) := rp_v (dm_471 (by omega)) rfl (by show 12 * m + 6 * s = _; omega)
        have ei : T 244 0 sh - 1 = i := by omega
        have r9 := rp_u (m := m) (k := 471) (j := 6 * s + T 244 0 sh - 1) hU2 (dm_471 (by omega)) rfl (by show 12 * m + (6 * s + T 244 0 sh - 1) = _; omega)
        rw [rc] at r9
        refine ⟨rfl, fr_u (fr_t (fr_0 _ _) (fr_s hf_20 rfl)) hU2 rfl, ro_u (m := m) (k := 471) (j := 6 * s + T 244 0 sh - 1) (ro1) hU2 (dm_471 (by omega)) rfl (by show 12 * m + (6 * s + T 244 0 sh - 1) = _; omega), ?_⟩
        show rp9_ U2 m = u2_ (shR_ (rp9_ T m) s (rp9_ T m 470 s - 1).toNat) 471 (6 * s + rp9_ T m 470 s - 1) (rp9_ T m 471 (6 * s))
        rw [z470, z471, ei]
        exact r9
      · refine rg_i (by omega) ?_
        refine rg_i (by omega) ?_
        refine rg_i (by omega) ?_
        refine rg_i (by omega) ?_
        refine rg_i (by omega) ?_
        refine ix_i (by omega) ?_
        intro b4 b4b
        refine iy_i (by omega) (by omega) ?_
        refine x_nm (fun U5 hU5 => ?_)
        have e6 := up_f hU5
        refine rg_i (by omega) ?_
        refine hK 20 [some (vR 111 0), some (vI sh), some (vI (T 244 0 sh)), some (vI (T 245 0 (6 * sh))), some (vI (i + 1))] [] U5 ?_
        refine ih_20 _ ?_ (i + 1) U5 (Nat.le_refl _) ?_ ?_ ?_ ?_
        · have hm_20 := hm_20 (); omega
        · exact fr_u (fr_t (fr_0 _ _) (fr_s hf_20 rfl)) hU5 rfl
        · omega
        · exact ro_u (m := m) (k := 471) (j := 6 * s + i) ro1 hU5 (dm_471 (by omega)) rfl (by show 12 * m + (6 * s + i) = _; omega)
        · have z9 : shR_ (rp9_ T m) s i.toNat 471 (6 * s + ((i.toNat : Nat) : Int) + 1) = T1 245 0 (6 * sh + i + 1) := by
            rw [← rc, show ((i.toNat : Nat) : Int) = i by omega]
            exact rp_v (dm_471 (by omega)) rfl (by show 12 * m + (6 * s + i + 1) = _; omega)
          rw [show (i + 1).toNat = i.toNat + 1 by omega]
          show rp9_ U5 m = u2_ (shR_ (rp9_ T m) s i.toNat) 471 (6 * s + ((i.toNat : Nat) : Int)) (shR_ (rp9_ T m) s i.toNat 471 (6 * s + ((i.toNat : Nat) : Int) + 1))
          rw [z9, ← rc, show ((i.toNat : Nat) : Int) = i by omega]
          exact rp_u (m := m) (k := 471) (j := 6 * s + i) hU5 (dm_471 (by omega)) rfl (by show 12 * m + (6 * s + i) = _; omega)
  refine j_blx (F := fX11) tb_X11 (nn_ _) bk_X11_rotate_e_0 bs_X11_rotate_e_0 hz (fun K hK => ?_)
  refine ix_i (by omega) ?_
  intro b7 b7b
  refine rg_i (by omega) ?_
  refine ix_i (by omega) ?_
  intro b8 b8b
  refine hK 20 [some (vR 111 0), some (vI sh), some (vI (T 244 0 sh)), some (vI (T 245 0 (6 * sh))), some (vI 0)] [] T ?_
  refine c_20 _ 0 T (Nat.le_refl _) ?_ ?_ ?_ ?_
  · exact fr_0 _ _
  · omega
  · exact ro_r
  · rfl
theorem bk_X11_playFootball_e_0 : ck_ fX11 none cX11_playFootball 0 [.iload 2] 1 = true := qck_r (nn_ _) (by decide +kernel)
theorem bs_X11_playFootball_e_0 {P : Zt → Option Zv → Prop} (K : Int → Zl → List Zv → Zt → Prop) : sx_ K P [.iload 2] 1 = x_iload 2 (K 1) := ((xe_iload 2).trans (congrArg (x_iload 2) xe_nil))
theorem bk_X11_playFootball_e_36 : ck_ fX11 none cX11_playFootball 36 [.aload 0, .iload 1, .iconst 0, .aload 0, .iload 1, .iconst 0] 42 = true := qck_r (nn_ _) (by decide +kernel)
theorem bs_X11_playFootball_e_36 {P : Zt → Option Zv → Prop} (K : Int → Zl → List Zv → Zt → Prop) : sx_ K P [.aload 0, .iload 1, .iconst 0, .aload 0, .iload 1, .iconst 0] 42 = x_aload 0 (x_iload 1 (x_iconst 0 (x_aload 0 (x_iload 1 (x_iconst 0 (K 42)))))) := ((xe_aload 0).trans (congrArg (x_aload 0) ((xe_iload 1).trans (congrArg (x_iload 1) ((xe_iconst 0).trans (congrArg (x_iconst 0) ((xe_aload 0).trans (congrArg (x_aload 0) ((xe_iload 1).trans (congrArg (x_iload 1) ((xe_iconst 0).trans (congrArg (x_iconst 0) xe_nil))))))))))))
theorem bk_X11_playFootball_e_45 : ck_ fX11 none cX11_playFootball 45 [.iconst 1, .fadd] 47 = true := qck_r (nn_ _) (by decide +kernel)
theorem bs_X11_playFootball_e_45 {P : Zt → Option Zv → Prop} (K : Int → Zl → List Zv → Zt → Prop) : sx_ K P [.iconst 1, .fadd] 47 = x_iconst 1 (x_fadd (K 47)) := ((xe_iconst 1).trans (congrArg (x_iconst 1) ((xe_fadd).trans (congrArg (x_fadd) xe_nil))))
theorem bk_X11_playFootball_e_50 : ck_ fX11 none cX11_playFootball 50 [.aload 0, .tableswitch 0 11 35 #[], .iload 1, .aload 0, .iload 1, .iconst 0] 58 = true := qck_r (nn_ _) (by decide +kernel)
theorem bs_X11_playFootball_e_50 {P : Zt → Option Zv → Prop} (K : Int → Zl → List Zv → Zt → Prop) : sx_ K P [.aload 0, .tableswitch 0 11 35 #[], .iload 1, .aload 0, .iload 1, .iconst 0] 58 = x_aload 0 (x_g1 111 235 (x_iload 1 (x_aload 0 (x_iload 1 (x_iconst 0 (K 58)))))) := ((xe_aload 0).trans (congrArg (x_aload 0) ((xe_g1 (kk := 111) rfl tl_11_35).trans (congrArg (x_g1 111 235) ((xe_iload 1).trans (congrArg (x_iload 1) ((xe_aload 0).trans (congrArg (x_aload 0) ((xe_iload 1).trans (congrArg (x_iload 1) ((xe_iconst 0).trans (congrArg (x_iconst 0) xe_nil))))))))))))
theorem bk_X11_playFootball_e_61 : ck_ fX11 none cX11_playFootball 61 [.iconst 3, .if_icmp .ne 69, .iconst 2, .goto 70] 69 = true := qck_r (nn_ _) (by decide +kernel)
theorem bs_X11_playFootball_e_61 {P : Zt → Option Zv → Prop} (K : Int → Zl → List Zv → Zt → Prop) : sx_ K P [.iconst 3, .if_icmp .ne 69, .iconst 2, .goto 70] 69 = x_iconst 3 (x_if_icmp .ne 69 K (x_iconst 2 (x_goto 70 K))) := ((xe_iconst 3).trans (congrArg (x_iconst 3) ((xe_if_icmp .ne 69).trans (congrArg (x_if_icmp .ne 69 K) ((xe_iconst 2).trans (congrArg (x_iconst 2) (xe_goto 70)))))))
theorem bk_X11_playFootball_e_69 : ck_ fX11 none cX11_playFootball 69 [.iconst 1, .iastore, .goto 172] 74 = true := qck_r (nn_ _) (by decide +kernel)
theorem bs_X11_playFootball_e_69 {P : Zt → Option Zv → Prop} (K : Int → Zl → List Zv → Zt → Prop) : sx_ K P [.iconst 1, .iastore, .goto 172] 74 = x_iconst 1 (x_iastore (x_goto 172 K)) := ((xe_iconst 1).trans (congrArg (x_iconst 1) ((xe_iastore).trans (congrArg (x_iastore) (xe_goto 172)))))
theorem bk_X11_playFootball_e_172 : ck_ fX11 none cX11_playFootball 172 [.return_] 173 = true := qck_r (nn_ _) (by decide +kernel)
theorem bs_X11_playFootball_e_172 {P : Zt → Option Zv → Prop} (K : Int → Zl → List Zv → Zt → Prop) : sx_ K P [.return_] 173 = x_return_ P := (xe_return_)
theorem bk_X11_playFootball_e_70 : ck_ fX11 none cX11_playFootball 70 [.iastore, .goto 172] 74 = true := qck_r (nn_ _) (by decide +kernel)
theorem bs_X11_playFootball_e_70 {P : Zt → Option Zv → Prop} (K : Int → Zl → List Zv → Zt → Prop) : sx_ K P [.iastore, .goto 172] 74 = x_iastore (x_goto 172 K) := ((xe_iastore).trans (congrArg (x_iastore) (xe_goto 172)))
theorem bk_X11_playFootball_e_74 : ck_ fX11 none cX11_playFootball 74 [.aload 0, .iload 1, .iload 3, .iconst 1] 78 = true := qck_r (nn_ _) (by decide +kernel)
theorem bs_X11_playFootball_e_74 {P : Zt → Option Zv → Prop} (K : Int → Zl → List Zv → Zt → Prop) : sx_ K P [.aload 0, .iload 1, .iload 3, .iconst 1] 78 = x_aload 0 (x_iload 1 (x_iload 3 (x_iconst 1 (K 78)))) := ((xe_aload 0).trans (congrArg (x_aload 0) ((xe_iload 1).trans (congrArg (x_iload 1) ((xe_iload 3).trans (congrArg (x_iload 3) ((xe_iconst 1).trans (congrArg (x_iconst 1) xe_nil))))))))
theorem bk_X11_playFootball_e_81 : ck_ fX11 none cX11_playFootball 81 [.goto 172] 84 = true := qck_r (nn_ _) (by decide +kernel)
theorem bs_X11_playFootball_e_81 {P : Zt → Option Zv → Prop} (K : Int → Zl → List Zv → Zt → Prop) : sx_ K P [.goto 172] 84 = x_goto 172 K := (xe_goto 172)
theorem bk_X11_playFootball_e_84 : ck_ fX11 none cX11_playFootball 84 [.aload 0, .iload 1, .iconst 1, .iload 3, .isub, .iconst 1] 90 = true := qck_r (nn_ _) (by decide +kernel)
theorem bs_X11_playFootball_e_84 {P : Zt → Option Zv → Prop} (K : Int → Zl → List Zv → Zt → Prop) : sx_ K P [.aload 0, .iload 1, .iconst 1, .iload 3, .isub, .iconst 1] 90 = x_aload 0 (x_iload 1 (x_iconst 1 (x_iload 3 (x_isub (x_iconst 1 (K 90)))))) := ((xe_aload 0).trans (congrArg (x_aload 0) ((xe_iload 1).trans (congrArg (x_iload 1) ((xe_iconst 1).trans (congrArg (x_iconst 1) ((xe_iload 3).trans (congrArg (x_iload 3) ((xe_isub).trans (congrArg (x_isub) ((xe_iconst 1).trans (congrArg (x_iconst 1) xe_nil))))))))))))
theorem bk_X11_playFootball_e_93 : ck_ fX11 none cX11_playFootball 93 [.goto 172] 96 = true := qck_r (nn_ _) (by decide +kernel)
theorem bs_X11_playFootball_e_93 {P : Zt → Option Zv → Prop} (K : Int → Zl → List Zv → Zt → Prop) : sx_ K P [.goto 172] 96 = x_goto 172 K := (xe_goto 172)
theorem bk_X11_playFootball_e_96 : ck_ fX11 none cX11_playFootball 96 [.aload 0, .iconst 2, .iload 1, .imul, .iload 3, .iadd, .iload 4] 104 = true := qck_r (nn_ _) (by decide +kernel)
theorem bs_X11_playFootball_e_96 {P : Zt → Option Zv → Prop} (K : Int → Zl → List Zv → Zt → Prop) : sx_ K P [.aload 0, .iconst 2, .iload 1, .imul, .iload 3, .iadd, .iload 4] 104 = x_aload 0 (x_iconst 2 (x_iload 1 (x_imul (x_iload 3 (x_iadd (x_iload 4 (K 104))))))) := ((xe_aload 0).trans (congrArg (x_aload 0) ((xe_iconst 2).trans (congrArg (x_iconst 2) ((xe_iload 1).trans (congrArg (x_iload 1) ((xe_imul).trans (congrArg (x_imul) ((xe_iload 3).trans (congrArg (x_iload 3) ((xe_iadd).trans (congrArg (x_iadd) ((xe_iload 4).trans (congrArg (x_iload 4) xe_nil))))))))))))))
theorem bk_X11_playFootball_e_107 : ck_ fX11 none cX11_playFootball 107 [.istore 6, .aload 0, .tableswitch 0 11 42 #[], .iload 6, .dup2, .iaload, .iconst 1, .fadd, .iastore, .aload 0, .tableswitch 0 11 42 #[], .iload 6, .iaload, .iconst 2, .if_icmp .ne 172, .aload 0, .iload 1, .iload 3, .iload 6] 136 = true := qck_r (nn_ _) (by decide +kernel)
theorem bs_X11_playFootball_e_107 {P : Zt → Option Zv → Prop} (K : Int → Zl → List Zv → Zt → Prop) : sx_ K P [.istore 6, .aload 0, .tableswitch 0 11 42 #[], .iload 6, .dup2, .iaload, .iconst 1, .fadd, .iastore, .aload 0, .tableswitch 0 11 42 #[], .iload 6, .iaload, .iconst 2, .if_icmp .ne 172, .aload 0, .iload 1, .iload 3, .iload 6] 136 = x_istore 6 (x_aload 0 (x_g1 111 242 (x_iload 6 (x_dup2 (x_iaload (x_iconst 1 (x_fadd (x_iastore (x_aload 0 (x_g1 111 242 (x_iload 6 (x_iaload (x_iconst 2 (x_if_icmp .ne 172 K (x_aload 0 (x_iload 1 (x_iload 3 (x_iload 6 (K 136))))))))))))))))))) := ((xe_istore 6).trans (congrArg (x_istore 6) ((xe_aload 0).trans (congrArg (x_aload 0) ((xe_g1 (kk := 111) rfl tl_11_42).trans (congrArg (x_g1 111 242) ((xe_iload 6).trans (congrArg (x_iload 6) ((xe_dup2).trans (congrArg (x_dup2) ((xe_iaload).trans (congrArg (x_iaload) ((xe_iconst 1).trans (congrArg (x_iconst 1) ((xe_fadd).trans (congrArg (x_fadd) ((xe_iastore).trans (congrArg (x_iastore) ((xe_aload 0).trans (congrArg (x_aload 0) ((xe_g1 (kk := 111) rfl tl_11_42).trans (congrArg (x_g1 111 242) ((xe_iload 6).trans (congrArg (x_iload 6) ((xe_iaload).trans (congrArg (x_iaload) ((xe_iconst 2).trans (congrArg (x_iconst 2) ((xe_if_icmp .ne 172).trans (congrArg (x_if_icmp .ne 172 K) ((xe_aload 0).trans (congrArg (x_aload 0) ((xe_iload 1).trans (congrArg (x_iload 1) ((xe_iload 3).trans (congrArg (x_iload 3) ((xe_iload 6).trans (congrArg (x_iload 6) xe_nil))))))))))))))))))))))))))))))))))))))
theorem bk_X11_playFootball_e_139 : ck_ fX11 none cX11_playFootball 139 [.goto 172] 142 = true := qck_r (nn_ _) (by decide +kernel)
theorem bs_X11_playFootball_e_139 {P : Zt → Option Zv → Prop} (K : Int → Zl → List Zv → Zt → Prop) : sx_ K P [.goto 172] 142 = x_goto 172 K := (xe_goto 172)
theorem bk_X11_playFootball_e_142 : ck_ fX11 none cX11_playFootball 142 [.aload 0, .iload 1, .iload 3, .aload 0, .iconst 2, .iload 1, .imul, .iload 3, .iadd, .iload 4] 153 = true := qck_r (nn_ _) (by decide +kernel)
theorem bs_X11_playFootball_e_142 {P : Zt → Option Zv → Prop} (K : Int → Zl → List Zv → Zt → Prop) : sx_ K P [.aload 0, .iload 1, .iload 3, .aload 0, .iconst 2, .iload 1, .imul, .iload 3, .iadd, .iload 4] 153 = x_aload 0 (x_iload 1 (x_iload 3 (x_aload 0 (x_iconst 2 (x_iload 1 (x_imul (x_iload 3 (x_iadd (x_iload 4 (K 153)))))))))) := ((xe_aload 0).trans (congrArg (x_aload 0) ((xe_iload 1).trans (congrArg (x_iload 1) ((xe_iload 3).trans (congrArg (x_iload 3) ((xe_aload 0).trans (congrArg (x_aload 0) ((xe_iconst 2).trans (congrArg (x_iconst 2) ((xe_iload 1).trans (congrArg (x_iload 1) ((xe_imul).trans (congrArg (x_imul) ((xe_iload 3).trans (congrArg (x_iload 3) ((xe_iadd).trans (congrArg (x_iadd) ((xe_iload 4).trans (congrArg (x_iload 4) xe_nil))))))))))))))))))))
theorem bk_X11_playFootball_e_159 : ck_ fX11 none cX11_playFootball 159 [.goto 172] 162 = true := qck_r (nn_ _) (by decide +kernel)
theorem bs_X11_playFootball_e_159 {P : Zt → Option Zv → Prop} (K : Int → Zl → List Zv → Zt → Prop) : sx_ K P [.goto 172] 162 = x_goto 172 K := (xe_goto 172)
theorem bk_X11_playFootball_e_162 : ck_ fX11 none cX11_playFootball 162 [.aload 0, .iload 1, .iload 3, .iload 4, .iload 5] 169 = true := qck_r (nn_ _) (by decide +kernel)
theorem bs_X11_playFootball_e_162 {P : Zt → Option Zv → Prop} (K : Int → Zl → List Zv → Zt → Prop) : sx_ K P [.aload 0, .iload 1, .iload 3, .iload 4, .iload 5] 169 = x_aload 0 (x_iload 1 (x_iload 3 (x_iload 4 (x_iload 5 (K 169))))) := ((xe_aload 0).trans (congrArg (x_aload 0) ((xe_iload 1).trans (congrArg (x_iload 1) ((xe_iload 3).trans (congrArg (x_iload 3) ((xe_iload 4).trans (congrArg (x_iload 4) ((xe_iload 5).trans (congrArg (x_iload 5) xe_nil))))))))))
abbrev po_X11_playFootball_e (T : Zt) (ru : Int → Int) (bu : Int) (m k s p q : Int) : Zt → Option Zv → Prop := fun T' r => r = none ∧ fr_ [(244, []), (241, []), (242, []), (243, []), (245, []), (246, []), (236, []), (237, []), (235, [])] T T' ∧ (FM_ T' ∧ SO_ T T' m ∧ SB1_ T' m (bu + 4) ∧ ro9_ T T' m ∧ rp9_ T' m = pfR_ ru (rp9_ T m) m k s p q)
set_option maxHeartbeats 4000000 in
theorem ct_X11_playFootball_e {T : Zt} {ru : Int → Int} {bu : Int} {m k s p q : Int} (h1 : 0 ≤ m ∧ m < T 111 0 29) (hmc : MC_ T) (hri : RI_ T) (hfm : FM_ T) (hgo : T 235 0 m = 1) (hk : 0 ≤ k ∧ k ≤ 5) (hs : k = 0 ∨ (0 ≤ s ∧ s ≤ 1)) (hp : k = 0 ∨ SL_ T (2 * m + s) p) (hq : k = 5 → SL_ T (2 * m + s) q) (hrl : RLR_ T m ru) (hbu : 9 ≤ bu ∧ bu ≤ 19000) (hsb : SB1_ T m bu) : Ct_ yX11_playFootball zX11_playFootball T [vR 111 0, vI m, vI k, vI s, vI p, vI q] (po_X11_playFootball_e T ru bu m k s p q) := by
  refine ct_of pn_11 rfl rfl (Nat.le_of_ble_eq_true rfl) (fun hT hav => ?_)
  have hr_m : -2147483648 ≤ m ∧ m ≤ 2147483647 := hav (vI m) (List.mem_cons_of_mem _ List.mem_cons_self)
  have hr_k : -2147483648 ≤ k ∧ k ≤ 2147483647 := hav (vI k) (List.mem_cons_of_mem _ (List.mem_cons_of_mem _ List.mem_cons_self))
  have hr_s : -2147483648 ≤ s ∧ s ≤ 2147483647 := hav (vI s) (List.mem_cons_of_mem _ (List.mem_cons_of_mem _ (List.mem_cons_of_mem _ List.mem_cons_self)))
  have hr_p : -2147483648 ≤ p ∧ p ≤ 2147483647 := hav (vI p) (List.mem_cons_of_mem _ (List.mem_cons_of_mem _ (List.mem_cons_of_mem _ (List.mem_cons_of_mem _ List.mem_cons_self))))
  have hr_q : -2147483648 ≤ q ∧ q ≤ 2147483647 := hav (vI q) (List.mem_cons_of_mem _ (List.mem_cons_of_mem _ (List.mem_cons_of_mem _ (List.mem_cons_of_mem _ (List.mem_cons_of_mem _ List.mem_cons_self)))))
  have hz : zX11_playFootball.2.2.2.1 = some .boolean → ∀ (T' : Zt) (x : Int), po_X11_playFootball_e T ru bu m k s p q T' (some (vI x)) → 0 ≤ x ∧ x ≤ 1 := fun h => by cases h
  have hb_29 : 0 ≤ T 111 0 29 ∧ T 111 0 29 ≤ 400 := bd_f hT 111 29 tl_11_29 0
  have z103_0 : rp9_ T m 103 4 = T 246 0 (8 * m + 0) := rp_v rfl rfl (by show 8 * m = _; omega)
  show J_ zX11_playFootball T (po_X11_playFootball_e T ru bu m k s p q) 0 0 0 [some (vR 111 0), some (vI m), some (vI k), some (vI s), some (vI p), some (vI q), none] [] T
  refine j_blx (F := fX11) tb_X11 (nn_ _) bk_X11_playFootball_e_0 bs_X11_playFootball_e_0 hz (fun K hK => ?_)
  refine hK 1 _ [vI k] T ?_
  by_cases z1_0 : k = 0
  · refine j_tsI (pc := 1) 0 (off := 35) (tgt := 36) (by decide) ds_X11_playFootball_1 (by omega) (by decide) rfl (by decide) (by decide) ?_
    refine j_blx (F := fX11) tb_X11 (nn_ _) bk_X11_playFootball_e_36 bs_X11_playFootball_e_36 hz (fun K hK => ?_)
    refine hK 42 _ [vI 0, vI m, vR 111 0, vI 0, vI m, vR 111 0] T ?_
    refine j_callV (y := yX11_liveOf) (Yc := zX11_liveOf) (rest := [vI 0, vI m, vR 111 0]) [vI m, vI 0] (ct_X11_liveOf (T := T) (by omega) (by omega)) cl_X11_400 (qd_c (by decide +kernel)) (nn_ _) rfl (rf_of rfl) (Nat.le_of_ble_eq_true rfl) (Nat.le_of_ble_eq_true rfl) (Nat.le_of_ble_eq_true rfl) rfl ?_
    rintro _ _ ⟨rfl, rfl⟩
    show J_ zX11_playFootball T (po_X11_playFootball_e T ru bu m k s p q) 0 0 45 _ [vI (T 246 0 (8 * m + 0)), vI 0, vI m, vR 111 0] T
    refine j_blx (F := fX11) tb_X11 (nn_ _) bk_X11_playFootball_e_45 bs_X11_playFootball_e_45 hz (fun K hK => ?_)
    intro w2 w2b
    refine hK 47 _ [vI (wr_ ((T 246 0 (8 * m + 0)) + 1)), vI 0, vI m, vR 111 0] T ?_
    refine j_callV (y := yX11_setLive) (Yc := zX11_setLive) (rest := []) [vI m, vI 0, vI (wr_ ((T 246 0 (8 * m + 0)) + 1))] (ct_X11_setLive_e (T := T) (by omega) (by omega)) cl_X11_410 (qd_c (by decide +kernel)) (nn_ _) rfl (rf_of rfl) (Nat.le_of_ble_eq_true rfl) (Nat.le_of_ble_eq_true rfl) (Nat.le_of_ble_eq_true rfl) rfl ?_
    rintro U3 _ ⟨rfl, hU3⟩
    show J_ zX11_playFootball T (po_X11_playFootball_e T ru bu m k s p q) 0 0 50 _ [] U3
    refine j_blx (F := fX11) tb_X11 (nn_ _) bk_X11_playFootball_e_50 bs_X11_playFootball_e_50 hz (fun K hK => ?_)
    refine hK 58 _ [vI 0, vI m, vR 111 0, vI m, vR 235 0] U3 ?_
    refine j_callV (y := yX11_liveOf) (Yc := zX11_liveOf) (rest := [vI m, vR 235 0]) [vI m, vI 0] (ct_X11_liveOf (T := U3) (by omega) (by omega)) cl_X11_400 (qd_c (by decide +kernel)) (nn_ _) rfl (rf_of rfl) (Nat.le_of_ble_eq_true rfl) (Nat.le_of_ble_eq_true rfl) (Nat.le_of_ble_eq_true rfl) rfl ?_
    rintro _ _ ⟨rfl, rfl⟩
    have e4 : U3 246 0 (8 * m + 0) = wr_ ((T 246 0 (8 * m + 0)) + 1) := up_f hU3
    rw [e4]
    show J_ zX11_playFootball T (po_X11_playFootball_e T ru bu m k s p q) 0 0 61 _ [vI (wr_ ((T 246 0 (8 * m + 0)) + 1)), vI m, vR 235 0] U3
    refine j_blx (F := fX11) tb_X11 (nn_ _) bk_X11_playFootball_e_61 bs_X11_playFootball_e_61 hz (fun K hK => ?_)
    refine And.intro (fun c5 => ?_) (fun c5 => ?_)
    · refine hK 69 _ [vI m, vR 235 0] U3 ?_
      refine j_blx (F := fX11) tb_X11 (nn_ _) bk_X11_playFootball_e_69 bs_X11_playFootball_e_69 hz (fun K hK => ?_)
      refine iy_i (by omega) (by omega) ?_
      refine x_nm (fun U6 hU6 => ?_)
      have e7 := up_f hU6
      refine hK 172 _ [] U6 ?_
      refine j_blx (F := fX11) tb_X11 (nn_ _) bk_X11_playFootball_e_172 bs_X11_playFootball_e_172 hz (fun K hK => ?_)
      refine (show po_X11_playFootball_e T ru bu m k s p q U6 (none) from ?_)
      have rU3 : rp9_ U3 m = u2_ (rp9_ T m) 103 4 (wr_ ((T 246 0 (8 * m + 0)) + 1)) := by rw [rp_u (m := m) (k := 103) (j := 4) hU3 rfl rfl (by show 8 * m = _; omega)]
      have rU6 : rp9_ U6 m = u2_ (u2_ (rp9_ T m) 103 4 (wr_ ((T 246 0 (8 * m + 0)) + 1))) 103 3 1 := by rw [rp_u (m := m) (k := 103) (j := 3) hU6 rfl rfl (by show m = _; omega), rU3]
      refine ⟨rfl, fr_u (fr_u (fr_0 _ _) hU3 rfl) hU6 rfl, fm_1 (FM__f (ws := [(246, [])]) (hfm) (fr_u (fr_0 _ _) hU3 rfl) ⟨fun _ => rfl, fun _ => rfl, trivial⟩) hU6 ((up_k hU3 (by exact Nat.ne_of_beq_eq_false rfl) 0 m).trans hgo), so_f (ws := [(235, [])]) (so_f (ws := [(246, [])]) (so_r) (fr_u (fr_0 _ _) hU3 rfl) ⟨fun _ => rfl, fun _ => rfl, fun _ => rfl⟩) (fr_u (fr_0 _ _) hU6 rfl) ⟨fun _ => rfl, fun _ => rfl, fun _ => rfl⟩, sb1_f (ws := [(235, [])]) (sb1_f (ws := [(246, [])]) (sb1_m (c := bu + 4) hsb (by omega)) (fr_u (fr_0 _ _) hU3 rfl) ⟨fun _ => rfl, fun _ => rfl, fun _ => rfl⟩) (fr_u (fr_0 _ _) hU6 rfl) ⟨fun _ => rfl, fun _ => rfl, fun _ => rfl⟩, ro_u (m := m) (k := 103) (j := 3) (ro_u (m := m) (k := 103) (j := 4) (ro_r) hU3 rfl rfl (by show 8 * m = _; omega)) hU6 rfl rfl (by show m = _; omega), ?_⟩
      exact Eq.trans rU6 (Eq.symm (by have g9 := pfR__2 (r := ru) (a := rp9_ T m) (m := m) (k := k) (s := s) (q := p) (o := q) (show k = 0 by (try simp only [z103_0]); omega) (show ¬ (wr_ ((rp9_ T m) 103 4 + 1) = 3) by (try simp only [z103_0]); omega); (try simp only [z103_0] at g9); exact g9))
    · refine hK 70 _ [vI 2, vI m, vR 235 0] U3 ?_
      refine j_blx (F := fX11) tb_X11 (nn_ _) bk_X11_playFootball_e_70 bs_X11_playFootball_e_70 hz (fun K hK => ?_)
      refine iy_i (by omega) (by omega) ?_
      refine x_nm (fun U8 hU8 => ?_)
      have e9 := up_f hU8
      refine hK 172 _ [] U8 ?_
      refine j_blx (F := fX11) tb_X11 (nn_ _) bk_X11_playFootball_e_172 bs_X11_playFootball_e_172 hz (fun K hK => ?_)
      refine (show po_X11_playFootball_e T ru bu m k s p q U8 (none) from ?_)
      have rU3 : rp9_ U3 m = u2_ (rp9_ T m) 103 4 (wr_ ((T 246 0 (8 * m + 0)) + 1)) := by rw [rp_u (m := m) (k := 103) (j := 4) hU3 rfl rfl (by show 8 * m = _; omega)]
      have rU8 : rp9_ U8 m = u2_ (u2_ (rp9_ T m) 103 4 (wr_ ((T 246 0 (8 * m + 0)) + 1))) 103 3 2 := by rw [rp_u (m := m) (k := 103) (j := 3) hU8 rfl rfl (by show m = _; omega), rU3]
      refine ⟨rfl, fr_u (fr_u (fr_0 _ _) hU3 rfl) hU8 rfl, fm_w (FM__f (ws := [(246, [])]) (hfm) (fr_u (fr_0 _ _) hU3 rfl) ⟨fun _ => rfl, fun _ => rfl, trivial⟩) hU8 (by decide), so_f (ws := [(235, [])]) (so_f (ws := [(246, [])]) (so_r) (fr_u (fr_0 _ _) hU3 rfl) ⟨fun _ => rfl, fun _ => rfl, fun _ => rfl⟩) (fr_u (fr_0 _ _) hU8 rfl) ⟨fun _ => rfl, fun _ => rfl, fun _ => rfl⟩, sb1_f (ws := [(235, [])]) (sb1_f (ws := [(246, [])]) (sb1_m (c := bu + 4) hsb (by omega)) (fr_u (fr_0 _ _) hU3 rfl) ⟨fun _ => rfl, fun _ => rfl, fun _ => rfl⟩) (fr_u (fr_0 _ _) hU8 rfl) ⟨fun _ => rfl, fun _ => rfl, fun _ => rfl⟩, ro_u (m := m) (k := 103) (j := 3) (ro_u (m := m) (k := 103) (j := 4) (ro_r) hU3 rfl rfl (by show 8 * m = _; omega)) hU8 rfl rfl (by show m = _; omega), ?_⟩
      exact Eq.trans rU8 (Eq.symm (by have g9 := pfR__1 (r := ru) (a := rp9_ T m) (m := m) (k := k) (s := s) (q := p) (o := q) (show k = 0 by (try simp only [z103_0]); omega) (show wr_ ((rp9_ T m) 103 4 + 1) = 3 by (try simp only [z103_0]); omega); (try simp only [z103_0] at g9); exact g9))
  by_cases z1_1 : k = 1
  · refine j_tsI (pc := 1) 1 (off := 73) (tgt := 74) (by decide) ds_X11_playFootball_1 (by omega) (by decide) rfl (by decide) (by decide) ?_
    refine j_blx (F := fX11) tb_X11 (nn_ _) bk_X11_playFootball_e_74 bs_X11_playFootball_e_74 hz (fun K hK => ?_)
    refine hK 78 _ [vI 1, vI s, vI m, vR 111 0] T ?_
    refine j_callV (y := yX11_addScore) (Yc := zX11_addScore) (rest := []) [vI m, vI s, vI 1] (ct_X11_addScore_e (T := T) (bu := bu) (by omega) (by omega) (by omega) (hsb)) cl_X11_413 (qd_c (by decide +kernel)) (nn_ _) rfl (rf_of rfl) (Nat.le_of_ble_eq_true rfl) (Nat.le_of_ble_eq_true rfl) (Nat.le_of_ble_eq_true rfl) rfl ?_
    rintro U10 _ ⟨rfl, fU10, ⟨qU10o, qU10b, qU10f, qU10p, qU10e⟩⟩
    show J_ zX11_playFootball T (po_X11_playFootball_e T ru bu m k s p q) 0 0 81 _ [] U10
    refine j_blx (F := fX11) tb_X11 (nn_ _) bk_X11_playFootball_e_81 bs_X11_playFootball_e_81 hz (fun K hK => ?_)
    refine hK 172 _ [] U10 ?_
    refine j_blx (F := fX11) tb_X11 (nn_ _) bk_X11_playFootball_e_172 bs_X11_playFootball_e_172 hz (fun K hK => ?_)
    refine (show po_X11_playFootball_e T ru bu m k s p q U10 (none) from ?_)
    have rU10 : rp9_ U10 m = adR_ (rp9_ T m) s 1 := qU10e
    refine ⟨rfl, fr_t (fr_0 _ _) (fr_s fU10 rfl), FM__f (ws := [(236, []), (237, [])]) (hfm) fU10 ⟨fun _ => rfl, fun _ => rfl, trivial⟩, so_t (so_r) qU10o (fun j => rfl), qU10b, ro_t (ro_r) qU10p, ?_⟩
    first
    | exact Eq.trans rU10 (Eq.symm (by have g9 := pfR__3 (r := ru) (a := rp9_ T m) (m := m) (k := k) (s := s) (q := p) (o := q) (show ¬ (k = 0) by (try simp only [z103_0]); omega) (show k = 1 by (try simp only [z103_0]); omega); (try simp only [z103_0] at g9); exact g9))
    | exact Eq.trans rU10 (Eq.symm (by have g9 := pfR__4 (r := ru) (a := rp9_ T m) (m := m) (k := k) (s := s) (q := p) (o := q) (show ¬ (k = 0) by (try simp only [z103_0]); omega) (show ¬ (k = 1) by (try simp only [z103_0]); omega) (show k = 2 by (try simp only [z103_0]); omega); (try simp only [z103_0] at g9); exact g9))
    | (exfalso; omega)
  by_cases z1_2 : k = 2
  · refine j_tsI (pc := 1) 2 (off := 83) (tgt := 84) (by decide) ds_X11_playFootball_1 (by omega) (by decide) rfl (by decide) (by decide) ?_
    refine j_blx (F := fX11) tb_X11 (nn_ _) bk_X11_playFootball_e_84 bs_X11_playFootball_e_84 hz (fun K hK => ?_)
    refine rg_i (by omega) ?_
    refine hK 90 _ [vI 1, vI (1 - s), vI m, vR 111 0] T ?_
    refine j_callV (y := yX11_addScore) (Yc := zX11_addScore) (rest := []) [vI m, vI (1 - s), vI 1] (ct_X11_addScore_e (T := T) (bu := bu) (by omega) (by omega) (by omega) (hsb)) cl_X11_413 (qd_c (by decide +kernel)) (nn_ _) rfl (rf_of rfl) (Nat.le_of_ble_eq_true rfl) (Nat.le_of_ble_eq_true rfl) (Nat.le_of_ble_eq_true rfl) rfl ?_
    rintro U11 _ ⟨rfl, fU11, ⟨qU11o, qU11b, qU11f, qU11p, qU11e⟩⟩
    show J_ zX11_playFootball T (po_X11_playFootball_e T ru bu m k s p q) 0 0 93 _ [] U11
    refine j_blx (F := fX11) tb_X11 (nn_ _) bk_X11_playFootball_e_93 bs_X11_playFootball_e_93 hz (fun K hK => ?_)
    refine hK 172 _ [] U11 ?_
    refine j_blx (F := fX11) tb_X11 (nn_ _) bk_X11_playFootball_e_172 bs_X11_playFootball_e_172 hz (fun K hK => ?_)
    refine (show po_X11_playFootball_e T ru bu m k s p q U11 (none) from ?_)
    have rU11 : rp9_ U11 m = adR_ (rp9_ T m) (1 - s) 1 := qU11e
    refine ⟨rfl, fr_t (fr_0 _ _) (fr_s fU11 rfl), FM__f (ws := [(236, []), (237, [])]) (hfm) fU11 ⟨fun _ => rfl, fun _ => rfl, trivial⟩, so_t (so_r) qU11o (fun j => rfl), qU11b, ro_t (ro_r) qU11p, ?_⟩
    first
    | exact Eq.trans rU11 (Eq.symm (by have g9 := pfR__3 (r := ru) (a := rp9_ T m) (m := m) (k := k) (s := s) (q := p) (o := q) (show ¬ (k = 0) by (try simp only [z103_0]); omega) (show k = 1 by (try simp only [z103_0]); omega); (try simp only [z103_0] at g9); exact g9))
    | exact Eq.trans rU11 (Eq.symm (by have g9 := pfR__4 (r := ru) (a := rp9_ T m) (m := m) (k := k) (s := s) (q := p) (o := q) (show ¬ (k = 0) by (try simp only [z103_0]); omega) (show ¬ (k = 1) by (try simp only [z103_0]); omega) (show k = 2 by (try simp only [z103_0]); omega); (try simp only [z103_0] at g9); exact g9))
    | (exfalso; omega)
  by_cases z1_3 : k = 3
  · refine j_tsI (pc := 1) 3 (off := 95) (tgt := 96) (by decide) ds_X11_playFootball_1 (by omega) (by decide) rfl (by decide) (by decide) ?_
    refine j_blx (F := fX11) tb_X11 (nn_ _) bk_X11_playFootball_e_96 bs_X11_playFootball_e_96 hz (fun K hK => ?_)
    refine rg_i (by omega) ?_
    refine rg_i (by omega) ?_
    refine hK 104 _ [vI p, vI ((2 * m) + s), vR 111 0] T ?_
    refine j_callV (y := yX11_slotOf) (Yc := zX11_slotOf) (rest := []) [vI ((2 * m) + s), vI p] (ct_X11_slotOf_e (T := T) (m := m) (s := s) (by omega) ⟨rfl, by omega, by omega⟩) cl_X11_378 (qd_c (by decide +kernel)) (nn_ _) rfl (rf_of rfl) (Nat.le_of_ble_eq_true rfl) (Nat.le_of_ble_eq_true rfl) (Nat.le_of_ble_eq_true rfl) rfl ?_
    rintro _ _ ⟨rfl, x12, rfl, hx12, hx12e⟩
    have hx12c := ab_c hx12e
    show J_ zX11_playFootball T (po_X11_playFootball_e T ru bu m k s p q) 0 0 107 _ [vI x12] T
    have yy : 10 * (2 * m + s) ≤ x12 ∧ x12 < 10 * (2 * m + s) + 10 ∧ x12 < 10 * (2 * m + s) + T 239 0 (2 * m + s) := by
      rcases hx12 with z | z
      · rcases hp with y | y
        · omega
        · exact absurd y z.2
      · exact ⟨z.1, z.2.1, z.2.2.2⟩
    have hyo := hsb.2.2 x12 (by omega) (by omega)
    have z473 : rp9_ T m 473 (x12 - 20 * m) = T 242 0 x12 := rp_v (dm_473 (by omega)) rfl (by show 20 * m + (x12 - 20 * m) = _; omega)
    refine j_blx (F := fX11) tb_X11 (nn_ _) bk_X11_playFootball_e_107 bs_X11_playFootball_e_107 hz (fun K hK => ?_)
    refine ix_i (by omega) ?_
    intro b13 b13b
    intro w14 w14b
    refine iy_i (by omega) (by omega) ?_
    refine x_nm (fun U15 hU15 => ?_)
    have e16 := up_f hU15
    refine ix_i (by omega) ?_
    intro b17 b17b
    have e18 : U15 242 0 x12 = wr_ ((T 242 0 x12) + 1) := up_f hU15
    rw [e18] at b17 b17b ⊢
    refine And.intro (fun c19 => ?_) (fun c19 => ?_)
    · refine hK 172 [some (vR 111 0), some (vI m), some (vI k), some (vI s), some (vI p), some (vI q), some (vI x12)] [] U15 ?_
      refine j_blx (F := fX11) tb_X11 (nn_ _) bk_X11_playFootball_e_172 bs_X11_playFootball_e_172 hz (fun K hK => ?_)
      refine (show po_X11_playFootball_e T ru bu m k s p q U15 (none) from ?_)
      have rU15 : rp9_ U15 m = u2_ (rp9_ T m) 473 (x12 - 20 * m) (wr_ ((T 242 0 x12) + 1)) := by rw [rp_u (m := m) (k := 473) (j := x12 - 20 * m) hU15 (dm_473 (by omega)) rfl (by show 20 * m + (x12 - 20 * m) = _; omega)]
      have wv1 : wr_ ((T 242 0 x12) + 1) = ((T 242 0 x12) + 1) := wr_i (by omega)
      refine ⟨rfl, fr_u (fr_0 _ _) hU15 rfl, FM__f (ws := [(242, [])]) (hfm) (fr_u (fr_0 _ _) hU15 rfl) ⟨fun _ => rfl, fun _ => rfl, trivial⟩, so_y (so_r) hU15 (2 * m + s) (by omega), sb1_y (sb1_m (c := bu + 4) hsb (by omega)) hU15 (by omega), ro_u (m := m) (k := 473) (j := x12 - 20 * m) (ro_r) hU15 (dm_473 (by omega)) rfl (by show 20 * m + (x12 - 20 * m) = _; omega), ?_⟩
      exact Eq.trans rU15 (Eq.symm (by have g9 := pfR__6 (r := ru) (a := rp9_ T m) (m := m) (k := k) (s := s) (q := p) (o := q) (show ¬ (k = 0) by (try simp only [z103_0, ← hx12e, z473]); omega) (show ¬ (k = 1) by (try simp only [z103_0, ← hx12e, z473]); omega) (show ¬ (k = 2) by (try simp only [z103_0, ← hx12e, z473]); omega) (show k = 3 by (try simp only [z103_0, ← hx12e, z473]); omega) (show ¬ (wr_ ((rp9_ T m) 473 (ab9_ m (slR_ (rp9_ T m) s p) - 20 * m) + 1) = 2) by (try simp only [z103_0, ← hx12e, z473]); omega); (try simp only [z103_0, ← hx12e, z473] at g9); exact g9))
    · refine hK 136 _ [vI x12, vI s, vI m, vR 111 0] U15 ?_
      have e20 : U15 111 0 29 = T 111 0 29 := up_k hU15 (by exact Nat.ne_of_beq_eq_false rfl) 0 29
      have wv2 : wr_ ((T 242 0 x12) + 1) = ((T 242 0 x12) + 1) := wr_i (by omega)
      refine j_callV (y := yX11_sendOff) (Yc := zX11_sendOff) (rest := []) [vI m, vI s, vI x12] (ct_X11_sendOff_e (T := U15) (ru := ru) (bu := bu + 4) (by omega) (by omega) (by omega) (MC__f (ws := [(242, [])]) hmc (fr_u (fr_0 _ _) hU15 rfl) ⟨fun _ => rfl, rfl, rfl, trivial⟩) (RI__f (ws := [(242, [])]) hri (fr_u (fr_0 _ _) hU15 rfl) ⟨fun _ => rfl, rfl, trivial⟩) (FM__f (ws := [(242, [])]) (hfm) (fr_u (fr_0 _ _) hU15 rfl) ⟨fun _ => rfl, fun _ => rfl, trivial⟩) (rlr_f (ws := [(242, [])]) hrl (fr_u (fr_0 _ _) hU15 rfl) (fun _ => rfl) (fun _ => rfl)) (by omega) (sb1_y (sb1_m (c := bu + 4) hsb (by omega)) hU15 (by omega))) cl_X11_416 (qd_c (by decide +kernel)) (nn_ _) rfl (rf_of rfl) (Nat.le_of_ble_eq_true rfl) (Nat.le_of_ble_eq_true rfl) (Nat.le_of_ble_eq_true rfl) rfl ?_
      rintro U21 _ ⟨rfl, fU21, ⟨qU21, qU21o, qU21b, qU21p, qU21e⟩⟩
      show J_ zX11_playFootball T (po_X11_playFootball_e T ru bu m k s p q) 0 0 139 _ [] U21
      refine j_blx (F := fX11) tb_X11 (nn_ _) bk_X11_playFootball_e_139 bs_X11_playFootball_e_139 hz (fun K hK => ?_)
      refine hK 172 _ [] U21 ?_
      refine j_blx (F := fX11) tb_X11 (nn_ _) bk_X11_playFootball_e_172 bs_X11_playFootball_e_172 hz (fun K hK => ?_)
      refine (show po_X11_playFootball_e T ru bu m k s p q U21 (none) from ?_)
      have rU15 : rp9_ U15 m = u2_ (rp9_ T m) 473 (x12 - 20 * m) (wr_ ((T 242 0 x12) + 1)) := by rw [rp_u (m := m) (k := 473) (j := x12 - 20 * m) hU15 (dm_473 (by omega)) rfl (by show 20 * m + (x12 - 20 * m) = _; omega)]
      have rU21 : rp9_ U21 m = soR_ ru (u2_ (rp9_ T m) 473 (x12 - 20 * m) (wr_ ((T 242 0 x12) + 1))) m s x12 := by rw [qU21e, rU15]
      refine ⟨rfl, fr_t (fr_u (fr_0 _ _) hU15 rfl) (fr_s fU21 rfl), qU21, so_t (so_y (so_r) hU15 (2 * m + s) (by omega)) qU21o (fun j => up_k hU15 (by exact Nat.ne_of_beq_eq_false rfl) 0 j), qU21b, ro_t (ro_u (m := m) (k := 473) (j := x12 - 20 * m) (ro_r) hU15 (dm_473 (by omega)) rfl (by show 20 * m + (x12 - 20 * m) = _; omega)) qU21p, ?_⟩
      exact Eq.trans rU21 (Eq.symm (by have g9 := pfR__5 (r := ru) (a := rp9_ T m) (m := m) (k := k) (s := s) (q := p) (o := q) (show ¬ (k = 0) by (try simp only [z103_0, ← hx12e, z473]); omega) (show ¬ (k = 1) by (try simp only [z103_0, ← hx12e, z473]); omega) (show ¬ (k = 2) by (try simp only [z103_0, ← hx12e, z473]); omega) (show k = 3 by (try simp only [z103_0, ← hx12e, z473]); omega) (show wr_ ((rp9_ T m) 473 (ab9_ m (slR_ (rp9_ T m) s p) - 20 * m) + 1) = 2 by (try simp only [z103_0, ← hx12e, z473]); omega); (try simp only [z103_0, ← hx12e, z473] at g9); exact g9))
  by_cases z1_4 : k = 4
  · refine j_tsI (pc := 1) 4 (off := 141) (tgt := 142) (by decide) ds_X11_playFootball_1 (by omega) (by decide) rfl (by decide) (by decide) ?_
    refine j_blx (F := fX11) tb_X11 (nn_ _) bk_X11_playFootball_e_142 bs_X11_playFootball_e_142 hz (fun K hK => ?_)
    refine rg_i (by omega) ?_
    refine rg_i (by omega) ?_
    refine hK 153 _ [vI p, vI ((2 * m) + s), vR 111 0, vI s, vI m, vR 111 0] T ?_
    refine j_callV (y := yX11_slotOf) (Yc := zX11_slotOf) (rest := [vI s, vI m, vR 111 0]) [vI ((2 * m) + s), vI p] (ct_X11_slotOf_e (T := T) (m := m) (s := s) (by omega) ⟨rfl, by omega, by omega⟩) cl_X11_378 (qd_c (by decide +kernel)) (nn_ _) rfl (rf_of rfl) (Nat.le_of_ble_eq_true rfl) (Nat.le_of_ble_eq_true rfl) (Nat.le_of_ble_eq_true rfl) rfl ?_
    rintro _ _ ⟨rfl, x22, rfl, hx22, hx22e⟩
    have hx22c := ab_c hx22e
    show J_ zX11_playFootball T (po_X11_playFootball_e T ru bu m k s p q) 0 0 156 _ [vI x22, vI s, vI m, vR 111 0] T
    have yy : 10 * (2 * m + s) ≤ x22 ∧ x22 < 10 * (2 * m + s) + 10 ∧ x22 < 10 * (2 * m + s) + T 239 0 (2 * m + s) := by
      rcases hx22 with z | z
      · rcases hp with y | y
        · omega
        · exact absurd y z.2
      · exact ⟨z.1, z.2.1, z.2.2.2⟩
    have hyo := hsb.2.2 x22 (by omega) (by omega)
    have z473 : rp9_ T m 473 (x22 - 20 * m) = T 242 0 x22 := rp_v (dm_473 (by omega)) rfl (by show 20 * m + (x22 - 20 * m) = _; omega)
    refine j_callV (y := yX11_sendOff) (Yc := zX11_sendOff) (rest := []) [vI m, vI s, vI x22] (ct_X11_sendOff_e (T := T) (ru := ru) (bu := bu + 4) (by omega) (by omega) (by omega) (hmc) (hri) (hfm) (hrl) (by omega) (sb1_m (c := bu + 4) hsb (by omega))) cl_X11_416 (qd_c (by decide +kernel)) (nn_ _) rfl (rf_of rfl) (Nat.le_of_ble_eq_true rfl) (Nat.le_of_ble_eq_true rfl) (Nat.le_of_ble_eq_true rfl) rfl ?_
    rintro U23 _ ⟨rfl, fU23, ⟨qU23, qU23o, qU23b, qU23p, qU23e⟩⟩
    show J_ zX11_playFootball T (po_X11_playFootball_e T ru bu m k s p q) 0 0 159 _ [] U23
    refine j_blx (F := fX11) tb_X11 (nn_ _) bk_X11_playFootball_e_159 bs_X11_playFootball_e_159 hz (fun K hK => ?_)
    refine hK 172 _ [] U23 ?_
    refine j_blx (F := fX11) tb_X11 (nn_ _) bk_X11_playFootball_e_172 bs_X11_playFootball_e_172 hz (fun K hK => ?_)
    refine (show po_X11_playFootball_e T ru bu m k s p q U23 (none) from ?_)
    have rU23 : rp9_ U23 m = soR_ ru (rp9_ T m) m s x22 := qU23e
    refine ⟨rfl, fr_t (fr_0 _ _) (fr_s fU23 rfl), qU23, so_t (so_r) qU23o (fun j => rfl), qU23b, ro_t (ro_r) qU23p, ?_⟩
    exact Eq.trans rU23 (Eq.symm (by have g9 := pfR__7 (r := ru) (a := rp9_ T m) (m := m) (k := k) (s := s) (q := p) (o := q) (show ¬ (k = 0) by (try simp only [z103_0, ← hx22e, z473]); omega) (show ¬ (k = 1) by (try simp only [z103_0, ← hx22e, z473]); omega) (show ¬ (k = 2) by (try simp only [z103_0, ← hx22e, z473]); omega) (show ¬ (k = 3) by (try simp only [z103_0, ← hx22e, z473]); omega) (show k = 4 by (try simp only [z103_0, ← hx22e, z473]); omega); (try simp only [z103_0, ← hx22e, z473] at g9); exact g9))
  refine j_tsO (pc := 1) (tgt := 162) (by decide) ds_X11_playFootball_1 (by omega) (by decide) (by decide) ?_
  refine j_blx (F := fX11) tb_X11 (nn_ _) bk_X11_playFootball_e_162 bs_X11_playFootball_e_162 hz (fun K hK => ?_)
  refine hK 169 _ [vI q, vI p, vI s, vI m, vR 111 0] T ?_
  refine j_callV (y := yX11_substitute) (Yc := zX11_substitute) (rest := []) [vI m, vI s, vI p, vI q] (ct_X11_substitute_e (T := T) (by omega) (by omega) (by rcases hp with z | z; omega; exact z) (by exact hq (by omega))) cl_X11_419 (qd_c (by decide +kernel)) (nn_ _) rfl (rf_of rfl) (Nat.le_of_ble_eq_true rfl) (Nat.le_of_ble_eq_true rfl) (Nat.le_of_ble_eq_true rfl) rfl ?_
  rintro U24 _ ⟨rfl, fU24, ⟨qU24p, qU24e⟩⟩
  show J_ zX11_playFootball T (po_X11_playFootball_e T ru bu m k s p q) 0 0 172 _ [] U24
  refine j_blx (F := fX11) tb_X11 (nn_ _) bk_X11_playFootball_e_172 bs_X11_playFootball_e_172 hz (fun K hK => ?_)
  refine (show po_X11_playFootball_e T ru bu m k s p q U24 (none) from ?_)
  have rU24 : rp9_ U24 m = suR_ (rp9_ T m) m s p q := qU24e
  refine ⟨rfl, fr_t (fr_0 _ _) (fr_s fU24 rfl), FM__f (ws := [(245, []), (241, []), (246, [])]) (hfm) fU24 ⟨fun _ => rfl, fun _ => rfl, trivial⟩, so_f (ws := [(245, []), (241, []), (246, [])]) (so_r) fU24 ⟨fun _ => rfl, fun _ => rfl, fun _ => rfl⟩, sb1_f (ws := [(245, []), (241, []), (246, [])]) (sb1_m (c := bu + 4) hsb (by omega)) fU24 ⟨fun _ => rfl, fun _ => rfl, fun _ => rfl⟩, ro_t (ro_r) qU24p, ?_⟩
  exact Eq.trans rU24 (Eq.symm (by have g9 := pfR__8 (r := ru) (a := rp9_ T m) (m := m) (k := k) (s := s) (q := p) (o := q) (show ¬ (k = 0) by (try simp only [z103_0]); omega) (show ¬ (k = 1) by (try simp only [z103_0]); omega) (show ¬ (k = 2) by (try simp only [z103_0]); omega) (show ¬ (k = 3) by (try simp only [z103_0]); omega) (show ¬ (k = 4) by (try simp only [z103_0]); omega); (try simp only [z103_0] at g9); exact g9))
