-- the play of a match: what one index holds, and what is done to it
noncomputable def cz_ {A : Type} (P : Prop) (x y : A) : A := @ite A P (Classical.propDecidable P) x y
theorem cz_t {A : Type} {P : Prop} {x y : A} (h : P) : cz_ P x y = x := by unfold cz_; exact if_pos h
theorem cz_f {A : Type} {P : Prop} {x y : A} (h : ¬ P) : cz_ P x y = y := by unfold cz_; exact if_neg h
abbrev Sg_ : Type := Nat → Int → Int
/-- the cells of a play that its course is told by -/
def dk_ (k : Nat) (j : Int) : Bool := Nat.beq k 448 || Nat.beq k 449 || (Nat.ble 466 k && Nat.ble k 473) || (Nat.beq k 103 && (decide (j = 3) || decide (j = 4) || decide (j = 5)))
abbrev rs9_ (T : Zt) (p : Int) : Sg_ := fun k j => cond (dk_ k j) (T k p j) 0
theorem rs_d {T : Zt} {p : Int} {k : Nat} {j : Int} (h : dk_ k j = true) : rs9_ T p k j = T k p j := by
  show cond (dk_ k j) (T k p j) 0 = T k p j
  rw [h]
  rfl
theorem rs_z {T : Zt} {p : Int} {k : Nat} {j : Int} (h : ¬ dk_ k j = true) : rs9_ T p k j = 0 := by
  show cond (dk_ k j) (T k p j) 0 = 0
  rw [Bool.not_eq_true] at h
  rw [h]
  rfl
/-- what leaves the cells of a play alone -/
theorem rs_n {T T1 : Zt} {p : Int} (h : ∀ (k : Nat) (j : Int), dk_ k j = true → T1 k p j = T k p j) : rs9_ T1 p = rs9_ T p := by
  funext k j
  by_cases z : dk_ k j = true
  · rw [rs_d z, rs_d z]; exact h k j z
  · rw [rs_z z, rs_z z]
theorem dk_c {k : Nat} {j : Int} (h : dk_ k j = true) : k = 448 ∨ k = 449 ∨ k = 466 ∨ k = 467 ∨ k = 468 ∨ k = 469 ∨ k = 470 ∨ k = 471 ∨ k = 472 ∨ k = 473 ∨ (k = 103 ∧ (j = 3 ∨ j = 4 ∨ j = 5)) := by
  unfold dk_ at h
  simp only [Bool.or_eq_true, Bool.and_eq_true, decide_eq_true_eq, Nat.beq_eq, Nat.ble_eq] at h
  omega
def u2_ (a : Sg_) (k : Nat) (j v : Int) : Sg_ := fun k' j' => if k' = k ∧ j' = j then v else a k' j'
theorem u2_s (a : Sg_) (k : Nat) (j v : Int) : u2_ a k j v k j = v := if_pos ⟨rfl, rfl⟩
theorem u2_n {a : Sg_} {k k' : Nat} {j j' v : Int} (h : ¬ (k' = k ∧ j' = j)) : u2_ a k j v k' j' = a k' j' := if_neg h
theorem u2_k {a : Sg_} {k k' : Nat} {j v : Int} (h : k' ≠ k) (j' : Int) : u2_ a k j v k' j' = a k' j' := if_neg (fun q => h q.1)
theorem rs_u {T T1 : Zt} {k : Nat} {p j v : Int} (h : T1 = up_ T k p j v) (d : dk_ k j = true) : rs9_ T1 p = u2_ (rs9_ T p) k j v := by
  funext k' j'
  by_cases z : k' = k ∧ j' = j
  · rw [z.1, z.2, u2_s, rs_d d]; exact up_f h
  · rw [u2_n z]
    by_cases y : dk_ k' j' = true
    · rw [rs_d y, rs_d y]; exact up_g h (fun q => z ⟨q.1, q.2.2⟩)
    · rw [rs_z y, rs_z y]
/-- a whole row filled -/
def fy2_ (a : Sg_) (k : Nat) (n v : Int) : Sg_ := fun k' j' => if k' = k ∧ 0 ≤ j' ∧ j' < n then v else a k' j'
theorem fy2_s {a : Sg_} {k : Nat} {n v j : Int} (h : 0 ≤ j ∧ j < n) : fy2_ a k n v k j = v := if_pos ⟨rfl, h⟩
theorem fy2_o {a : Sg_} {k : Nat} {n v j : Int} (h : ¬ (0 ≤ j ∧ j < n)) : fy2_ a k n v k j = a k j := if_neg (fun q => h q.2)
theorem fy2_k {a : Sg_} {k k' : Nat} {n v : Int} (h : k' ≠ k) (j : Int) : fy2_ a k n v k' j = a k' j := if_neg (fun q => h q.1)
theorem rs_f {T T1 : Zt} {k : Nat} {p n v : Int} (f : fr_ [(k, [])] T T1) (w : ∀ k' : Nat, k' ≠ k → ∀ j, fw_ [(k, [])] k' j = false) (a : ∀ j, 0 ≤ j → j < n → T1 k p j = v) (b : ∀ j, ¬ (0 ≤ j ∧ j < n) → T1 k p j = T k p j) (d : ∀ j, dk_ k j = true) : rs9_ T1 p = fy2_ (rs9_ T p) k n v := by
  funext k' j'
  by_cases z : k' = k
  · subst z
    by_cases y : 0 ≤ j' ∧ j' < n
    · rw [fy2_s y, rs_d (d j')]; exact a j' y.1 y.2
    · rw [fy2_o y, rs_d (d j'), rs_d (d j')]; exact b j' y
  · rw [fy2_k z]
    by_cases y : dk_ k' j' = true
    · rw [rs_d y, rs_d y]; exact f k' p j' (w k' z j')
    · rw [rs_z y, rs_z y]
theorem fw_1 {k k' : Nat} (h : k' ≠ k) (j : Int) : fw_ [(k, [])] k' j = false := by
  simp [fw_, h]
/-- those behind k go one place to the front -/
def cg9_ (a : Sg_) (s k : Int) : Sg_ := fun k' j => if k' = 471 ∧ s * 6 + k ≤ j ∧ j < s * 6 + a 470 s - 1 then a 471 (j + 1) else a k' j
theorem cg9_k {a : Sg_} {s k : Int} {k' : Nat} (h : k' ≠ 471) (j : Int) : cg9_ a s k k' j = a k' j := if_neg (fun q => h q.1)
theorem cg9_i {a : Sg_} {s k j : Int} (h : s * 6 + k ≤ j ∧ j < s * 6 + a 470 s - 1) : cg9_ a s k 471 j = a 471 (j + 1) := if_pos ⟨rfl, h⟩
theorem cg9_o {a : Sg_} {s k j : Int} (h : ¬ (s * 6 + k ≤ j ∧ j < s * 6 + a 470 s - 1)) : cg9_ a s k 471 j = a 471 j := if_neg (fun q => h q.2)
def rt9_ (a : Sg_) (s : Int) : Sg_ := u2_ (cg9_ a s 0) 471 (s * 6 + a 470 s - 1) (a 471 (s * 6))
/-- where a person stands in a side's field, from i on -/
def fpn_ (a : Sg_) (s q : Int) : Nat → Int → Int
  | 0, _ => -1
  | n + 1, i => if a 448 (a 471 (s * 6 + i)) = q then i else fpn_ a s q n (i + 1)
def fp9_ (a : Sg_) (s q : Int) : Int := fpn_ a s q (a 470 s).toNat 0
theorem fpn_t {a : Sg_} {s q i : Int} {n : Nat} (h : a 448 (a 471 (s * 6 + i)) = q) : fpn_ a s q (n + 1) i = i := if_pos h
theorem fpn_f {a : Sg_} {s q i : Int} {n : Nat} (h : a 448 (a 471 (s * 6 + i)) ≠ q) : fpn_ a s q (n + 1) i = fpn_ a s q n (i + 1) := if_neg h
theorem fpn_b {a : Sg_} {s q : Int} : ∀ (n : Nat) (i : Int), fpn_ a s q n i = -1 ∨ (i ≤ fpn_ a s q n i ∧ fpn_ a s q n i < i + n ∧ a 448 (a 471 (s * 6 + fpn_ a s q n i)) = q)
  | 0, _ => Or.inl rfl
  | n + 1, i => by
    by_cases z : a 448 (a 471 (s * 6 + i)) = q
    · rw [fpn_t z]; exact Or.inr ⟨Int.le_refl _, by omega, z⟩
    · rw [fpn_f z]
      rcases fpn_b (a := a) (s := s) (q := q) n (i + 1) with y | y
      · exact Or.inl y
      · exact Or.inr ⟨by omega, by omega, y.2.2⟩
theorem fp9_b {a : Sg_} {s q : Int} : fp9_ a s q = -1 ∨ (0 ≤ fp9_ a s q ∧ fp9_ a s q < a 470 s ∧ a 448 (a 471 (s * 6 + fp9_ a s q)) = q) := by
  rcases fpn_b (a := a) (s := s) (q := q) (a 470 s).toNat 0 with y | y
  · exact Or.inl y
  · refine Or.inr ⟨y.1, ?_, y.2.2⟩
    have z := y.2.1
    show fpn_ a s q (a 470 s).toNat 0 < a 470 s
    omega
/-- where a person sits on a side's bench, from i on -/
def bpn_ (a : Sg_) (s q : Int) : Nat → Int → Int
  | 0, _ => -1
  | n + 1, i => if a 448 (s * 10 + i) = q ∧ a 472 (s * 10 + i) = 0 then s * 10 + i else bpn_ a s q n (i + 1)
def bq9_ (a : Sg_) (s q : Int) : Int := bpn_ a s q (a 449 s).toNat 0
theorem bpn_t {a : Sg_} {s q i : Int} {n : Nat} (h : a 448 (s * 10 + i) = q ∧ a 472 (s * 10 + i) = 0) : bpn_ a s q (n + 1) i = s * 10 + i := if_pos h
theorem bpn_f {a : Sg_} {s q i : Int} {n : Nat} (h : ¬ (a 448 (s * 10 + i) = q ∧ a 472 (s * 10 + i) = 0)) : bpn_ a s q (n + 1) i = bpn_ a s q n (i + 1) := if_neg h
theorem bpn_b {a : Sg_} {s q : Int} : ∀ (n : Nat) (i : Int), bpn_ a s q n i = -1 ∨ (s * 10 + i ≤ bpn_ a s q n i ∧ bpn_ a s q n i < s * 10 + i + n ∧ a 448 (bpn_ a s q n i) = q ∧ a 472 (bpn_ a s q n i) = 0)
  | 0, _ => Or.inl rfl
  | n + 1, i => by
    by_cases z : a 448 (s * 10 + i) = q ∧ a 472 (s * 10 + i) = 0
    · rw [bpn_t z]; exact Or.inr ⟨Int.le_refl _, by omega, z.1, z.2⟩
    · rw [bpn_f z]
      rcases bpn_b (a := a) (s := s) (q := q) n (i + 1) with y | y
      · exact Or.inl y
      · exact Or.inr ⟨by omega, by omega, y.2.2⟩
theorem bq9_b {a : Sg_} {s q : Int} : bq9_ a s q = -1 ∨ (s * 10 ≤ bq9_ a s q ∧ bq9_ a s q < s * 10 + a 449 s ∧ a 448 (bq9_ a s q) = q ∧ a 472 (bq9_ a s q) = 0) := by
  rcases bpn_b (a := a) (s := s) (q := q) (a 449 s).toNat 0 with y | y
  · exact Or.inl y
  · have z := y.2.1
    have z2 := y.1
    refine Or.inr ⟨?_, ?_, y.2.2⟩
    · show s * 10 ≤ bpn_ a s q (a 449 s).toNat 0
      omega
    · show bpn_ a s q (a 449 s).toNat 0 < s * 10 + a 449 s
      omega
/-- a part of it -/
def cgp_ (a : Sg_) (s k j : Int) : Sg_ := fun k' i => if k' = 471 ∧ s * 6 + k ≤ i ∧ i < s * 6 + j - 1 then a 471 (i + 1) else a k' i
theorem cgp_0 {a : Sg_} {s k : Int} : cgp_ a s k (k + 1) = a := by
  funext k' i
  exact if_neg (fun q => by omega)
theorem cgp_s {a : Sg_} {s k j : Int} (h : k + 1 ≤ j) : u2_ (cgp_ a s k j) 471 (s * 6 + j - 1) (a 471 (s * 6 + j)) = cgp_ a s k (j + 1) := by
  funext k' i
  unfold cgp_
  by_cases z : k' = 471 ∧ i = s * 6 + j - 1
  · obtain ⟨z1, z2⟩ := z
    subst z1
    subst z2
    have y : (471 : Nat) = 471 ∧ s * 6 + k ≤ s * 6 + j - 1 ∧ s * 6 + j - 1 < s * 6 + (j + 1) - 1 := ⟨rfl, by omega, by omega⟩
    rw [u2_s, if_pos y, show s * 6 + j - 1 + 1 = s * 6 + j by omega]
  · rw [u2_n z]
    by_cases y : k' = 471 ∧ s * 6 + k ≤ i ∧ i < s * 6 + j - 1
    · have y2 : k' = 471 ∧ s * 6 + k ≤ i ∧ i < s * 6 + (j + 1) - 1 := ⟨y.1, y.2.1, by omega⟩
      rw [if_pos y, if_pos y2]
    · have y2 : ¬ (k' = 471 ∧ s * 6 + k ≤ i ∧ i < s * 6 + (j + 1) - 1) := fun q => y ⟨q.1, q.2.1, by
        have z3 : ¬ i = s * 6 + j - 1 := fun w => z ⟨q.1, w⟩
        omega⟩
      rw [if_neg y, if_neg y2]
theorem cgp_e {a : Sg_} {s k j : Int} (h : a 470 s ≤ j) (h2 : j = k + 1 ∨ j ≤ a 470 s) : cgp_ a s k j = cg9_ a s k := by
  funext k' i
  unfold cgp_ cg9_
  by_cases y : k' = 471 ∧ s * 6 + k ≤ i ∧ i < s * 6 + j - 1
  · have y2 : k' = 471 ∧ s * 6 + k ≤ i ∧ i < s * 6 + a 470 s - 1 := ⟨y.1, y.2.1, by omega⟩
    rw [if_pos y, if_pos y2]
  · have y2 : ¬ (k' = 471 ∧ s * 6 + k ≤ i ∧ i < s * 6 + a 470 s - 1) := fun q => y ⟨q.1, q.2.1, by omega⟩
    rw [if_neg y, if_neg y2]
theorem cgp_g {a : Sg_} {s k j i : Int} (h : s * 6 + j - 1 ≤ i) : cgp_ a s k j 471 i = a 471 i := if_neg (fun q => by omega)
/-- the first of a side stand in their order -/
def bl9_ (b : Sg_) (s k : Int) : Sg_ := fun k' j => if k' = 471 ∧ s * 6 ≤ j ∧ j < s * 6 + k then s * 10 + (j - s * 6) else if k' = 472 ∧ s * 10 ≤ j ∧ j < s * 10 + k then 1 else b k' j
theorem bl9_0 {b : Sg_} {s : Int} : bl9_ b s 0 = b := by
  funext k' j
  unfold bl9_
  have n1 : ¬ (k' = 471 ∧ s * 6 ≤ j ∧ j < s * 6 + 0) := fun q => by omega
  have n2 : ¬ (k' = 472 ∧ s * 10 ≤ j ∧ j < s * 10 + 0) := fun q => by omega
  rw [if_neg n1, if_neg n2]
theorem bl9_s {b : Sg_} {s k : Int} (h : 0 ≤ k) : u2_ (u2_ (bl9_ b s k) 471 (s * 6 + k) (s * 10 + k)) 472 (s * 10 + k) 1 = bl9_ b s (k + 1) := by
  funext k' j
  by_cases z : k' = 472 ∧ j = s * 10 + k
  · obtain ⟨z1, z2⟩ := z
    subst z1
    subst z2
    rw [u2_s]
    unfold bl9_
    have n1 : ¬ ((472 : Nat) = 471 ∧ s * 6 ≤ s * 10 + k ∧ s * 10 + k < s * 6 + (k + 1)) := fun q => absurd q.1 (by decide)
    have n2 : (472 : Nat) = 472 ∧ s * 10 ≤ s * 10 + k ∧ s * 10 + k < s * 10 + (k + 1) := ⟨rfl, by omega, by omega⟩
    rw [if_neg n1, if_pos n2]
  · rw [u2_n z]
    by_cases y : k' = 471 ∧ j = s * 6 + k
    · obtain ⟨y1, y2⟩ := y
      subst y1
      subst y2
      rw [u2_s]
      unfold bl9_
      have n1 : (471 : Nat) = 471 ∧ s * 6 ≤ s * 6 + k ∧ s * 6 + k < s * 6 + (k + 1) := ⟨rfl, by omega, by omega⟩
      rw [if_pos n1]
      omega
    · rw [u2_n y]
      unfold bl9_
      by_cases x : k' = 471 ∧ s * 6 ≤ j ∧ j < s * 6 + k
      · have x2 : k' = 471 ∧ s * 6 ≤ j ∧ j < s * 6 + (k + 1) := ⟨x.1, x.2.1, by omega⟩
        rw [if_pos x, if_pos x2]
      · have x2 : ¬ (k' = 471 ∧ s * 6 ≤ j ∧ j < s * 6 + (k + 1)) := fun q => x ⟨q.1, q.2.1, by
          have w : ¬ j = s * 6 + k := fun w => y ⟨q.1, w⟩
          omega⟩
        rw [if_neg x, if_neg x2]
        by_cases v : k' = 472 ∧ s * 10 ≤ j ∧ j < s * 10 + k
        · have v2 : k' = 472 ∧ s * 10 ≤ j ∧ j < s * 10 + (k + 1) := ⟨v.1, v.2.1, by omega⟩
          rw [if_pos v, if_pos v2]
        · have v2 : ¬ (k' = 472 ∧ s * 10 ≤ j ∧ j < s * 10 + (k + 1)) := fun q => v ⟨q.1, q.2.1, by
            have w : ¬ j = s * 10 + k := fun w => z ⟨q.1, w⟩
            omega⟩
          rw [if_neg v, if_neg v2]
def os9_ (b : Sg_) (n : Int) : Nat → Sg_
  | 0 => b
  | s + 1 => bl9_ (u2_ (os9_ b n s) 470 s n) s n
theorem os9_s {b : Sg_} {n s : Int} (h : 0 ≤ s) : os9_ b n (s + 1).toNat = bl9_ (u2_ (os9_ b n s.toNat) 470 s n) s n := by
  rw [show (s + 1).toNat = s.toNat + 1 by omega]
  show bl9_ (u2_ (os9_ b n s.toNat) 470 (s.toNat : Int) n) (s.toNat : Int) n = _
  rw [show ((s.toNat : Nat) : Int) = s by omega]
/-- back to the beginning -/
def bi9_ (a : Sg_) (v : Int) : Sg_ := fy2_ (fy2_ (fy2_ (fy2_ (fy2_ (fy2_ (u2_ (u2_ (u2_ a 103 3 0) 103 4 0) 103 5 v) 466 2 0) 467 2 0) 468 2 0) 469 2 0) 472 20 0) 473 20 0
noncomputable def bb9_ (r : Int → Int) (a : Sg_) : Sg_ := os9_ (bi9_ a (cz_ (r 0 = 3) 1 0)) (r 9) 2
noncomputable def lw9_ (r : Int → Int) (a : Sg_) (k s q o : Int) : Int := (cz_ (a 103 3 ≠ 0) (1) (cz_ (¬ ((k = 0 ∨ (0 ≤ s ∧ s ≤ 1)) ∧ ((r 0 = 0 ∧ 0 ≤ k ∧ k ≤ 5) ∨ (r 0 = 1 ∧ (k = 1 ∨ k = 5)) ∨ (r 0 = 2 ∧ (k = 1 ∨ k = 6)) ∨ (¬ r 0 = 0 ∧ ¬ r 0 = 1 ∧ ¬ r 0 = 2 ∧ 1 ≤ k ∧ k ≤ 4)))) (2) (cz_ (¬ ((r 0 = 0 ∧ (a 103 4 ≠ 1 ∨ (k ≠ 1 ∧ k ≠ 2))) ∨ (r 0 ≠ 0 ∧ (r 0 ≠ 3 ∨ s = a 103 5)))) (3) (cz_ ((k = 5 ∨ (r 0 = 0 ∧ k ≠ 0)) ∧ fp9_ a s q = -1) (4) (cz_ (k = 5) (cz_ (bq9_ a s o = -1) (5) (cz_ (r 10 ≤ a 469 s) (6) (cz_ (r 0 ≠ 3 ∨ k ≠ 1 ∨ (1 ≤ o ∧ o ≤ 4)) (0) (7)))) (cz_ (r 0 ≠ 3 ∨ k ≠ 1 ∨ (1 ≤ o ∧ o ≤ 4)) (0) (7)))))))
theorem lw9__1 {r : Int → Int} {a : Sg_} {k s q o : Int} (h0 : a 103 3 ≠ 0) : lw9_ r a k s q o = 1 := by
  unfold lw9_
  rw [cz_t h0]
theorem lw9__2 {r : Int → Int} {a : Sg_} {k s q o : Int} (h0 : ¬ (a 103 3 ≠ 0)) (h1 : ¬ ((k = 0 ∨ (0 ≤ s ∧ s ≤ 1)) ∧ ((r 0 = 0 ∧ 0 ≤ k ∧ k ≤ 5) ∨ (r 0 = 1 ∧ (k = 1 ∨ k = 5)) ∨ (r 0 = 2 ∧ (k = 1 ∨ k = 6)) ∨ (¬ r 0 = 0 ∧ ¬ r 0 = 1 ∧ ¬ r 0 = 2 ∧ 1 ≤ k ∧ k ≤ 4)))) : lw9_ r a k s q o = 2 := by
  unfold lw9_
  rw [cz_f h0, cz_t h1]
theorem lw9__3 {r : Int → Int} {a : Sg_} {k s q o : Int} (h0 : ¬ (a 103 3 ≠ 0)) (h1 : ¬ (¬ ((k = 0 ∨ (0 ≤ s ∧ s ≤ 1)) ∧ ((r 0 = 0 ∧ 0 ≤ k ∧ k ≤ 5) ∨ (r 0 = 1 ∧ (k = 1 ∨ k = 5)) ∨ (r 0 = 2 ∧ (k = 1 ∨ k = 6)) ∨ (¬ r 0 = 0 ∧ ¬ r 0 = 1 ∧ ¬ r 0 = 2 ∧ 1 ≤ k ∧ k ≤ 4))))) (h2 : ¬ ((r 0 = 0 ∧ (a 103 4 ≠ 1 ∨ (k ≠ 1 ∧ k ≠ 2))) ∨ (r 0 ≠ 0 ∧ (r 0 ≠ 3 ∨ s = a 103 5)))) : lw9_ r a k s q o = 3 := by
  unfold lw9_
  rw [cz_f h0, cz_f h1, cz_t h2]
theorem lw9__4 {r : Int → Int} {a : Sg_} {k s q o : Int} (h0 : ¬ (a 103 3 ≠ 0)) (h1 : ¬ (¬ ((k = 0 ∨ (0 ≤ s ∧ s ≤ 1)) ∧ ((r 0 = 0 ∧ 0 ≤ k ∧ k ≤ 5) ∨ (r 0 = 1 ∧ (k = 1 ∨ k = 5)) ∨ (r 0 = 2 ∧ (k = 1 ∨ k = 6)) ∨ (¬ r 0 = 0 ∧ ¬ r 0 = 1 ∧ ¬ r 0 = 2 ∧ 1 ≤ k ∧ k ≤ 4))))) (h2 : ¬ (¬ ((r 0 = 0 ∧ (a 103 4 ≠ 1 ∨ (k ≠ 1 ∧ k ≠ 2))) ∨ (r 0 ≠ 0 ∧ (r 0 ≠ 3 ∨ s = a 103 5))))) (h3 : (k = 5 ∨ (r 0 = 0 ∧ k ≠ 0)) ∧ fp9_ a s q = -1) : lw9_ r a k s q o = 4 := by
  unfold lw9_
  rw [cz_f h0, cz_f h1, cz_f h2, cz_t h3]
theorem lw9__5 {r : Int → Int} {a : Sg_} {k s q o : Int} (h0 : ¬ (a 103 3 ≠ 0)) (h1 : ¬ (¬ ((k = 0 ∨ (0 ≤ s ∧ s ≤ 1)) ∧ ((r 0 = 0 ∧ 0 ≤ k ∧ k ≤ 5) ∨ (r 0 = 1 ∧ (k = 1 ∨ k = 5)) ∨ (r 0 = 2 ∧ (k = 1 ∨ k = 6)) ∨ (¬ r 0 = 0 ∧ ¬ r 0 = 1 ∧ ¬ r 0 = 2 ∧ 1 ≤ k ∧ k ≤ 4))))) (h2 : ¬ (¬ ((r 0 = 0 ∧ (a 103 4 ≠ 1 ∨ (k ≠ 1 ∧ k ≠ 2))) ∨ (r 0 ≠ 0 ∧ (r 0 ≠ 3 ∨ s = a 103 5))))) (h3 : ¬ ((k = 5 ∨ (r 0 = 0 ∧ k ≠ 0)) ∧ fp9_ a s q = -1)) (h4 : k = 5) (h5 : bq9_ a s o = -1) : lw9_ r a k s q o = 5 := by
  unfold lw9_
  rw [cz_f h0, cz_f h1, cz_f h2, cz_f h3, cz_t h4, cz_t h5]
theorem lw9__6 {r : Int → Int} {a : Sg_} {k s q o : Int} (h0 : ¬ (a 103 3 ≠ 0)) (h1 : ¬ (¬ ((k = 0 ∨ (0 ≤ s ∧ s ≤ 1)) ∧ ((r 0 = 0 ∧ 0 ≤ k ∧ k ≤ 5) ∨ (r 0 = 1 ∧ (k = 1 ∨ k = 5)) ∨ (r 0 = 2 ∧ (k = 1 ∨ k = 6)) ∨ (¬ r 0 = 0 ∧ ¬ r 0 = 1 ∧ ¬ r 0 = 2 ∧ 1 ≤ k ∧ k ≤ 4))))) (h2 : ¬ (¬ ((r 0 = 0 ∧ (a 103 4 ≠ 1 ∨ (k ≠ 1 ∧ k ≠ 2))) ∨ (r 0 ≠ 0 ∧ (r 0 ≠ 3 ∨ s = a 103 5))))) (h3 : ¬ ((k = 5 ∨ (r 0 = 0 ∧ k ≠ 0)) ∧ fp9_ a s q = -1)) (h4 : k = 5) (h5 : ¬ (bq9_ a s o = -1)) (h6 : r 10 ≤ a 469 s) : lw9_ r a k s q o = 6 := by
  unfold lw9_
  rw [cz_f h0, cz_f h1, cz_f h2, cz_f h3, cz_t h4, cz_f h5, cz_t h6]
theorem lw9__7 {r : Int → Int} {a : Sg_} {k s q o : Int} (h0 : ¬ (a 103 3 ≠ 0)) (h1 : ¬ (¬ ((k = 0 ∨ (0 ≤ s ∧ s ≤ 1)) ∧ ((r 0 = 0 ∧ 0 ≤ k ∧ k ≤ 5) ∨ (r 0 = 1 ∧ (k = 1 ∨ k = 5)) ∨ (r 0 = 2 ∧ (k = 1 ∨ k = 6)) ∨ (¬ r 0 = 0 ∧ ¬ r 0 = 1 ∧ ¬ r 0 = 2 ∧ 1 ≤ k ∧ k ≤ 4))))) (h2 : ¬ (¬ ((r 0 = 0 ∧ (a 103 4 ≠ 1 ∨ (k ≠ 1 ∧ k ≠ 2))) ∨ (r 0 ≠ 0 ∧ (r 0 ≠ 3 ∨ s = a 103 5))))) (h3 : ¬ ((k = 5 ∨ (r 0 = 0 ∧ k ≠ 0)) ∧ fp9_ a s q = -1)) (h4 : k = 5) (h5 : ¬ (bq9_ a s o = -1)) (h6 : ¬ (r 10 ≤ a 469 s)) (h7 : r 0 ≠ 3 ∨ k ≠ 1 ∨ (1 ≤ o ∧ o ≤ 4)) : lw9_ r a k s q o = 0 := by
  unfold lw9_
  rw [cz_f h0, cz_f h1, cz_f h2, cz_f h3, cz_t h4, cz_f h5, cz_f h6, cz_t h7]
theorem lw9__8 {r : Int → Int} {a : Sg_} {k s q o : Int} (h0 : ¬ (a 103 3 ≠ 0)) (h1 : ¬ (¬ ((k = 0 ∨ (0 ≤ s ∧ s ≤ 1)) ∧ ((r 0 = 0 ∧ 0 ≤ k ∧ k ≤ 5) ∨ (r 0 = 1 ∧ (k = 1 ∨ k = 5)) ∨ (r 0 = 2 ∧ (k = 1 ∨ k = 6)) ∨ (¬ r 0 = 0 ∧ ¬ r 0 = 1 ∧ ¬ r 0 = 2 ∧ 1 ≤ k ∧ k ≤ 4))))) (h2 : ¬ (¬ ((r 0 = 0 ∧ (a 103 4 ≠ 1 ∨ (k ≠ 1 ∧ k ≠ 2))) ∨ (r 0 ≠ 0 ∧ (r 0 ≠ 3 ∨ s = a 103 5))))) (h3 : ¬ ((k = 5 ∨ (r 0 = 0 ∧ k ≠ 0)) ∧ fp9_ a s q = -1)) (h4 : k = 5) (h5 : ¬ (bq9_ a s o = -1)) (h6 : ¬ (r 10 ≤ a 469 s)) (h7 : ¬ (r 0 ≠ 3 ∨ k ≠ 1 ∨ (1 ≤ o ∧ o ≤ 4))) : lw9_ r a k s q o = 7 := by
  unfold lw9_
  rw [cz_f h0, cz_f h1, cz_f h2, cz_f h3, cz_t h4, cz_f h5, cz_f h6, cz_f h7]
theorem lw9__9 {r : Int → Int} {a : Sg_} {k s q o : Int} (h0 : ¬ (a 103 3 ≠ 0)) (h1 : ¬ (¬ ((k = 0 ∨ (0 ≤ s ∧ s ≤ 1)) ∧ ((r 0 = 0 ∧ 0 ≤ k ∧ k ≤ 5) ∨ (r 0 = 1 ∧ (k = 1 ∨ k = 5)) ∨ (r 0 = 2 ∧ (k = 1 ∨ k = 6)) ∨ (¬ r 0 = 0 ∧ ¬ r 0 = 1 ∧ ¬ r 0 = 2 ∧ 1 ≤ k ∧ k ≤ 4))))) (h2 : ¬ (¬ ((r 0 = 0 ∧ (a 103 4 ≠ 1 ∨ (k ≠ 1 ∧ k ≠ 2))) ∨ (r 0 ≠ 0 ∧ (r 0 ≠ 3 ∨ s = a 103 5))))) (h3 : ¬ ((k = 5 ∨ (r 0 = 0 ∧ k ≠ 0)) ∧ fp9_ a s q = -1)) (h4 : ¬ (k = 5)) (h5 : r 0 ≠ 3 ∨ k ≠ 1 ∨ (1 ≤ o ∧ o ≤ 4)) : lw9_ r a k s q o = 0 := by
  unfold lw9_
  rw [cz_f h0, cz_f h1, cz_f h2, cz_f h3, cz_f h4, cz_t h5]
theorem lw9__10 {r : Int → Int} {a : Sg_} {k s q o : Int} (h0 : ¬ (a 103 3 ≠ 0)) (h1 : ¬ (¬ ((k = 0 ∨ (0 ≤ s ∧ s ≤ 1)) ∧ ((r 0 = 0 ∧ 0 ≤ k ∧ k ≤ 5) ∨ (r 0 = 1 ∧ (k = 1 ∨ k = 5)) ∨ (r 0 = 2 ∧ (k = 1 ∨ k = 6)) ∨ (¬ r 0 = 0 ∧ ¬ r 0 = 1 ∧ ¬ r 0 = 2 ∧ 1 ≤ k ∧ k ≤ 4))))) (h2 : ¬ (¬ ((r 0 = 0 ∧ (a 103 4 ≠ 1 ∨ (k ≠ 1 ∧ k ≠ 2))) ∨ (r 0 ≠ 0 ∧ (r 0 ≠ 3 ∨ s = a 103 5))))) (h3 : ¬ ((k = 5 ∨ (r 0 = 0 ∧ k ≠ 0)) ∧ fp9_ a s q = -1)) (h4 : ¬ (k = 5)) (h5 : ¬ (r 0 ≠ 3 ∨ k ≠ 1 ∨ (1 ≤ o ∧ o ≤ 4))) : lw9_ r a k s q o = 7 := by
  unfold lw9_
  rw [cz_f h0, cz_f h1, cz_f h2, cz_f h3, cz_f h4, cz_f h5]
noncomputable def so9_ (r : Int → Int) (a : Sg_) (s k : Int) : Sg_ := (cz_ (k = -1) (a) (cz_ (2 * (a 470 s - 1) < r 9) (u2_ (u2_ (u2_ (u2_ (cg9_ (u2_ a 472 (a 471 (s * 6 + k)) 3) s k) 470 s (a 470 s - 1)) 103 3 1) 468 s 0) 468 (1 - s) (r 12)) (u2_ (cg9_ (u2_ a 472 (a 471 (s * 6 + k)) 3) s k) 470 s (a 470 s - 1))))
theorem so9__1 {r : Int → Int} {a : Sg_} {s k : Int} (h0 : k = -1) : so9_ r a s k = a := by
  unfold so9_
  rw [cz_t h0]
theorem so9__2 {r : Int → Int} {a : Sg_} {s k : Int} (h0 : ¬ (k = -1)) (h1 : 2 * (a 470 s - 1) < r 9) : so9_ r a s k = u2_ (u2_ (u2_ (u2_ (cg9_ (u2_ a 472 (a 471 (s * 6 + k)) 3) s k) 470 s (a 470 s - 1)) 103 3 1) 468 s 0) 468 (1 - s) (r 12) := by
  unfold so9_
  rw [cz_f h0, cz_t h1]
theorem so9__3 {r : Int → Int} {a : Sg_} {s k : Int} (h0 : ¬ (k = -1)) (h1 : ¬ (2 * (a 470 s - 1) < r 9)) : so9_ r a s k = u2_ (cg9_ (u2_ a 472 (a 471 (s * 6 + k)) 3) s k) 470 s (a 470 s - 1) := by
  unfold so9_
  rw [cz_f h0, cz_f h1]
noncomputable def yl9_ (r : Int → Int) (a : Sg_) (s k : Int) : Sg_ := (cz_ (k = -1) (a) (cz_ (wr_ (a 473 (a 471 (s * 6 + k)) + 1) = 2) (so9_ r (u2_ a 473 (a 471 (s * 6 + k)) (wr_ (a 473 (a 471 (s * 6 + k)) + 1))) s k) (u2_ a 473 (a 471 (s * 6 + k)) (wr_ (a 473 (a 471 (s * 6 + k)) + 1)))))
theorem yl9__1 {r : Int → Int} {a : Sg_} {s k : Int} (h0 : k = -1) : yl9_ r a s k = a := by
  unfold yl9_
  rw [cz_t h0]
theorem yl9__2 {r : Int → Int} {a : Sg_} {s k : Int} (h0 : ¬ (k = -1)) (h1 : wr_ (a 473 (a 471 (s * 6 + k)) + 1) = 2) : yl9_ r a s k = so9_ r (u2_ a 473 (a 471 (s * 6 + k)) (wr_ (a 473 (a 471 (s * 6 + k)) + 1))) s k := by
  unfold yl9_
  rw [cz_f h0, cz_t h1]
theorem yl9__3 {r : Int → Int} {a : Sg_} {s k : Int} (h0 : ¬ (k = -1)) (h1 : ¬ (wr_ (a 473 (a 471 (s * 6 + k)) + 1) = 2)) : yl9_ r a s k = u2_ a 473 (a 471 (s * 6 + k)) (wr_ (a 473 (a 471 (s * 6 + k)) + 1)) := by
  unfold yl9_
  rw [cz_f h0, cz_f h1]
noncomputable def su9_ (r : Int → Int) (a : Sg_) (s q o : Int) : Sg_ := (cz_ (fp9_ a s q = -1 ∨ bq9_ a s o = -1) (a) (u2_ (u2_ (u2_ (u2_ a 472 (a 471 (s * 6 + fp9_ a s q)) 2) 472 (bq9_ a s o) 1) 471 (s * 6 + fp9_ a s q) (bq9_ a s o)) 469 s (wr_ (a 469 s + 1))))
theorem su9__1 {r : Int → Int} {a : Sg_} {s q o : Int} (h0 : fp9_ a s q = -1 ∨ bq9_ a s o = -1) : su9_ r a s q o = a := by
  unfold su9_
  rw [cz_t h0]
theorem su9__2 {r : Int → Int} {a : Sg_} {s q o : Int} (h0 : ¬ (fp9_ a s q = -1 ∨ bq9_ a s o = -1)) : su9_ r a s q o = u2_ (u2_ (u2_ (u2_ a 472 (a 471 (s * 6 + fp9_ a s q)) 2) 472 (bq9_ a s o) 1) 471 (s * 6 + fp9_ a s q) (bq9_ a s o)) 469 s (wr_ (a 469 s + 1)) := by
  unfold su9_
  rw [cz_f h0]
noncomputable def pf9_ (r : Int → Int) (a : Sg_) (k s q : Int) : Sg_ := (cz_ (k = 1) (u2_ a 468 s (wr_ (a 468 s + 1))) (cz_ (k = 2) (u2_ a 468 (1 - s) (wr_ (a 468 (1 - s) + 1))) (cz_ (k = 3) (yl9_ r a s (fp9_ a s q)) (cz_ (k = 4) (so9_ r a s (fp9_ a s q)) (cz_ (wr_ (a 103 4 + 1) = 3) (u2_ (u2_ a 103 4 (wr_ (a 103 4 + 1))) 103 3 1) (u2_ (u2_ a 103 4 (wr_ (a 103 4 + 1))) 103 3 0))))))
theorem pf9__1 {r : Int → Int} {a : Sg_} {k s q : Int} (h0 : k = 1) : pf9_ r a k s q = u2_ a 468 s (wr_ (a 468 s + 1)) := by
  unfold pf9_
  rw [cz_t h0]
theorem pf9__2 {r : Int → Int} {a : Sg_} {k s q : Int} (h0 : ¬ (k = 1)) (h1 : k = 2) : pf9_ r a k s q = u2_ a 468 (1 - s) (wr_ (a 468 (1 - s) + 1)) := by
  unfold pf9_
  rw [cz_f h0, cz_t h1]
theorem pf9__3 {r : Int → Int} {a : Sg_} {k s q : Int} (h0 : ¬ (k = 1)) (h1 : ¬ (k = 2)) (h2 : k = 3) : pf9_ r a k s q = yl9_ r a s (fp9_ a s q) := by
  unfold pf9_
  rw [cz_f h0, cz_f h1, cz_t h2]
theorem pf9__4 {r : Int → Int} {a : Sg_} {k s q : Int} (h0 : ¬ (k = 1)) (h1 : ¬ (k = 2)) (h2 : ¬ (k = 3)) (h3 : k = 4) : pf9_ r a k s q = so9_ r a s (fp9_ a s q) := by
  unfold pf9_
  rw [cz_f h0, cz_f h1, cz_f h2, cz_t h3]
theorem pf9__5 {r : Int → Int} {a : Sg_} {k s q : Int} (h0 : ¬ (k = 1)) (h1 : ¬ (k = 2)) (h2 : ¬ (k = 3)) (h3 : ¬ (k = 4)) (h4 : wr_ (a 103 4 + 1) = 3) : pf9_ r a k s q = u2_ (u2_ a 103 4 (wr_ (a 103 4 + 1))) 103 3 1 := by
  unfold pf9_
  rw [cz_f h0, cz_f h1, cz_f h2, cz_f h3, cz_t h4]
theorem pf9__6 {r : Int → Int} {a : Sg_} {k s q : Int} (h0 : ¬ (k = 1)) (h1 : ¬ (k = 2)) (h2 : ¬ (k = 3)) (h3 : ¬ (k = 4)) (h4 : ¬ (wr_ (a 103 4 + 1) = 3)) : pf9_ r a k s q = u2_ (u2_ a 103 4 (wr_ (a 103 4 + 1))) 103 3 0 := by
  unfold pf9_
  rw [cz_f h0, cz_f h1, cz_f h2, cz_f h3, cz_f h4]
noncomputable def pv9_ (r : Int → Int) (a : Sg_) (s : Int) : Sg_ := (cz_ (a 103 5 = s) (cz_ (a 103 4 = 4) (cz_ ((3 * r 11 + 4) / 5 ≤ wr_ (a 466 s + 1) ∧ 2 ≤ wr_ (wr_ (a 466 s + 1) - a 466 (1 - s))) (cz_ (wr_ (a 468 s + 1) = 3) (u2_ (u2_ (fy2_ (u2_ (u2_ (a) 103 5 s) 466 s (wr_ (a 466 s + 1))) 466 2 0) 468 s (wr_ (a 468 s + 1))) 103 3 1) (u2_ (u2_ (u2_ (fy2_ (u2_ (u2_ (a) 103 5 s) 466 s (wr_ (a 466 s + 1))) 466 2 0) 468 s (wr_ (a 468 s + 1))) 103 4 (wr_ (a 103 4 + 1))) 103 5 (an_ (wr_ (a 103 4 + 1)) 1))) (u2_ (u2_ (a) 103 5 s) 466 s (wr_ (a 466 s + 1)))) (cz_ (r 11 ≤ wr_ (a 466 s + 1) ∧ 2 ≤ wr_ (wr_ (a 466 s + 1) - a 466 (1 - s))) (cz_ (wr_ (a 468 s + 1) = 3) (u2_ (u2_ (fy2_ (u2_ (u2_ (a) 103 5 s) 466 s (wr_ (a 466 s + 1))) 466 2 0) 468 s (wr_ (a 468 s + 1))) 103 3 1) (u2_ (u2_ (u2_ (fy2_ (u2_ (u2_ (a) 103 5 s) 466 s (wr_ (a 466 s + 1))) 466 2 0) 468 s (wr_ (a 468 s + 1))) 103 4 (wr_ (a 103 4 + 1))) 103 5 (an_ (wr_ (a 103 4 + 1)) 1))) (u2_ (u2_ (a) 103 5 s) 466 s (wr_ (a 466 s + 1))))) (cz_ (a 103 4 = 4) (cz_ ((3 * r 11 + 4) / 5 ≤ wr_ (a 466 s + 1) ∧ 2 ≤ wr_ (wr_ (a 466 s + 1) - a 466 (1 - s))) (cz_ (wr_ (a 468 s + 1) = 3) (u2_ (u2_ (fy2_ (u2_ (u2_ (rt9_ a s) 103 5 s) 466 s (wr_ (a 466 s + 1))) 466 2 0) 468 s (wr_ (a 468 s + 1))) 103 3 1) (u2_ (u2_ (u2_ (fy2_ (u2_ (u2_ (rt9_ a s) 103 5 s) 466 s (wr_ (a 466 s + 1))) 466 2 0) 468 s (wr_ (a 468 s + 1))) 103 4 (wr_ (a 103 4 + 1))) 103 5 (an_ (wr_ (a 103 4 + 1)) 1))) (u2_ (u2_ (rt9_ a s) 103 5 s) 466 s (wr_ (a 466 s + 1)))) (cz_ (r 11 ≤ wr_ (a 466 s + 1) ∧ 2 ≤ wr_ (wr_ (a 466 s + 1) - a 466 (1 - s))) (cz_ (wr_ (a 468 s + 1) = 3) (u2_ (u2_ (fy2_ (u2_ (u2_ (rt9_ a s) 103 5 s) 466 s (wr_ (a 466 s + 1))) 466 2 0) 468 s (wr_ (a 468 s + 1))) 103 3 1) (u2_ (u2_ (u2_ (fy2_ (u2_ (u2_ (rt9_ a s) 103 5 s) 466 s (wr_ (a 466 s + 1))) 466 2 0) 468 s (wr_ (a 468 s + 1))) 103 4 (wr_ (a 103 4 + 1))) 103 5 (an_ (wr_ (a 103 4 + 1)) 1))) (u2_ (u2_ (rt9_ a s) 103 5 s) 466 s (wr_ (a 466 s + 1))))))
theorem pv9__1 {r : Int → Int} {a : Sg_} {s : Int} (h0 : a 103 5 = s) (h1 : a 103 4 = 4) (h2 : (3 * r 11 + 4) / 5 ≤ wr_ (a 466 s + 1) ∧ 2 ≤ wr_ (wr_ (a 466 s + 1) - a 466 (1 - s))) (h3 : wr_ (a 468 s + 1) = 3) : pv9_ r a s = u2_ (u2_ (fy2_ (u2_ (u2_ (a) 103 5 s) 466 s (wr_ (a 466 s + 1))) 466 2 0) 468 s (wr_ (a 468 s + 1))) 103 3 1 := by
  unfold pv9_
  rw [cz_t h0, cz_t h1, cz_t h2, cz_t h3]
theorem pv9__2 {r : Int → Int} {a : Sg_} {s : Int} (h0 : a 103 5 = s) (h1 : a 103 4 = 4) (h2 : (3 * r 11 + 4) / 5 ≤ wr_ (a 466 s + 1) ∧ 2 ≤ wr_ (wr_ (a 466 s + 1) - a 466 (1 - s))) (h3 : ¬ (wr_ (a 468 s + 1) = 3)) : pv9_ r a s = u2_ (u2_ (u2_ (fy2_ (u2_ (u2_ (a) 103 5 s) 466 s (wr_ (a 466 s + 1))) 466 2 0) 468 s (wr_ (a 468 s + 1))) 103 4 (wr_ (a 103 4 + 1))) 103 5 (an_ (wr_ (a 103 4 + 1)) 1) := by
  unfold pv9_
  rw [cz_t h0, cz_t h1, cz_t h2, cz_f h3]
theorem pv9__3 {r : Int → Int} {a : Sg_} {s : Int} (h0 : a 103 5 = s) (h1 : a 103 4 = 4) (h2 : ¬ ((3 * r 11 + 4) / 5 ≤ wr_ (a 466 s + 1) ∧ 2 ≤ wr_ (wr_ (a 466 s + 1) - a 466 (1 - s)))) : pv9_ r a s = u2_ (u2_ (a) 103 5 s) 466 s (wr_ (a 466 s + 1)) := by
  unfold pv9_
  rw [cz_t h0, cz_t h1, cz_f h2]
theorem pv9__4 {r : Int → Int} {a : Sg_} {s : Int} (h0 : a 103 5 = s) (h1 : ¬ (a 103 4 = 4)) (h2 : r 11 ≤ wr_ (a 466 s + 1) ∧ 2 ≤ wr_ (wr_ (a 466 s + 1) - a 466 (1 - s))) (h3 : wr_ (a 468 s + 1) = 3) : pv9_ r a s = u2_ (u2_ (fy2_ (u2_ (u2_ (a) 103 5 s) 466 s (wr_ (a 466 s + 1))) 466 2 0) 468 s (wr_ (a 468 s + 1))) 103 3 1 := by
  unfold pv9_
  rw [cz_t h0, cz_f h1, cz_t h2, cz_t h3]
theorem pv9__5 {r : Int → Int} {a : Sg_} {s : Int} (h0 : a 103 5 = s) (h1 : ¬ (a 103 4 = 4)) (h2 : r 11 ≤ wr_ (a 466 s + 1) ∧ 2 ≤ wr_ (wr_ (a 466 s + 1) - a 466 (1 - s))) (h3 : ¬ (wr_ (a 468 s + 1) = 3)) : pv9_ r a s = u2_ (u2_ (u2_ (fy2_ (u2_ (u2_ (a) 103 5 s) 466 s (wr_ (a 466 s + 1))) 466 2 0) 468 s (wr_ (a 468 s + 1))) 103 4 (wr_ (a 103 4 + 1))) 103 5 (an_ (wr_ (a 103 4 + 1)) 1) := by
  unfold pv9_
  rw [cz_t h0, cz_f h1, cz_t h2, cz_f h3]
theorem pv9__6 {r : Int → Int} {a : Sg_} {s : Int} (h0 : a 103 5 = s) (h1 : ¬ (a 103 4 = 4)) (h2 : ¬ (r 11 ≤ wr_ (a 466 s + 1) ∧ 2 ≤ wr_ (wr_ (a 466 s + 1) - a 466 (1 - s)))) : pv9_ r a s = u2_ (u2_ (a) 103 5 s) 466 s (wr_ (a 466 s + 1)) := by
  unfold pv9_
  rw [cz_t h0, cz_f h1, cz_f h2]
theorem pv9__7 {r : Int → Int} {a : Sg_} {s : Int} (h0 : ¬ (a 103 5 = s)) (h1 : a 103 4 = 4) (h2 : (3 * r 11 + 4) / 5 ≤ wr_ (a 466 s + 1) ∧ 2 ≤ wr_ (wr_ (a 466 s + 1) - a 466 (1 - s))) (h3 : wr_ (a 468 s + 1) = 3) : pv9_ r a s = u2_ (u2_ (fy2_ (u2_ (u2_ (rt9_ a s) 103 5 s) 466 s (wr_ (a 466 s + 1))) 466 2 0) 468 s (wr_ (a 468 s + 1))) 103 3 1 := by
  unfold pv9_
  rw [cz_f h0, cz_t h1, cz_t h2, cz_t h3]
theorem pv9__8 {r : Int → Int} {a : Sg_} {s : Int} (h0 : ¬ (a 103 5 = s)) (h1 : a 103 4 = 4) (h2 : (3 * r 11 + 4) / 5 ≤ wr_ (a 466 s + 1) ∧ 2 ≤ wr_ (wr_ (a 466 s + 1) - a 466 (1 - s))) (h3 : ¬ (wr_ (a 468 s + 1) = 3)) : pv9_ r a s = u2_ (u2_ (u2_ (fy2_ (u2_ (u2_ (rt9_ a s) 103 5 s) 466 s (wr_ (a 466 s + 1))) 466 2 0) 468 s (wr_ (a 468 s + 1))) 103 4 (wr_ (a 103 4 + 1))) 103 5 (an_ (wr_ (a 103 4 + 1)) 1) := by
  unfold pv9_
  rw [cz_f h0, cz_t h1, cz_t h2, cz_f h3]
theorem pv9__9 {r : Int → Int} {a : Sg_} {s : Int} (h0 : ¬ (a 103 5 = s)) (h1 : a 103 4 = 4) (h2 : ¬ ((3 * r 11 + 4) / 5 ≤ wr_ (a 466 s + 1) ∧ 2 ≤ wr_ (wr_ (a 466 s + 1) - a 466 (1 - s)))) : pv9_ r a s = u2_ (u2_ (rt9_ a s) 103 5 s) 466 s (wr_ (a 466 s + 1)) := by
  unfold pv9_
  rw [cz_f h0, cz_t h1, cz_f h2]
theorem pv9__10 {r : Int → Int} {a : Sg_} {s : Int} (h0 : ¬ (a 103 5 = s)) (h1 : ¬ (a 103 4 = 4)) (h2 : r 11 ≤ wr_ (a 466 s + 1) ∧ 2 ≤ wr_ (wr_ (a 466 s + 1) - a 466 (1 - s))) (h3 : wr_ (a 468 s + 1) = 3) : pv9_ r a s = u2_ (u2_ (fy2_ (u2_ (u2_ (rt9_ a s) 103 5 s) 466 s (wr_ (a 466 s + 1))) 466 2 0) 468 s (wr_ (a 468 s + 1))) 103 3 1 := by
  unfold pv9_
  rw [cz_f h0, cz_f h1, cz_t h2, cz_t h3]
theorem pv9__11 {r : Int → Int} {a : Sg_} {s : Int} (h0 : ¬ (a 103 5 = s)) (h1 : ¬ (a 103 4 = 4)) (h2 : r 11 ≤ wr_ (a 466 s + 1) ∧ 2 ≤ wr_ (wr_ (a 466 s + 1) - a 466 (1 - s))) (h3 : ¬ (wr_ (a 468 s + 1) = 3)) : pv9_ r a s = u2_ (u2_ (u2_ (fy2_ (u2_ (u2_ (rt9_ a s) 103 5 s) 466 s (wr_ (a 466 s + 1))) 466 2 0) 468 s (wr_ (a 468 s + 1))) 103 4 (wr_ (a 103 4 + 1))) 103 5 (an_ (wr_ (a 103 4 + 1)) 1) := by
  unfold pv9_
  rw [cz_f h0, cz_f h1, cz_t h2, cz_f h3]
theorem pv9__12 {r : Int → Int} {a : Sg_} {s : Int} (h0 : ¬ (a 103 5 = s)) (h1 : ¬ (a 103 4 = 4)) (h2 : ¬ (r 11 ≤ wr_ (a 466 s + 1) ∧ 2 ≤ wr_ (wr_ (a 466 s + 1) - a 466 (1 - s)))) : pv9_ r a s = u2_ (u2_ (rt9_ a s) 103 5 s) 466 s (wr_ (a 466 s + 1)) := by
  unfold pv9_
  rw [cz_f h0, cz_f h1, cz_f h2]
noncomputable def pt9_ (r : Int → Int) (a : Sg_) (k s : Int) : Sg_ := (cz_ (k = 6) (u2_ (u2_ a 468 (1 - s) 2) 103 3 1) (cz_ (a 467 0 = r 11 ∧ a 467 1 = r 11) (cz_ (7 ≤ wr_ (a 466 s + 1) ∧ 2 ≤ wr_ (wr_ (a 466 s + 1) - a 466 (1 - s))) (cz_ ((r 11 ≤ wr_ (a 467 s + 1) ∧ 2 ≤ wr_ (wr_ (a 467 s + 1) - a 467 (1 - s))) ∨ r 11 < wr_ (a 467 s + 1)) (cz_ (wr_ (a 468 s + 1) = 2) (u2_ (u2_ (fy2_ (u2_ (fy2_ (u2_ a 466 s (wr_ (a 466 s + 1))) 466 2 0) 467 s (wr_ (a 467 s + 1))) 467 2 0) 468 s (wr_ (a 468 s + 1))) 103 3 1) (u2_ (u2_ (u2_ (fy2_ (u2_ (fy2_ (u2_ a 466 s (wr_ (a 466 s + 1))) 466 2 0) 467 s (wr_ (a 467 s + 1))) 467 2 0) 468 s (wr_ (a 468 s + 1))) 103 4 (wr_ (a 103 4 + 1))) 103 5 (1 - a 103 5))) (u2_ (u2_ (fy2_ (u2_ a 466 s (wr_ (a 466 s + 1))) 466 2 0) 467 s (wr_ (a 467 s + 1))) 103 5 (1 - a 103 5))) (u2_ a 466 s (wr_ (a 466 s + 1)))) (cz_ (4 ≤ wr_ (a 466 s + 1) ∧ 2 ≤ wr_ (wr_ (a 466 s + 1) - a 466 (1 - s))) (cz_ ((r 11 ≤ wr_ (a 467 s + 1) ∧ 2 ≤ wr_ (wr_ (a 467 s + 1) - a 467 (1 - s))) ∨ r 11 < wr_ (a 467 s + 1)) (cz_ (wr_ (a 468 s + 1) = 2) (u2_ (u2_ (fy2_ (u2_ (fy2_ (u2_ a 466 s (wr_ (a 466 s + 1))) 466 2 0) 467 s (wr_ (a 467 s + 1))) 467 2 0) 468 s (wr_ (a 468 s + 1))) 103 3 1) (u2_ (u2_ (u2_ (fy2_ (u2_ (fy2_ (u2_ a 466 s (wr_ (a 466 s + 1))) 466 2 0) 467 s (wr_ (a 467 s + 1))) 467 2 0) 468 s (wr_ (a 468 s + 1))) 103 4 (wr_ (a 103 4 + 1))) 103 5 (1 - a 103 5))) (u2_ (u2_ (fy2_ (u2_ a 466 s (wr_ (a 466 s + 1))) 466 2 0) 467 s (wr_ (a 467 s + 1))) 103 5 (1 - a 103 5))) (u2_ a 466 s (wr_ (a 466 s + 1))))))
theorem pt9__1 {r : Int → Int} {a : Sg_} {k s : Int} (h0 : k = 6) : pt9_ r a k s = u2_ (u2_ a 468 (1 - s) 2) 103 3 1 := by
  unfold pt9_
  rw [cz_t h0]
theorem pt9__2 {r : Int → Int} {a : Sg_} {k s : Int} (h0 : ¬ (k = 6)) (h1 : a 467 0 = r 11 ∧ a 467 1 = r 11) (h2 : 7 ≤ wr_ (a 466 s + 1) ∧ 2 ≤ wr_ (wr_ (a 466 s + 1) - a 466 (1 - s))) (h3 : (r 11 ≤ wr_ (a 467 s + 1) ∧ 2 ≤ wr_ (wr_ (a 467 s + 1) - a 467 (1 - s))) ∨ r 11 < wr_ (a 467 s + 1)) (h4 : wr_ (a 468 s + 1) = 2) : pt9_ r a k s = u2_ (u2_ (fy2_ (u2_ (fy2_ (u2_ a 466 s (wr_ (a 466 s + 1))) 466 2 0) 467 s (wr_ (a 467 s + 1))) 467 2 0) 468 s (wr_ (a 468 s + 1))) 103 3 1 := by
  unfold pt9_
  rw [cz_f h0, cz_t h1, cz_t h2, cz_t h3, cz_t h4]
theorem pt9__3 {r : Int → Int} {a : Sg_} {k s : Int} (h0 : ¬ (k = 6)) (h1 : a 467 0 = r 11 ∧ a 467 1 = r 11) (h2 : 7 ≤ wr_ (a 466 s + 1) ∧ 2 ≤ wr_ (wr_ (a 466 s + 1) - a 466 (1 - s))) (h3 : (r 11 ≤ wr_ (a 467 s + 1) ∧ 2 ≤ wr_ (wr_ (a 467 s + 1) - a 467 (1 - s))) ∨ r 11 < wr_ (a 467 s + 1)) (h4 : ¬ (wr_ (a 468 s + 1) = 2)) : pt9_ r a k s = u2_ (u2_ (u2_ (fy2_ (u2_ (fy2_ (u2_ a 466 s (wr_ (a 466 s + 1))) 466 2 0) 467 s (wr_ (a 467 s + 1))) 467 2 0) 468 s (wr_ (a 468 s + 1))) 103 4 (wr_ (a 103 4 + 1))) 103 5 (1 - a 103 5) := by
  unfold pt9_
  rw [cz_f h0, cz_t h1, cz_t h2, cz_t h3, cz_f h4]
theorem pt9__4 {r : Int → Int} {a : Sg_} {k s : Int} (h0 : ¬ (k = 6)) (h1 : a 467 0 = r 11 ∧ a 467 1 = r 11) (h2 : 7 ≤ wr_ (a 466 s + 1) ∧ 2 ≤ wr_ (wr_ (a 466 s + 1) - a 466 (1 - s))) (h3 : ¬ ((r 11 ≤ wr_ (a 467 s + 1) ∧ 2 ≤ wr_ (wr_ (a 467 s + 1) - a 467 (1 - s))) ∨ r 11 < wr_ (a 467 s + 1))) : pt9_ r a k s = u2_ (u2_ (fy2_ (u2_ a 466 s (wr_ (a 466 s + 1))) 466 2 0) 467 s (wr_ (a 467 s + 1))) 103 5 (1 - a 103 5) := by
  unfold pt9_
  rw [cz_f h0, cz_t h1, cz_t h2, cz_f h3]
theorem pt9__5 {r : Int → Int} {a : Sg_} {k s : Int} (h0 : ¬ (k = 6)) (h1 : a 467 0 = r 11 ∧ a 467 1 = r 11) (h2 : ¬ (7 ≤ wr_ (a 466 s + 1) ∧ 2 ≤ wr_ (wr_ (a 466 s + 1) - a 466 (1 - s)))) : pt9_ r a k s = u2_ a 466 s (wr_ (a 466 s + 1)) := by
  unfold pt9_
  rw [cz_f h0, cz_t h1, cz_f h2]
theorem pt9__6 {r : Int → Int} {a : Sg_} {k s : Int} (h0 : ¬ (k = 6)) (h1 : ¬ (a 467 0 = r 11 ∧ a 467 1 = r 11)) (h2 : 4 ≤ wr_ (a 466 s + 1) ∧ 2 ≤ wr_ (wr_ (a 466 s + 1) - a 466 (1 - s))) (h3 : (r 11 ≤ wr_ (a 467 s + 1) ∧ 2 ≤ wr_ (wr_ (a 467 s + 1) - a 467 (1 - s))) ∨ r 11 < wr_ (a 467 s + 1)) (h4 : wr_ (a 468 s + 1) = 2) : pt9_ r a k s = u2_ (u2_ (fy2_ (u2_ (fy2_ (u2_ a 466 s (wr_ (a 466 s + 1))) 466 2 0) 467 s (wr_ (a 467 s + 1))) 467 2 0) 468 s (wr_ (a 468 s + 1))) 103 3 1 := by
  unfold pt9_
  rw [cz_f h0, cz_f h1, cz_t h2, cz_t h3, cz_t h4]
theorem pt9__7 {r : Int → Int} {a : Sg_} {k s : Int} (h0 : ¬ (k = 6)) (h1 : ¬ (a 467 0 = r 11 ∧ a 467 1 = r 11)) (h2 : 4 ≤ wr_ (a 466 s + 1) ∧ 2 ≤ wr_ (wr_ (a 466 s + 1) - a 466 (1 - s))) (h3 : (r 11 ≤ wr_ (a 467 s + 1) ∧ 2 ≤ wr_ (wr_ (a 467 s + 1) - a 467 (1 - s))) ∨ r 11 < wr_ (a 467 s + 1)) (h4 : ¬ (wr_ (a 468 s + 1) = 2)) : pt9_ r a k s = u2_ (u2_ (u2_ (fy2_ (u2_ (fy2_ (u2_ a 466 s (wr_ (a 466 s + 1))) 466 2 0) 467 s (wr_ (a 467 s + 1))) 467 2 0) 468 s (wr_ (a 468 s + 1))) 103 4 (wr_ (a 103 4 + 1))) 103 5 (1 - a 103 5) := by
  unfold pt9_
  rw [cz_f h0, cz_f h1, cz_t h2, cz_t h3, cz_f h4]
theorem pt9__8 {r : Int → Int} {a : Sg_} {k s : Int} (h0 : ¬ (k = 6)) (h1 : ¬ (a 467 0 = r 11 ∧ a 467 1 = r 11)) (h2 : 4 ≤ wr_ (a 466 s + 1) ∧ 2 ≤ wr_ (wr_ (a 466 s + 1) - a 466 (1 - s))) (h3 : ¬ ((r 11 ≤ wr_ (a 467 s + 1) ∧ 2 ≤ wr_ (wr_ (a 467 s + 1) - a 467 (1 - s))) ∨ r 11 < wr_ (a 467 s + 1))) : pt9_ r a k s = u2_ (u2_ (fy2_ (u2_ a 466 s (wr_ (a 466 s + 1))) 466 2 0) 467 s (wr_ (a 467 s + 1))) 103 5 (1 - a 103 5) := by
  unfold pt9_
  rw [cz_f h0, cz_f h1, cz_t h2, cz_f h3]
theorem pt9__9 {r : Int → Int} {a : Sg_} {k s : Int} (h0 : ¬ (k = 6)) (h1 : ¬ (a 467 0 = r 11 ∧ a 467 1 = r 11)) (h2 : ¬ (4 ≤ wr_ (a 466 s + 1) ∧ 2 ≤ wr_ (wr_ (a 466 s + 1) - a 466 (1 - s)))) : pt9_ r a k s = u2_ a 466 s (wr_ (a 466 s + 1)) := by
  unfold pt9_
  rw [cz_f h0, cz_f h1, cz_f h2]
noncomputable def eh9_ (r : Int → Int) (a : Sg_)  : Sg_ := (cz_ (a 103 5 = 1) (cz_ (wr_ (r 11 - 1) ≤ a 103 4 ∧ a 468 1 < a 468 0) (u2_ a 103 3 1) (u2_ a 103 5 0)) (cz_ ((wr_ (r 11 - 1) ≤ a 103 4 ∧ a 468 0 ≠ a 468 1) ∨ wr_ (a 103 4 + 1) = wr_ (r 11 + 20)) (u2_ a 103 3 1) (u2_ (u2_ a 103 4 (wr_ (a 103 4 + 1))) 103 5 1)))
theorem eh9__1 {r : Int → Int} {a : Sg_}  (h0 : a 103 5 = 1) (h1 : wr_ (r 11 - 1) ≤ a 103 4 ∧ a 468 1 < a 468 0) : eh9_ r a = u2_ a 103 3 1 := by
  unfold eh9_
  rw [cz_t h0, cz_t h1]
theorem eh9__2 {r : Int → Int} {a : Sg_}  (h0 : a 103 5 = 1) (h1 : ¬ (wr_ (r 11 - 1) ≤ a 103 4 ∧ a 468 1 < a 468 0)) : eh9_ r a = u2_ a 103 5 0 := by
  unfold eh9_
  rw [cz_t h0, cz_f h1]
theorem eh9__3 {r : Int → Int} {a : Sg_}  (h0 : ¬ (a 103 5 = 1)) (h1 : (wr_ (r 11 - 1) ≤ a 103 4 ∧ a 468 0 ≠ a 468 1) ∨ wr_ (a 103 4 + 1) = wr_ (r 11 + 20)) : eh9_ r a = u2_ a 103 3 1 := by
  unfold eh9_
  rw [cz_f h0, cz_t h1]
theorem eh9__4 {r : Int → Int} {a : Sg_}  (h0 : ¬ (a 103 5 = 1)) (h1 : ¬ ((wr_ (r 11 - 1) ≤ a 103 4 ∧ a 468 0 ≠ a 468 1) ∨ wr_ (a 103 4 + 1) = wr_ (r 11 + 20))) : eh9_ r a = u2_ (u2_ a 103 4 (wr_ (a 103 4 + 1))) 103 5 1 := by
  unfold eh9_
  rw [cz_f h0, cz_f h1]
noncomputable def co9_ (r : Int → Int) (a : Sg_)  : Sg_ := (cz_ (wr_ (a 467 0 + 1) = 3) (eh9_ r (fy2_ (u2_ (fy2_ a 466 2 0) 467 0 (wr_ (a 467 0 + 1))) 467 2 0)) (u2_ (fy2_ a 466 2 0) 467 0 (wr_ (a 467 0 + 1))))
theorem co9__1 {r : Int → Int} {a : Sg_}  (h0 : wr_ (a 467 0 + 1) = 3) : co9_ r a = eh9_ r (fy2_ (u2_ (fy2_ a 466 2 0) 467 0 (wr_ (a 467 0 + 1))) 467 2 0) := by
  unfold co9_
  rw [cz_t h0]
theorem co9__2 {r : Int → Int} {a : Sg_}  (h0 : ¬ (wr_ (a 467 0 + 1) = 3)) : co9_ r a = u2_ (fy2_ a 466 2 0) 467 0 (wr_ (a 467 0 + 1)) := by
  unfold co9_
  rw [cz_f h0]
noncomputable def gb9_ (r : Int → Int) (a : Sg_) (s v : Int) : Sg_ := (cz_ (wr_ (r 11 - 1) ≤ a 103 4 ∧ s = 0 ∧ a 468 1 < wr_ (a 468 0 + v)) (u2_ (u2_ (fy2_ a 466 2 0) 468 s (wr_ (a 468 s + v))) 103 3 1) (u2_ (fy2_ a 466 2 0) 468 s (wr_ (a 468 s + v))))
theorem gb9__1 {r : Int → Int} {a : Sg_} {s v : Int} (h0 : wr_ (r 11 - 1) ≤ a 103 4 ∧ s = 0 ∧ a 468 1 < wr_ (a 468 0 + v)) : gb9_ r a s v = u2_ (u2_ (fy2_ a 466 2 0) 468 s (wr_ (a 468 s + v))) 103 3 1 := by
  unfold gb9_
  rw [cz_t h0]
theorem gb9__2 {r : Int → Int} {a : Sg_} {s v : Int} (h0 : ¬ (wr_ (r 11 - 1) ≤ a 103 4 ∧ s = 0 ∧ a 468 1 < wr_ (a 468 0 + v))) : gb9_ r a s v = u2_ (fy2_ a 466 2 0) 468 s (wr_ (a 468 s + v)) := by
  unfold gb9_
  rw [cz_f h0]
noncomputable def wk9_ (r : Int → Int) (a : Sg_) (s : Int) : Sg_ := (cz_ (an_ (a 467 1) 1 = 0) (cz_ (a 467 1 = 7) (gb9_ r (u2_ a 467 1 (or_ (a 467 1) 1)) s 1) (gb9_ r (u2_ a 467 1 (or_ (a 467 1) 1)) s 0)) (cz_ (an_ (a 467 1) 2 = 0) (cz_ (a 467 1 = 7) (gb9_ r (u2_ a 467 1 (or_ (a 467 1) 2)) s 1) (gb9_ r (u2_ a 467 1 (or_ (a 467 1) 2)) s 0)) (cz_ (a 467 1 = 7) (gb9_ r (u2_ a 467 1 7) s 1) (gb9_ r (u2_ a 467 1 7) s 0))))
theorem wk9__1 {r : Int → Int} {a : Sg_} {s : Int} (h0 : an_ (a 467 1) 1 = 0) (h1 : a 467 1 = 7) : wk9_ r a s = gb9_ r (u2_ a 467 1 (or_ (a 467 1) 1)) s 1 := by
  unfold wk9_
  rw [cz_t h0, cz_t h1]
theorem wk9__2 {r : Int → Int} {a : Sg_} {s : Int} (h0 : an_ (a 467 1) 1 = 0) (h1 : ¬ (a 467 1 = 7)) : wk9_ r a s = gb9_ r (u2_ a 467 1 (or_ (a 467 1) 1)) s 0 := by
  unfold wk9_
  rw [cz_t h0, cz_f h1]
theorem wk9__3 {r : Int → Int} {a : Sg_} {s : Int} (h0 : ¬ (an_ (a 467 1) 1 = 0)) (h1 : an_ (a 467 1) 2 = 0) (h2 : a 467 1 = 7) : wk9_ r a s = gb9_ r (u2_ a 467 1 (or_ (a 467 1) 2)) s 1 := by
  unfold wk9_
  rw [cz_f h0, cz_t h1, cz_t h2]
theorem wk9__4 {r : Int → Int} {a : Sg_} {s : Int} (h0 : ¬ (an_ (a 467 1) 1 = 0)) (h1 : an_ (a 467 1) 2 = 0) (h2 : ¬ (a 467 1 = 7)) : wk9_ r a s = gb9_ r (u2_ a 467 1 (or_ (a 467 1) 2)) s 0 := by
  unfold wk9_
  rw [cz_f h0, cz_t h1, cz_f h2]
theorem wk9__5 {r : Int → Int} {a : Sg_} {s : Int} (h0 : ¬ (an_ (a 467 1) 1 = 0)) (h1 : ¬ (an_ (a 467 1) 2 = 0)) (h2 : a 467 1 = 7) : wk9_ r a s = gb9_ r (u2_ a 467 1 7) s 1 := by
  unfold wk9_
  rw [cz_f h0, cz_f h1, cz_t h2]
theorem wk9__6 {r : Int → Int} {a : Sg_} {s : Int} (h0 : ¬ (an_ (a 467 1) 1 = 0)) (h1 : ¬ (an_ (a 467 1) 2 = 0)) (h2 : ¬ (a 467 1 = 7)) : wk9_ r a s = gb9_ r (u2_ a 467 1 7) s 0 := by
  unfold wk9_
  rw [cz_f h0, cz_f h1, cz_f h2]
/-- how many bits -/
def bc9_ (x : Int) : Int := an_ (wr_ ((wr_ ((an_ (wr_ ((wr_ ((an_ (wr_ (x - (an_ (us_ x 1) 1431655765))) 858993459) + (an_ (us_ (wr_ (x - (an_ (us_ x 1) 1431655765))) 2) 858993459))) + (us_ (wr_ ((an_ (wr_ (x - (an_ (us_ x 1) 1431655765))) 858993459) + (an_ (us_ (wr_ (x - (an_ (us_ x 1) 1431655765))) 2) 858993459))) 4))) 252645135) + (us_ (an_ (wr_ ((wr_ ((an_ (wr_ (x - (an_ (us_ x 1) 1431655765))) 858993459) + (an_ (us_ (wr_ (x - (an_ (us_ x 1) 1431655765))) 2) 858993459))) + (us_ (wr_ ((an_ (wr_ (x - (an_ (us_ x 1) 1431655765))) 858993459) + (an_ (us_ (wr_ (x - (an_ (us_ x 1) 1431655765))) 2) 858993459))) 4))) 252645135) 8))) + (us_ (wr_ ((an_ (wr_ ((wr_ ((an_ (wr_ (x - (an_ (us_ x 1) 1431655765))) 858993459) + (an_ (us_ (wr_ (x - (an_ (us_ x 1) 1431655765))) 2) 858993459))) + (us_ (wr_ ((an_ (wr_ (x - (an_ (us_ x 1) 1431655765))) 858993459) + (an_ (us_ (wr_ (x - (an_ (us_ x 1) 1431655765))) 2) 858993459))) 4))) 252645135) + (us_ (an_ (wr_ ((wr_ ((an_ (wr_ (x - (an_ (us_ x 1) 1431655765))) 858993459) + (an_ (us_ (wr_ (x - (an_ (us_ x 1) 1431655765))) 2) 858993459))) + (us_ (wr_ ((an_ (wr_ (x - (an_ (us_ x 1) 1431655765))) 858993459) + (an_ (us_ (wr_ (x - (an_ (us_ x 1) 1431655765))) 2) 858993459))) 4))) 252645135) 8))) 16))) 63
noncomputable def ht9_ (r : Int → Int) (a : Sg_) (s v : Int) : Sg_ := (gb9_ r (u2_ a 467 1 (an_ (or_ (sl_ (a 467 1) v) (sl_ 1 (wr_ (v - 1)))) 7)) s (bc9_ (sr_ (or_ (sl_ (a 467 1) v) (sl_ 1 (wr_ (v - 1)))) 3)))
theorem ht9__1 {r : Int → Int} {a : Sg_} {s v : Int} : ht9_ r a s v = gb9_ r (u2_ a 467 1 (an_ (or_ (sl_ (a 467 1) v) (sl_ 1 (wr_ (v - 1)))) 7)) s (bc9_ (sr_ (or_ (sl_ (a 467 1) v) (sl_ 1 (wr_ (v - 1)))) 3)) := by
  unfold ht9_
  rfl
noncomputable def pbb9_ (r : Int → Int) (a : Sg_) (k s v : Int) : Sg_ := (cz_ (k = 1) (ht9_ r a s v) (cz_ (k = 2) (cz_ (wr_ (a 466 0 + 1) = 4) (wk9_ r (u2_ a 466 0 (wr_ (a 466 0 + 1))) s) (u2_ a 466 0 (wr_ (a 466 0 + 1)))) (cz_ (k = 3) (cz_ (wr_ (a 466 1 + 1) = 3) (co9_ r (u2_ a 466 1 (wr_ (a 466 1 + 1)))) (u2_ a 466 1 (wr_ (a 466 1 + 1)))) (co9_ r a))))
theorem pbb9__1 {r : Int → Int} {a : Sg_} {k s v : Int} (h0 : k = 1) : pbb9_ r a k s v = ht9_ r a s v := by
  unfold pbb9_
  rw [cz_t h0]
theorem pbb9__2 {r : Int → Int} {a : Sg_} {k s v : Int} (h0 : ¬ (k = 1)) (h1 : k = 2) (h2 : wr_ (a 466 0 + 1) = 4) : pbb9_ r a k s v = wk9_ r (u2_ a 466 0 (wr_ (a 466 0 + 1))) s := by
  unfold pbb9_
  rw [cz_f h0, cz_t h1, cz_t h2]
theorem pbb9__3 {r : Int → Int} {a : Sg_} {k s v : Int} (h0 : ¬ (k = 1)) (h1 : k = 2) (h2 : ¬ (wr_ (a 466 0 + 1) = 4)) : pbb9_ r a k s v = u2_ a 466 0 (wr_ (a 466 0 + 1)) := by
  unfold pbb9_
  rw [cz_f h0, cz_t h1, cz_f h2]
theorem pbb9__4 {r : Int → Int} {a : Sg_} {k s v : Int} (h0 : ¬ (k = 1)) (h1 : ¬ (k = 2)) (h2 : k = 3) (h3 : wr_ (a 466 1 + 1) = 3) : pbb9_ r a k s v = co9_ r (u2_ a 466 1 (wr_ (a 466 1 + 1))) := by
  unfold pbb9_
  rw [cz_f h0, cz_f h1, cz_t h2, cz_t h3]
theorem pbb9__5 {r : Int → Int} {a : Sg_} {k s v : Int} (h0 : ¬ (k = 1)) (h1 : ¬ (k = 2)) (h2 : k = 3) (h3 : ¬ (wr_ (a 466 1 + 1) = 3)) : pbb9_ r a k s v = u2_ a 466 1 (wr_ (a 466 1 + 1)) := by
  unfold pbb9_
  rw [cz_f h0, cz_f h1, cz_t h2, cz_f h3]
theorem pbb9__6 {r : Int → Int} {a : Sg_} {k s v : Int} (h0 : ¬ (k = 1)) (h1 : ¬ (k = 2)) (h2 : ¬ (k = 3)) : pbb9_ r a k s v = co9_ r a := by
  unfold pbb9_
  rw [cz_f h0, cz_f h1, cz_f h2]
noncomputable def ca9_ (r : Int → Int) (a : Sg_) (k s q o : Int) : Sg_ := (cz_ (k = 5) (su9_ r a s q o) (cz_ (r 0 = 0) (pf9_ r a k s q) (cz_ (r 0 = 1) (pv9_ r a s) (cz_ (r 0 = 2) (pt9_ r a k s) (pbb9_ r a k s o)))))
theorem ca9__1 {r : Int → Int} {a : Sg_} {k s q o : Int} (h0 : k = 5) : ca9_ r a k s q o = su9_ r a s q o := by
  unfold ca9_
  rw [cz_t h0]
theorem ca9__2 {r : Int → Int} {a : Sg_} {k s q o : Int} (h0 : ¬ (k = 5)) (h1 : r 0 = 0) : ca9_ r a k s q o = pf9_ r a k s q := by
  unfold ca9_
  rw [cz_f h0, cz_t h1]
theorem ca9__3 {r : Int → Int} {a : Sg_} {k s q o : Int} (h0 : ¬ (k = 5)) (h1 : ¬ (r 0 = 0)) (h2 : r 0 = 1) : ca9_ r a k s q o = pv9_ r a s := by
  unfold ca9_
  rw [cz_f h0, cz_f h1, cz_t h2]
theorem ca9__4 {r : Int → Int} {a : Sg_} {k s q o : Int} (h0 : ¬ (k = 5)) (h1 : ¬ (r 0 = 0)) (h2 : ¬ (r 0 = 1)) (h3 : r 0 = 2) : ca9_ r a k s q o = pt9_ r a k s := by
  unfold ca9_
  rw [cz_f h0, cz_f h1, cz_f h2, cz_t h3]
theorem ca9__5 {r : Int → Int} {a : Sg_} {k s q o : Int} (h0 : ¬ (k = 5)) (h1 : ¬ (r 0 = 0)) (h2 : ¬ (r 0 = 1)) (h3 : ¬ (r 0 = 2)) : ca9_ r a k s q o = pbb9_ r a k s o := by
  unfold ca9_
  rw [cz_f h0, cz_f h1, cz_f h2, cz_f h3]
/-- the rules that a play goes by -/
def RLP_ (T : Zt) (p : Int) (r : Int → Int) : Prop := ∀ w, 0 ≤ w → w < 16 → T 401 (T 103 p 0) w = r w
theorem rl_f {ws : List (Nat × List Int)} {T T' : Zt} {p : Int} {r : Int → Int} (h : RLP_ T p r) (f : fr_ ws T T') (w : fw_ ws 103 0 = false) (w2 : ∀ j, fw_ ws 401 j = false) : RLP_ T' p r := fun x a b => by
  rw [f 103 p 0 w, f 401 _ x (w2 x)]
  exact h x a b
theorem bk_J6_bitCount_e_0 : ck_ fJ6 (some .int) cJ6_bitCount_0f7a4 0 [.iload 0, .iload 0, .iconst 1, .iushr, .iconst 1431655765, .iand, .fsub, .istore 0, .iload 0, .iconst 858993459, .iand, .iload 0, .iconst 2, .iushr, .iconst 858993459, .iand, .fadd, .istore 0, .iload 0, .iload 0, .iconst 4, .iushr, .fadd, .iconst 252645135, .iand, .istore 0, .iload 0, .iload 0, .iconst 8, .iushr, .fadd, .istore 0, .iload 0, .iload 0, .iconst 16, .iushr, .fadd, .istore 0, .iload 0, .iconst 63, .iand, .ireturn] 53 = true := qck_r (nn_ _) (by decide +kernel)
theorem bs_J6_bitCount_e_0 {P : Zt → Option Zv → Prop} (K : Int → Zl → List Zv → Zt → Prop) : sx_ K P [.iload 0, .iload 0, .iconst 1, .iushr, .iconst 1431655765, .iand, .fsub, .istore 0, .iload 0, .iconst 858993459, .iand, .iload 0, .iconst 2, .iushr, .iconst 858993459, .iand, .fadd, .istore 0, .iload 0, .iload 0, .iconst 4, .iushr, .fadd, .iconst 252645135, .iand, .istore 0, .iload 0, .iload 0, .iconst 8, .iushr, .fadd, .istore 0, .iload 0, .iload 0, .iconst 16, .iushr, .fadd, .istore 0, .iload 0, .iconst 63, .iand, .ireturn] 53 = x_iload 0 (x_iload 0 (x_iconst 1 (x_iushr (x_iconst 1431655765 (x_iand (x_fsub (x_istore 0 (x_iload 0 (x_iconst 858993459 (x_iand (x_iload 0 (x_iconst 2 (x_iushr (x_iconst 858993459 (x_iand (x_fadd (x_istore 0 (x_iload 0 (x_iload 0 (x_iconst 4 (x_iushr (x_fadd (x_iconst 252645135 (x_iand (x_istore 0 (x_iload 0 (x_iload 0 (x_iconst 8 (x_iushr (x_fadd (x_istore 0 (x_iload 0 (x_iload 0 (x_iconst 16 (x_iushr (x_fadd (x_istore 0 (x_iload 0 (x_iconst 63 (x_iand (x_ireturn P))))))))))))))))))))))))))))))))))))))))) := ((xe_iload 0).trans (congrArg (x_iload 0) ((xe_iload 0).trans (congrArg (x_iload 0) ((xe_iconst 1).trans (congrArg (x_iconst 1) ((xe_iushr).trans (congrArg (x_iushr) ((xe_iconst 1431655765).trans (congrArg (x_iconst 1431655765) ((xe_iand).trans (congrArg (x_iand) ((xe_fsub).trans (congrArg (x_fsub) ((xe_istore 0).trans (congrArg (x_istore 0) ((xe_iload 0).trans (congrArg (x_iload 0) ((xe_iconst 858993459).trans (congrArg (x_iconst 858993459) ((xe_iand).trans (congrArg (x_iand) ((xe_iload 0).trans (congrArg (x_iload 0) ((xe_iconst 2).trans (congrArg (x_iconst 2) ((xe_iushr).trans (congrArg (x_iushr) ((xe_iconst 858993459).trans (congrArg (x_iconst 858993459) ((xe_iand).trans (congrArg (x_iand) ((xe_fadd).trans (congrArg (x_fadd) ((xe_istore 0).trans (congrArg (x_istore 0) ((xe_iload 0).trans (congrArg (x_iload 0) ((xe_iload 0).trans (congrArg (x_iload 0) ((xe_iconst 4).trans (congrArg (x_iconst 4) ((xe_iushr).trans (congrArg (x_iushr) ((xe_fadd).trans (congrArg (x_fadd) ((xe_iconst 252645135).trans (congrArg (x_iconst 252645135) ((xe_iand).trans (congrArg (x_iand) ((xe_istore 0).trans (congrArg (x_istore 0) ((xe_iload 0).trans (congrArg (x_iload 0) ((xe_iload 0).trans (congrArg (x_iload 0) ((xe_iconst 8).trans (congrArg (x_iconst 8) ((xe_iushr).trans (congrArg (x_iushr) ((xe_fadd).trans (congrArg (x_fadd) ((xe_istore 0).trans (congrArg (x_istore 0) ((xe_iload 0).trans (congrArg (x_iload 0) ((xe_iload 0).trans (congrArg (x_iload 0) ((xe_iconst 16).trans (congrArg (x_iconst 16) ((xe_iushr).trans (congrArg (x_iushr) ((xe_fadd).trans (congrArg (x_fadd) ((xe_istore 0).trans (congrArg (x_istore 0) ((xe_iload 0).trans (congrArg (x_iload 0) ((xe_iconst 63).trans (congrArg (x_iconst 63) ((xe_iand).trans (congrArg (x_iand) (xe_ireturn)))))))))))))))))))))))))))))))))))))))))))))))))))))))))))))))))))))))))))))))))))
abbrev po_J6_bitCount_e (T : Zt) (bx : Int) : Zt → Option Zv → Prop := fun T' r => T = T' ∧ r = some (vI (bc9_ bx))
set_option maxHeartbeats 4000000 in
theorem ct_J6_bitCount_e {T : Zt} {bx : Int} : Ct_ yJ6_bitCount_0f7a4 zJ6_bitCount_0f7a4 T [vI bx] (po_J6_bitCount_e T bx) := by
  refine ct_of (by decide) rfl rfl (Nat.le_of_ble_eq_true rfl) (fun hT hav => ?_)
  have hr_bx : -2147483648 ≤ bx ∧ bx ≤ 2147483647 := hav (vI bx) List.mem_cons_self
  have hz : zJ6_bitCount_0f7a4.2.2.2.1 = some .boolean → ∀ (T' : Zt) (x : Int), po_J6_bitCount_e T bx T' (some (vI x)) → 0 ≤ x ∧ x ≤ 1 := fun h => by cases h
  show J_ zJ6_bitCount_0f7a4 T (po_J6_bitCount_e T bx) 0 0 0 [some (vI bx)] [] T
  refine j_blx (F := fJ6) tb_J6 (nn_ _) bk_J6_bitCount_e_0 bs_J6_bitCount_e_0 hz (fun K hK => ?_)
  intro w1 w1b
  intro w2 w2b
  intro w3 w3b
  intro w4 w4b
  intro w5 w5b
  intro w6 w6b
  intro w7 w7b
  intro w8 w8b
  intro w9 w9b
  intro w10 w10b
  intro w11 w11b
  intro w12 w12b
  intro w13 w13b
  intro w14 w14b
  intro w15 w15b
  refine (show po_J6_bitCount_e T bx T (some (vI (an_ (wr_ ((wr_ ((an_ (wr_ ((wr_ ((an_ (wr_ (bx - (an_ (us_ bx 1) 1431655765))) 858993459) + (an_ (us_ (wr_ (bx - (an_ (us_ bx 1) 1431655765))) 2) 858993459))) + (us_ (wr_ ((an_ (wr_ (bx - (an_ (us_ bx 1) 1431655765))) 858993459) + (an_ (us_ (wr_ (bx - (an_ (us_ bx 1) 1431655765))) 2) 858993459))) 4))) 252645135) + (us_ (an_ (wr_ ((wr_ ((an_ (wr_ (bx - (an_ (us_ bx 1) 1431655765))) 858993459) + (an_ (us_ (wr_ (bx - (an_ (us_ bx 1) 1431655765))) 2) 858993459))) + (us_ (wr_ ((an_ (wr_ (bx - (an_ (us_ bx 1) 1431655765))) 858993459) + (an_ (us_ (wr_ (bx - (an_ (us_ bx 1) 1431655765))) 2) 858993459))) 4))) 252645135) 8))) + (us_ (wr_ ((an_ (wr_ ((wr_ ((an_ (wr_ (bx - (an_ (us_ bx 1) 1431655765))) 858993459) + (an_ (us_ (wr_ (bx - (an_ (us_ bx 1) 1431655765))) 2) 858993459))) + (us_ (wr_ ((an_ (wr_ (bx - (an_ (us_ bx 1) 1431655765))) 858993459) + (an_ (us_ (wr_ (bx - (an_ (us_ bx 1) 1431655765))) 2) 858993459))) 4))) 252645135) + (us_ (an_ (wr_ ((wr_ ((an_ (wr_ (bx - (an_ (us_ bx 1) 1431655765))) 858993459) + (an_ (us_ (wr_ (bx - (an_ (us_ bx 1) 1431655765))) 2) 858993459))) + (us_ (wr_ ((an_ (wr_ (bx - (an_ (us_ bx 1) 1431655765))) 858993459) + (an_ (us_ (wr_ (bx - (an_ (us_ bx 1) 1431655765))) 2) 858993459))) 4))) 252645135) 8))) 16))) 63))) from ?_)
  exact ⟨rfl, rfl⟩
theorem bk_J7_fill_466_5 : ck_ fJ7 none cJ7_fill_53178 5 [.iload 2, .iload 3, .if_icmp .ge 20, .aload 0, .iload 2, .iload 1, .iastore, .iinc 2 1, .goto 5] 20 = true := qck_r (nn_ _) (by decide +kernel)
theorem bs_J7_fill_466_5 {P : Zt → Option Zv → Prop} (K : Int → Zl → List Zv → Zt → Prop) : sx_ K P [.iload 2, .iload 3, .if_icmp .ge 20, .aload 0, .iload 2, .iload 1, .iastore, .iinc 2 1, .goto 5] 20 = x_iload 2 (x_iload 3 (x_if_icmp .ge 20 K (x_aload 0 (x_iload 2 (x_iload 1 (x_iastore (x_iinc 2 1 (x_goto 5 K)))))))) := ((xe_iload 2).trans (congrArg (x_iload 2) ((xe_iload 3).trans (congrArg (x_iload 3) ((xe_if_icmp .ge 20).trans (congrArg (x_if_icmp .ge 20 K) ((xe_aload 0).trans (congrArg (x_aload 0) ((xe_iload 2).trans (congrArg (x_iload 2) ((xe_iload 1).trans (congrArg (x_iload 1) ((xe_iastore).trans (congrArg (x_iastore) ((xe_iinc 2 1).trans (congrArg (x_iinc 2 1) (xe_goto 5)))))))))))))))))
theorem bk_J7_fill_466_20 : ck_ fJ7 none cJ7_fill_53178 20 [.return_] 21 = true := qck_r (nn_ _) (by decide +kernel)
theorem bs_J7_fill_466_20 {P : Zt → Option Zv → Prop} (K : Int → Zl → List Zv → Zt → Prop) : sx_ K P [.return_] 21 = x_return_ P := (xe_return_)
theorem bk_J7_fill_466_0 : ck_ fJ7 none cJ7_fill_53178 0 [.iconst 0, .istore 2, .aload 0, .arraylength, .istore 3] 5 = true := qck_r (nn_ _) (by decide +kernel)
theorem bs_J7_fill_466_0 {P : Zt → Option Zv → Prop} (K : Int → Zl → List Zv → Zt → Prop) : sx_ K P [.iconst 0, .istore 2, .aload 0, .arraylength, .istore 3] 5 = x_iconst 0 (x_istore 2 (x_aload 0 (x_arraylength (x_istore 3 (K 5))))) := ((xe_iconst 0).trans (congrArg (x_iconst 0) ((xe_istore 2).trans (congrArg (x_istore 2) ((xe_aload 0).trans (congrArg (x_aload 0) ((xe_arraylength).trans (congrArg (x_arraylength) ((xe_istore 3).trans (congrArg (x_istore 3) xe_nil))))))))))
abbrev po_J7_fill_466_e (T : Zt) (p : Int) (v : Int) : Zt → Option Zv → Prop := fun T' r => r = none ∧ fr_ [(466, [])] T T' ∧ oi_ T T' p ∧ (∀ j, 0 ≤ j → j < 2 → T' 466 p j = v) ∧ rs9_ T' p = fy2_ (rs9_ T p) 466 2 v
set_option maxHeartbeats 4000000 in
theorem ct_J7_fill_466_e {T : Zt} {p : Int} {v : Int} (h1 : (-2147483648) ≤ v ∧ v ≤ 2147483647) : Ct_ yJ7_fill_53178 zJ7_fill_53178 T [vR 466 p, vI v] (po_J7_fill_466_e T p v) := by
  refine ct_of (by decide) rfl rfl (Nat.le_of_ble_eq_true rfl) (fun hT hav => ?_)
  have hr_v : -2147483648 ≤ v ∧ v ≤ 2147483647 := hav (vI v) (List.mem_cons_of_mem _ List.mem_cons_self)
  have hz : zJ7_fill_53178.2.2.2.1 = some .boolean → ∀ (T' : Zt) (x : Int), po_J7_fill_466_e T p v T' (some (vI x)) → 0 ≤ x ∧ x ≤ 1 := fun h => by cases h
  show J_ zJ7_fill_53178 T (po_J7_fill_466_e T p v) 0 0 0 [some (vR 466 p), some (vI v), none, none] [] T
  have c_5 : ∀ (nn : Nat) (j : Int) (T1 : Zt), ((2 - j).toNat) ≤ nn → (fr_ [(466, [])] T T1) → (0 ≤ j ∧ j ≤ 2) → (oi_ T T1 p) → (∀ q, 0 ≤ q → q < j → T1 466 p q = v) → (∀ q, ¬ (0 ≤ q ∧ q < 2) → T1 466 p q = T 466 p q) → J_ zJ7_fill_53178 T (po_J7_fill_466_e T p v) 0 0 5 [some (vR 466 p), some (vI v), some (vI j), some (vI 2)] [] T1 := by
    intro nn
    induction nn using Nat.strongRecOn with
    | _ nn ih_5 =>
      intro j T1 hm_5 hf_5 i1 o1 f1 g1
      replace hm_5 := fun (_ : Unit) => hm_5
      refine j_blx (F := fJ7) tb_J7 (nn_ _) bk_J7_fill_466_5 bs_J7_fill_466_5 hz (fun K hK => ?_)
      refine And.intro (fun c1 => ?_) (fun c1 => ?_)
      · refine hK 20 _ [] T1 ?_
        refine j_blx (F := fJ7) tb_J7 (nn_ _) bk_J7_fill_466_20 bs_J7_fill_466_20 hz (fun K hK => ?_)
        refine (show po_J7_fill_466_e T p v T1 (none) from ?_)
        exact ⟨rfl, fr_t (fr_0 _ _) (fr_s hf_5 rfl), o1, fun q a b => f1 q a (by omega), rs_f (fr_t (fr_0 _ _) (fr_s hf_5 rfl)) (fun _ h _ => fw_1 h _) (fun q a b => f1 q a (by omega)) g1 (fun _ => rfl)⟩
      · refine iy_i (by omega) (by omega) ?_
        refine x_nm (fun U2 hU2 => ?_)
        have e3 := up_f hU2
        refine rg_i (by omega) ?_
        refine hK 5 [some (vR 466 p), some (vI v), some (vI (j + 1)), some (vI 2)] [] U2 ?_
        refine ih_5 _ ?_ (j + 1) U2 (Nat.le_refl _) ?_ ?_ ?_ ?_ ?_
        · have hm_5 := hm_5 (); omega
        · exact fr_u (fr_t (fr_0 _ _) (fr_s hf_5 rfl)) hU2 rfl
        · omega
        · exact oi_u o1 hU2
        · intro q a b
          by_cases z : q = j
          · rw [z]; exact up_f hU2
          · rw [up_g hU2 (fun y => z y.2.2)]; exact f1 q a (by omega)
        · exact fun q a => (up_g hU2 (fun y => by have := y.2.2; omega)).trans (g1 q a)
  refine j_blx (F := fJ7) tb_J7 (nn_ _) bk_J7_fill_466_0 bs_J7_fill_466_0 hz (fun K hK => ?_)
  refine hK 5 [some (vR 466 p), some (vI v), some (vI 0), some (vI 2)] [] T ?_
  refine c_5 _ 0 T (Nat.le_refl _) ?_ ?_ ?_ ?_ ?_
  · exact fr_0 _ _
  · omega
  · exact oi_r
  · intro q a b; omega
  · exact fun _ _ => rfl
theorem bk_J7_fill_467_5 : ck_ fJ7 none cJ7_fill_53178 5 [.iload 2, .iload 3, .if_icmp .ge 20, .aload 0, .iload 2, .iload 1, .iastore, .iinc 2 1, .goto 5] 20 = true := qck_r (nn_ _) (by decide +kernel)
theorem bs_J7_fill_467_5 {P : Zt → Option Zv → Prop} (K : Int → Zl → List Zv → Zt → Prop) : sx_ K P [.iload 2, .iload 3, .if_icmp .ge 20, .aload 0, .iload 2, .iload 1, .iastore, .iinc 2 1, .goto 5] 20 = x_iload 2 (x_iload 3 (x_if_icmp .ge 20 K (x_aload 0 (x_iload 2 (x_iload 1 (x_iastore (x_iinc 2 1 (x_goto 5 K)))))))) := ((xe_iload 2).trans (congrArg (x_iload 2) ((xe_iload 3).trans (congrArg (x_iload 3) ((xe_if_icmp .ge 20).trans (congrArg (x_if_icmp .ge 20 K) ((xe_aload 0).trans (congrArg (x_aload 0) ((xe_iload 2).trans (congrArg (x_iload 2) ((xe_iload 1).trans (congrArg (x_iload 1) ((xe_iastore).trans (congrArg (x_iastore) ((xe_iinc 2 1).trans (congrArg (x_iinc 2 1) (xe_goto 5)))))))))))))))))
theorem bk_J7_fill_467_20 : ck_ fJ7 none cJ7_fill_53178 20 [.return_] 21 = true := qck_r (nn_ _) (by decide +kernel)
theorem bs_J7_fill_467_20 {P : Zt → Option Zv → Prop} (K : Int → Zl → List Zv → Zt → Prop) : sx_ K P [.return_] 21 = x_return_ P := (xe_return_)
theorem bk_J7_fill_467_0 : ck_ fJ7 none cJ7_fill_53178 0 [.iconst 0, .istore 2, .aload 0, .arraylength, .istore 3] 5 = true := qck_r (nn_ _) (by decide +kernel)
theorem bs_J7_fill_467_0 {P : Zt → Option Zv → Prop} (K : Int → Zl → List Zv → Zt → Prop) : sx_ K P [.iconst 0, .istore 2, .aload 0, .arraylength, .istore 3] 5 = x_iconst 0 (x_istore 2 (x_aload 0 (x_arraylength (x_istore 3 (K 5))))) := ((xe_iconst 0).trans (congrArg (x_iconst 0) ((xe_istore 2).trans (congrArg (x_istore 2) ((xe_aload 0).trans (congrArg (x_aload 0) ((xe_arraylength).trans (congrArg (x_arraylength) ((xe_istore 3).trans (congrArg (x_istore 3) xe_nil))))))))))
abbrev po_J7_fill_467_e (T : Zt) (p : Int) (v : Int) : Zt → Option Zv → Prop := fun T' r => r = none ∧ fr_ [(467, [])] T T' ∧ oi_ T T' p ∧ (∀ j, 0 ≤ j → j < 2 → T' 467 p j = v) ∧ rs9_ T' p = fy2_ (rs9_ T p) 467 2 v
set_option maxHeartbeats 4000000 in
theorem ct_J7_fill_467_e {T : Zt} {p : Int} {v : Int} (h1 : (-2147483648) ≤ v ∧ v ≤ 2147483647) : Ct_ yJ7_fill_53178 zJ7_fill_53178 T [vR 467 p, vI v] (po_J7_fill_467_e T p v) := by
  refine ct_of (by decide) rfl rfl (Nat.le_of_ble_eq_true rfl) (fun hT hav => ?_)
  have hr_v : -2147483648 ≤ v ∧ v ≤ 2147483647 := hav (vI v) (List.mem_cons_of_mem _ List.mem_cons_self)
  have hz : zJ7_fill_53178.2.2.2.1 = some .boolean → ∀ (T' : Zt) (x : Int), po_J7_fill_467_e T p v T' (some (vI x)) → 0 ≤ x ∧ x ≤ 1 := fun h => by cases h
  show J_ zJ7_fill_53178 T (po_J7_fill_467_e T p v) 0 0 0 [some (vR 467 p), some (vI v), none, none] [] T
  have c_5 : ∀ (nn : Nat) (j : Int) (T1 : Zt), ((2 - j).toNat) ≤ nn → (fr_ [(467, [])] T T1) → (0 ≤ j ∧ j ≤ 2) → (oi_ T T1 p) → (∀ q, 0 ≤ q → q < j → T1 467 p q = v) → (∀ q, ¬ (0 ≤ q ∧ q < 2) → T1 467 p q = T 467 p q) → J_ zJ7_fill_53178 T (po_J7_fill_467_e T p v) 0 0 5 [some (vR 467 p), some (vI v), some (vI j), some (vI 2)] [] T1 := by
    intro nn
    induction nn using Nat.strongRecOn with
    | _ nn ih_5 =>
      intro j T1 hm_5 hf_5 i1 o1 f1 g1
      replace hm_5 := fun (_ : Unit) => hm_5
      refine j_blx (F := fJ7) tb_J7 (nn_ _) bk_J7_fill_467_5 bs_J7_fill_467_5 hz (fun K hK => ?_)
      refine And.intro (fun c1 => ?_) (fun c1 => ?_)
      · refine hK 20 _ [] T1 ?_
        refine j_blx (F := fJ7) tb_J7 (nn_ _) bk_J7_fill_467_20 bs_J7_fill_467_20 hz (fun K hK => ?_)
        refine (show po_J7_fill_467_e T p v T1 (none) from ?_)
        exact ⟨rfl, fr_t (fr_0 _ _) (fr_s hf_5 rfl), o1, fun q a b => f1 q a (by omega), rs_f (fr_t (fr_0 _ _) (fr_s hf_5 rfl)) (fun _ h _ => fw_1 h _) (fun q a b => f1 q a (by omega)) g1 (fun _ => rfl)⟩
      · refine iy_i (by omega) (by omega) ?_
        refine x_nm (fun U2 hU2 => ?_)
        have e3 := up_f hU2
        refine rg_i (by omega) ?_
        refine hK 5 [some (vR 467 p), some (vI v), some (vI (j + 1)), some (vI 2)] [] U2 ?_
        refine ih_5 _ ?_ (j + 1) U2 (Nat.le_refl _) ?_ ?_ ?_ ?_ ?_
        · have hm_5 := hm_5 (); omega
        · exact fr_u (fr_t (fr_0 _ _) (fr_s hf_5 rfl)) hU2 rfl
        · omega
        · exact oi_u o1 hU2
        · intro q a b
          by_cases z : q = j
          · rw [z]; exact up_f hU2
          · rw [up_g hU2 (fun y => z y.2.2)]; exact f1 q a (by omega)
        · exact fun q a => (up_g hU2 (fun y => by have := y.2.2; omega)).trans (g1 q a)
  refine j_blx (F := fJ7) tb_J7 (nn_ _) bk_J7_fill_467_0 bs_J7_fill_467_0 hz (fun K hK => ?_)
  refine hK 5 [some (vR 467 p), some (vI v), some (vI 0), some (vI 2)] [] T ?_
  refine c_5 _ 0 T (Nat.le_refl _) ?_ ?_ ?_ ?_ ?_
  · exact fr_0 _ _
  · omega
  · exact oi_r
  · intro q a b; omega
  · exact fun _ _ => rfl
theorem bk_J7_fill_468_5 : ck_ fJ7 none cJ7_fill_53178 5 [.iload 2, .iload 3, .if_icmp .ge 20, .aload 0, .iload 2, .iload 1, .iastore, .iinc 2 1, .goto 5] 20 = true := qck_r (nn_ _) (by decide +kernel)
theorem bs_J7_fill_468_5 {P : Zt → Option Zv → Prop} (K : Int → Zl → List Zv → Zt → Prop) : sx_ K P [.iload 2, .iload 3, .if_icmp .ge 20, .aload 0, .iload 2, .iload 1, .iastore, .iinc 2 1, .goto 5] 20 = x_iload 2 (x_iload 3 (x_if_icmp .ge 20 K (x_aload 0 (x_iload 2 (x_iload 1 (x_iastore (x_iinc 2 1 (x_goto 5 K)))))))) := ((xe_iload 2).trans (congrArg (x_iload 2) ((xe_iload 3).trans (congrArg (x_iload 3) ((xe_if_icmp .ge 20).trans (congrArg (x_if_icmp .ge 20 K) ((xe_aload 0).trans (congrArg (x_aload 0) ((xe_iload 2).trans (congrArg (x_iload 2) ((xe_iload 1).trans (congrArg (x_iload 1) ((xe_iastore).trans (congrArg (x_iastore) ((xe_iinc 2 1).trans (congrArg (x_iinc 2 1) (xe_goto 5)))))))))))))))))
theorem bk_J7_fill_468_20 : ck_ fJ7 none cJ7_fill_53178 20 [.return_] 21 = true := qck_r (nn_ _) (by decide +kernel)
theorem bs_J7_fill_468_20 {P : Zt → Option Zv → Prop} (K : Int → Zl → List Zv → Zt → Prop) : sx_ K P [.return_] 21 = x_return_ P := (xe_return_)
theorem bk_J7_fill_468_0 : ck_ fJ7 none cJ7_fill_53178 0 [.iconst 0, .istore 2, .aload 0, .arraylength, .istore 3] 5 = true := qck_r (nn_ _) (by decide +kernel)
theorem bs_J7_fill_468_0 {P : Zt → Option Zv → Prop} (K : Int → Zl → List Zv → Zt → Prop) : sx_ K P [.iconst 0, .istore 2, .aload 0, .arraylength, .istore 3] 5 = x_iconst 0 (x_istore 2 (x_aload 0 (x_arraylength (x_istore 3 (K 5))))) := ((xe_iconst 0).trans (congrArg (x_iconst 0) ((xe_istore 2).trans (congrArg (x_istore 2) ((xe_aload 0).trans (congrArg (x_aload 0) ((xe_arraylength).trans (congrArg (x_arraylength) ((xe_istore 3).trans (congrArg (x_istore 3) xe_nil))))))))))
abbrev po_J7_fill_468_e (T : Zt) (p : Int) (v : Int) : Zt → Option Zv → Prop := fun T' r => r = none ∧ fr_ [(468, [])] T T' ∧ oi_ T T' p ∧ (∀ j, 0 ≤ j → j < 2 → T' 468 p j = v) ∧ rs9_ T' p = fy2_ (rs9_ T p) 468 2 v
set_option maxHeartbeats 4000000 in
theorem ct_J7_fill_468_e {T : Zt} {p : Int} {v : Int} (h1 : (-2147483648) ≤ v ∧ v ≤ 2147483647) : Ct_ yJ7_fill_53178 zJ7_fill_53178 T [vR 468 p, vI v] (po_J7_fill_468_e T p v) := by
  refine ct_of (by decide) rfl rfl (Nat.le_of_ble_eq_true rfl) (fun hT hav => ?_)
  have hr_v : -2147483648 ≤ v ∧ v ≤ 2147483647 := hav (vI v) (List.mem_cons_of_mem _ List.mem_cons_self)
  have hz : zJ7_fill_53178.2.2.2.1 = some .boolean → ∀ (T' : Zt) (x : Int), po_J7_fill_468_e T p v T' (some (vI x)) → 0 ≤ x ∧ x ≤ 1 := fun h => by cases h
  show J_ zJ7_fill_53178 T (po_J7_fill_468_e T p v) 0 0 0 [some (vR 468 p), some (vI v), none, none] [] T
  have c_5 : ∀ (nn : Nat) (j : Int) (T1 : Zt), ((2 - j).toNat) ≤ nn → (fr_ [(468, [])] T T1) → (0 ≤ j ∧ j ≤ 2) → (oi_ T T1 p) → (∀ q, 0 ≤ q → q < j → T1 468 p q = v) → (∀ q, ¬ (0 ≤ q ∧ q < 2) → T1 468 p q = T 468 p q) → J_ zJ7_fill_53178 T (po_J7_fill_468_e T p v) 0 0 5 [some (vR 468 p), some (vI v), some (vI j), some (vI 2)] [] T1 := by
    intro nn
    induction nn using Nat.strongRecOn with
    | _ nn ih_5 =>
      intro j T1 hm_5 hf_5 i1 o1 f1 g1
      replace hm_5 := fun (_ : Unit) => hm_5
      refine j_blx (F := fJ7) tb_J7 (nn_ _) bk_J7_fill_468_5 bs_J7_fill_468_5 hz (fun K hK => ?_)
      refine And.intro (fun c1 => ?_) (fun c1 => ?_)
      · refine hK 20 _ [] T1 ?_
        refine j_blx (F := fJ7) tb_J7 (nn_ _) bk_J7_fill_468_20 bs_J7_fill_468_20 hz (fun K hK => ?_)
        refine (show po_J7_fill_468_e T p v T1 (none) from ?_)
        exact ⟨rfl, fr_t (fr_0 _ _) (fr_s hf_5 rfl), o1, fun q a b => f1 q a (by omega), rs_f (fr_t (fr_0 _ _) (fr_s hf_5 rfl)) (fun _ h _ => fw_1 h _) (fun q a b => f1 q a (by omega)) g1 (fun _ => rfl)⟩
      · refine iy_i (by omega) (by omega) ?_
        refine x_nm (fun U2 hU2 => ?_)
        have e3 := up_f hU2
        refine rg_i (by omega) ?_
        refine hK 5 [some (vR 468 p), some (vI v), some (vI (j + 1)), some (vI 2)] [] U2 ?_
        refine ih_5 _ ?_ (j + 1) U2 (Nat.le_refl _) ?_ ?_ ?_ ?_ ?_
        · have hm_5 := hm_5 (); omega
        · exact fr_u (fr_t (fr_0 _ _) (fr_s hf_5 rfl)) hU2 rfl
        · omega
        · exact oi_u o1 hU2
        · intro q a b
          by_cases z : q = j
          · rw [z]; exact up_f hU2
          · rw [up_g hU2 (fun y => z y.2.2)]; exact f1 q a (by omega)
        · exact fun q a => (up_g hU2 (fun y => by have := y.2.2; omega)).trans (g1 q a)
  refine j_blx (F := fJ7) tb_J7 (nn_ _) bk_J7_fill_468_0 bs_J7_fill_468_0 hz (fun K hK => ?_)
  refine hK 5 [some (vR 468 p), some (vI v), some (vI 0), some (vI 2)] [] T ?_
  refine c_5 _ 0 T (Nat.le_refl _) ?_ ?_ ?_ ?_ ?_
  · exact fr_0 _ _
  · omega
  · exact oi_r
  · intro q a b; omega
  · exact fun _ _ => rfl
theorem bk_J7_fill_469_5 : ck_ fJ7 none cJ7_fill_53178 5 [.iload 2, .iload 3, .if_icmp .ge 20, .aload 0, .iload 2, .iload 1, .iastore, .iinc 2 1, .goto 5] 20 = true := qck_r (nn_ _) (by decide +kernel)
theorem bs_J7_fill_469_5 {P : Zt → Option Zv → Prop} (K : Int → Zl → List Zv → Zt → Prop) : sx_ K P [.iload 2, .iload 3, .if_icmp .ge 20, .aload 0, .iload 2, .iload 1, .iastore, .iinc 2 1, .goto 5] 20 = x_iload 2 (x_iload 3 (x_if_icmp .ge 20 K (x_aload 0 (x_iload 2 (x_iload 1 (x_iastore (x_iinc 2 1 (x_goto 5 K)))))))) := ((xe_iload 2).trans (congrArg (x_iload 2) ((xe_iload 3).trans (congrArg (x_iload 3) ((xe_if_icmp .ge 20).trans (congrArg (x_if_icmp .ge 20 K) ((xe_aload 0).trans (congrArg (x_aload 0) ((xe_iload 2).trans (congrArg (x_iload 2) ((xe_iload 1).trans (congrArg (x_iload 1) ((xe_iastore).trans (congrArg (x_iastore) ((xe_iinc 2 1).trans (congrArg (x_iinc 2 1) (xe_goto 5)))))))))))))))))
theorem bk_J7_fill_469_20 : ck_ fJ7 none cJ7_fill_53178 20 [.return_] 21 = true := qck_r (nn_ _) (by decide +kernel)
theorem bs_J7_fill_469_20 {P : Zt → Option Zv → Prop} (K : Int → Zl → List Zv → Zt → Prop) : sx_ K P [.return_] 21 = x_return_ P := (xe_return_)
theorem bk_J7_fill_469_0 : ck_ fJ7 none cJ7_fill_53178 0 [.iconst 0, .istore 2, .aload 0, .arraylength, .istore 3] 5 = true := qck_r (nn_ _) (by decide +kernel)
theorem bs_J7_fill_469_0 {P : Zt → Option Zv → Prop} (K : Int → Zl → List Zv → Zt → Prop) : sx_ K P [.iconst 0, .istore 2, .aload 0, .arraylength, .istore 3] 5 = x_iconst 0 (x_istore 2 (x_aload 0 (x_arraylength (x_istore 3 (K 5))))) := ((xe_iconst 0).trans (congrArg (x_iconst 0) ((xe_istore 2).trans (congrArg (x_istore 2) ((xe_aload 0).trans (congrArg (x_aload 0) ((xe_arraylength).trans (congrArg (x_arraylength) ((xe_istore 3).trans (congrArg (x_istore 3) xe_nil))))))))))
abbrev po_J7_fill_469_e (T : Zt) (p : Int) (v : Int) : Zt → Option Zv → Prop := fun T' r => r = none ∧ fr_ [(469, [])] T T' ∧ oi_ T T' p ∧ (∀ j, 0 ≤ j → j < 2 → T' 469 p j = v) ∧ rs9_ T' p = fy2_ (rs9_ T p) 469 2 v
set_option maxHeartbeats 4000000 in
theorem ct_J7_fill_469_e {T : Zt} {p : Int} {v : Int} (h1 : (-2147483648) ≤ v ∧ v ≤ 2147483647) : Ct_ yJ7_fill_53178 zJ7_fill_53178 T [vR 469 p, vI v] (po_J7_fill_469_e T p v) := by
  refine ct_of (by decide) rfl rfl (Nat.le_of_ble_eq_true rfl) (fun hT hav => ?_)
  have hr_v : -2147483648 ≤ v ∧ v ≤ 2147483647 := hav (vI v) (List.mem_cons_of_mem _ List.mem_cons_self)
  have hz : zJ7_fill_53178.2.2.2.1 = some .boolean → ∀ (T' : Zt) (x : Int), po_J7_fill_469_e T p v T' (some (vI x)) → 0 ≤ x ∧ x ≤ 1 := fun h => by cases h
  show J_ zJ7_fill_53178 T (po_J7_fill_469_e T p v) 0 0 0 [some (vR 469 p), some (vI v), none, none] [] T
  have c_5 : ∀ (nn : Nat) (j : Int) (T1 : Zt), ((2 - j).toNat) ≤ nn → (fr_ [(469, [])] T T1) → (0 ≤ j ∧ j ≤ 2) → (oi_ T T1 p) → (∀ q, 0 ≤ q → q < j → T1 469 p q = v) → (∀ q, ¬ (0 ≤ q ∧ q < 2) → T1 469 p q = T 469 p q) → J_ zJ7_fill_53178 T (po_J7_fill_469_e T p v) 0 0 5 [some (vR 469 p), some (vI v), some (vI j), some (vI 2)] [] T1 := by
    intro nn
    induction nn using Nat.strongRecOn with
    | _ nn ih_5 =>
      intro j T1 hm_5 hf_5 i1 o1 f1 g1
      replace hm_5 := fun (_ : Unit) => hm_5
      refine j_blx (F := fJ7) tb_J7 (nn_ _) bk_J7_fill_469_5 bs_J7_fill_469_5 hz (fun K hK => ?_)
      refine And.intro (fun c1 => ?_) (fun c1 => ?_)
      · refine hK 20 _ [] T1 ?_
        refine j_blx (F := fJ7) tb_J7 (nn_ _) bk_J7_fill_469_20 bs_J7_fill_469_20 hz (fun K hK => ?_)
        refine (show po_J7_fill_469_e T p v T1 (none) from ?_)
        exact ⟨rfl, fr_t (fr_0 _ _) (fr_s hf_5 rfl), o1, fun q a b => f1 q a (by omega), rs_f (fr_t (fr_0 _ _) (fr_s hf_5 rfl)) (fun _ h _ => fw_1 h _) (fun q a b => f1 q a (by omega)) g1 (fun _ => rfl)⟩
      · refine iy_i (by omega) (by omega) ?_
        refine x_nm (fun U2 hU2 => ?_)
        have e3 := up_f hU2
        refine rg_i (by omega) ?_
        refine hK 5 [some (vR 469 p), some (vI v), some (vI (j + 1)), some (vI 2)] [] U2 ?_
        refine ih_5 _ ?_ (j + 1) U2 (Nat.le_refl _) ?_ ?_ ?_ ?_ ?_
        · have hm_5 := hm_5 (); omega
        · exact fr_u (fr_t (fr_0 _ _) (fr_s hf_5 rfl)) hU2 rfl
        · omega
        · exact oi_u o1 hU2
        · intro q a b
          by_cases z : q = j
          · rw [z]; exact up_f hU2
          · rw [up_g hU2 (fun y => z y.2.2)]; exact f1 q a (by omega)
        · exact fun q a => (up_g hU2 (fun y => by have := y.2.2; omega)).trans (g1 q a)
  refine j_blx (F := fJ7) tb_J7 (nn_ _) bk_J7_fill_469_0 bs_J7_fill_469_0 hz (fun K hK => ?_)
  refine hK 5 [some (vR 469 p), some (vI v), some (vI 0), some (vI 2)] [] T ?_
  refine c_5 _ 0 T (Nat.le_refl _) ?_ ?_ ?_ ?_ ?_
  · exact fr_0 _ _
  · omega
  · exact oi_r
  · intro q a b; omega
  · exact fun _ _ => rfl
theorem bk_J7_fill_472_5 : ck_ fJ7 none cJ7_fill_53178 5 [.iload 2, .iload 3, .if_icmp .ge 20, .aload 0, .iload 2, .iload 1, .iastore, .iinc 2 1, .goto 5] 20 = true := qck_r (nn_ _) (by decide +kernel)
theorem bs_J7_fill_472_5 {P : Zt → Option Zv → Prop} (K : Int → Zl → List Zv → Zt → Prop) : sx_ K P [.iload 2, .iload 3, .if_icmp .ge 20, .aload 0, .iload 2, .iload 1, .iastore, .iinc 2 1, .goto 5] 20 = x_iload 2 (x_iload 3 (x_if_icmp .ge 20 K (x_aload 0 (x_iload 2 (x_iload 1 (x_iastore (x_iinc 2 1 (x_goto 5 K)))))))) := ((xe_iload 2).trans (congrArg (x_iload 2) ((xe_iload 3).trans (congrArg (x_iload 3) ((xe_if_icmp .ge 20).trans (congrArg (x_if_icmp .ge 20 K) ((xe_aload 0).trans (congrArg (x_aload 0) ((xe_iload 2).trans (congrArg (x_iload 2) ((xe_iload 1).trans (congrArg (x_iload 1) ((xe_iastore).trans (congrArg (x_iastore) ((xe_iinc 2 1).trans (congrArg (x_iinc 2 1) (xe_goto 5)))))))))))))))))
theorem bk_J7_fill_472_20 : ck_ fJ7 none cJ7_fill_53178 20 [.return_] 21 = true := qck_r (nn_ _) (by decide +kernel)
theorem bs_J7_fill_472_20 {P : Zt → Option Zv → Prop} (K : Int → Zl → List Zv → Zt → Prop) : sx_ K P [.return_] 21 = x_return_ P := (xe_return_)
theorem bk_J7_fill_472_0 : ck_ fJ7 none cJ7_fill_53178 0 [.iconst 0, .istore 2, .aload 0, .arraylength, .istore 3] 5 = true := qck_r (nn_ _) (by decide +kernel)
theorem bs_J7_fill_472_0 {P : Zt → Option Zv → Prop} (K : Int → Zl → List Zv → Zt → Prop) : sx_ K P [.iconst 0, .istore 2, .aload 0, .arraylength, .istore 3] 5 = x_iconst 0 (x_istore 2 (x_aload 0 (x_arraylength (x_istore 3 (K 5))))) := ((xe_iconst 0).trans (congrArg (x_iconst 0) ((xe_istore 2).trans (congrArg (x_istore 2) ((xe_aload 0).trans (congrArg (x_aload 0) ((xe_arraylength).trans (congrArg (x_arraylength) ((xe_istore 3).trans (congrArg (x_istore 3) xe_nil))))))))))
abbrev po_J7_fill_472_e (T : Zt) (p : Int) (v : Int) : Zt → Option Zv → Prop := fun T' r => r = none ∧ fr_ [(472, [])] T T' ∧ oi_ T T' p ∧ (∀ j, 0 ≤ j → j < 20 → T' 472 p j = v) ∧ rs9_ T' p = fy2_ (rs9_ T p) 472 20 v
set_option maxHeartbeats 4000000 in
theorem ct_J7_fill_472_e {T : Zt} {p : Int} {v : Int} (h1 : 0 ≤ v ∧ v ≤ 3) : Ct_ yJ7_fill_53178 zJ7_fill_53178 T [vR 472 p, vI v] (po_J7_fill_472_e T p v) := by
  refine ct_of (by decide) rfl rfl (Nat.le_of_ble_eq_true rfl) (fun hT hav => ?_)
  have hr_v : -2147483648 ≤ v ∧ v ≤ 2147483647 := hav (vI v) (List.mem_cons_of_mem _ List.mem_cons_self)
  have hz : zJ7_fill_53178.2.2.2.1 = some .boolean → ∀ (T' : Zt) (x : Int), po_J7_fill_472_e T p v T' (some (vI x)) → 0 ≤ x ∧ x ≤ 1 := fun h => by cases h
  show J_ zJ7_fill_53178 T (po_J7_fill_472_e T p v) 0 0 0 [some (vR 472 p), some (vI v), none, none] [] T
  have c_5 : ∀ (nn : Nat) (j : Int) (T1 : Zt), ((20 - j).toNat) ≤ nn → (fr_ [(472, [])] T T1) → (0 ≤ j ∧ j ≤ 20) → (oi_ T T1 p) → (∀ q, 0 ≤ q → q < j → T1 472 p q = v) → (∀ q, ¬ (0 ≤ q ∧ q < 20) → T1 472 p q = T 472 p q) → J_ zJ7_fill_53178 T (po_J7_fill_472_e T p v) 0 0 5 [some (vR 472 p), some (vI v), some (vI j), some (vI 20)] [] T1 := by
    intro nn
    induction nn using Nat.strongRecOn with
    | _ nn ih_5 =>
      intro j T1 hm_5 hf_5 i1 o1 f1 g1
      replace hm_5 := fun (_ : Unit) => hm_5
      refine j_blx (F := fJ7) tb_J7 (nn_ _) bk_J7_fill_472_5 bs_J7_fill_472_5 hz (fun K hK => ?_)
      refine And.intro (fun c1 => ?_) (fun c1 => ?_)
      · refine hK 20 _ [] T1 ?_
        refine j_blx (F := fJ7) tb_J7 (nn_ _) bk_J7_fill_472_20 bs_J7_fill_472_20 hz (fun K hK => ?_)
        refine (show po_J7_fill_472_e T p v T1 (none) from ?_)
        exact ⟨rfl, fr_t (fr_0 _ _) (fr_s hf_5 rfl), o1, fun q a b => f1 q a (by omega), rs_f (fr_t (fr_0 _ _) (fr_s hf_5 rfl)) (fun _ h _ => fw_1 h _) (fun q a b => f1 q a (by omega)) g1 (fun _ => rfl)⟩
      · refine iy_i (by omega) (by omega) ?_
        refine x_nm (fun U2 hU2 => ?_)
        have e3 := up_f hU2
        refine rg_i (by omega) ?_
        refine hK 5 [some (vR 472 p), some (vI v), some (vI (j + 1)), some (vI 20)] [] U2 ?_
        refine ih_5 _ ?_ (j + 1) U2 (Nat.le_refl _) ?_ ?_ ?_ ?_ ?_
        · have hm_5 := hm_5 (); omega
        · exact fr_u (fr_t (fr_0 _ _) (fr_s hf_5 rfl)) hU2 rfl
        · omega
        · exact oi_u o1 hU2
        · intro q a b
          by_cases z : q = j
          · rw [z]; exact up_f hU2
          · rw [up_g hU2 (fun y => z y.2.2)]; exact f1 q a (by omega)
        · exact fun q a => (up_g hU2 (fun y => by have := y.2.2; omega)).trans (g1 q a)
  refine j_blx (F := fJ7) tb_J7 (nn_ _) bk_J7_fill_472_0 bs_J7_fill_472_0 hz (fun K hK => ?_)
  refine hK 5 [some (vR 472 p), some (vI v), some (vI 0), some (vI 20)] [] T ?_
  refine c_5 _ 0 T (Nat.le_refl _) ?_ ?_ ?_ ?_ ?_
  · exact fr_0 _ _
  · omega
  · exact oi_r
  · intro q a b; omega
  · exact fun _ _ => rfl
theorem bk_J7_fill_473_5 : ck_ fJ7 none cJ7_fill_53178 5 [.iload 2, .iload 3, .if_icmp .ge 20, .aload 0, .iload 2, .iload 1, .iastore, .iinc 2 1, .goto 5] 20 = true := qck_r (nn_ _) (by decide +kernel)
theorem bs_J7_fill_473_5 {P : Zt → Option Zv → Prop} (K : Int → Zl → List Zv → Zt → Prop) : sx_ K P [.iload 2, .iload 3, .if_icmp .ge 20, .aload 0, .iload 2, .iload 1, .iastore, .iinc 2 1, .goto 5] 20 = x_iload 2 (x_iload 3 (x_if_icmp .ge 20 K (x_aload 0 (x_iload 2 (x_iload 1 (x_iastore (x_iinc 2 1 (x_goto 5 K)))))))) := ((xe_iload 2).trans (congrArg (x_iload 2) ((xe_iload 3).trans (congrArg (x_iload 3) ((xe_if_icmp .ge 20).trans (congrArg (x_if_icmp .ge 20 K) ((xe_aload 0).trans (congrArg (x_aload 0) ((xe_iload 2).trans (congrArg (x_iload 2) ((xe_iload 1).trans (congrArg (x_iload 1) ((xe_iastore).trans (congrArg (x_iastore) ((xe_iinc 2 1).trans (congrArg (x_iinc 2 1) (xe_goto 5)))))))))))))))))
theorem bk_J7_fill_473_20 : ck_ fJ7 none cJ7_fill_53178 20 [.return_] 21 = true := qck_r (nn_ _) (by decide +kernel)
theorem bs_J7_fill_473_20 {P : Zt → Option Zv → Prop} (K : Int → Zl → List Zv → Zt → Prop) : sx_ K P [.return_] 21 = x_return_ P := (xe_return_)
theorem bk_J7_fill_473_0 : ck_ fJ7 none cJ7_fill_53178 0 [.iconst 0, .istore 2, .aload 0, .arraylength, .istore 3] 5 = true := qck_r (nn_ _) (by decide +kernel)
theorem bs_J7_fill_473_0 {P : Zt → Option Zv → Prop} (K : Int → Zl → List Zv → Zt → Prop) : sx_ K P [.iconst 0, .istore 2, .aload 0, .arraylength, .istore 3] 5 = x_iconst 0 (x_istore 2 (x_aload 0 (x_arraylength (x_istore 3 (K 5))))) := ((xe_iconst 0).trans (congrArg (x_iconst 0) ((xe_istore 2).trans (congrArg (x_istore 2) ((xe_aload 0).trans (congrArg (x_aload 0) ((xe_arraylength).trans (congrArg (x_arraylength) ((xe_istore 3).trans (congrArg (x_istore 3) xe_nil))))))))))
abbrev po_J7_fill_473_e (T : Zt) (p : Int) (v : Int) : Zt → Option Zv → Prop := fun T' r => r = none ∧ fr_ [(473, [])] T T' ∧ oi_ T T' p ∧ (∀ j, 0 ≤ j → j < 20 → T' 473 p j = v) ∧ rs9_ T' p = fy2_ (rs9_ T p) 473 20 v
set_option maxHeartbeats 4000000 in
theorem ct_J7_fill_473_e {T : Zt} {p : Int} {v : Int} (h1 : (-2147483648) ≤ v ∧ v ≤ 2147483647) : Ct_ yJ7_fill_53178 zJ7_fill_53178 T [vR 473 p, vI v] (po_J7_fill_473_e T p v) := by
  refine ct_of (by decide) rfl rfl (Nat.le_of_ble_eq_true rfl) (fun hT hav => ?_)
  have hr_v : -2147483648 ≤ v ∧ v ≤ 2147483647 := hav (vI v) (List.mem_cons_of_mem _ List.mem_cons_self)
  have hz : zJ7_fill_53178.2.2.2.1 = some .boolean → ∀ (T' : Zt) (x : Int), po_J7_fill_473_e T p v T' (some (vI x)) → 0 ≤ x ∧ x ≤ 1 := fun h => by cases h
  show J_ zJ7_fill_53178 T (po_J7_fill_473_e T p v) 0 0 0 [some (vR 473 p), some (vI v), none, none] [] T
  have c_5 : ∀ (nn : Nat) (j : Int) (T1 : Zt), ((20 - j).toNat) ≤ nn → (fr_ [(473, [])] T T1) → (0 ≤ j ∧ j ≤ 20) → (oi_ T T1 p) → (∀ q, 0 ≤ q → q < j → T1 473 p q = v) → (∀ q, ¬ (0 ≤ q ∧ q < 20) → T1 473 p q = T 473 p q) → J_ zJ7_fill_53178 T (po_J7_fill_473_e T p v) 0 0 5 [some (vR 473 p), some (vI v), some (vI j), some (vI 20)] [] T1 := by
    intro nn
    induction nn using Nat.strongRecOn with
    | _ nn ih_5 =>
      intro j T1 hm_5 hf_5 i1 o1 f1 g1
      replace hm_5 := fun (_ : Unit) => hm_5
      refine j_blx (F := fJ7) tb_J7 (nn_ _) bk_J7_fill_473_5 bs_J7_fill_473_5 hz (fun K hK => ?_)
      refine And.intro (fun c1 => ?_) (fun c1 => ?_)
      · refine hK 20 _ [] T1 ?_
        refine j_blx (F := fJ7) tb_J7 (nn_ _) bk_J7_fill_473_20 bs_J7_fill_473_20 hz (fun K hK => ?_)
        refine (show po_J7_fill_473_e T p v T1 (none) from ?_)
        exact ⟨rfl, fr_t (fr_0 _ _) (fr_s hf_5 rfl), o1, fun q a b => f1 q a (by omega), rs_f (fr_t (fr_0 _ _) (fr_s hf_5 rfl)) (fun _ h _ => fw_1 h _) (fun q a b => f1 q a (by omega)) g1 (fun _ => rfl)⟩
      · refine iy_i (by omega) (by omega) ?_
        refine x_nm (fun U2 hU2 => ?_)
        have e3 := up_f hU2
        refine rg_i (by omega) ?_
        refine hK 5 [some (vR 473 p), some (vI v), some (vI (j + 1)), some (vI 20)] [] U2 ?_
        refine ih_5 _ ?_ (j + 1) U2 (Nat.le_refl _) ?_ ?_ ?_ ?_ ?_
        · have hm_5 := hm_5 (); omega
        · exact fr_u (fr_t (fr_0 _ _) (fr_s hf_5 rfl)) hU2 rfl
        · omega
        · exact oi_u o1 hU2
        · intro q a b
          by_cases z : q = j
          · rw [z]; exact up_f hU2
          · rw [up_g hU2 (fun y => z y.2.2)]; exact f1 q a (by omega)
        · exact fun q a => (up_g hU2 (fun y => by have := y.2.2; omega)).trans (g1 q a)
  refine j_blx (F := fJ7) tb_J7 (nn_ _) bk_J7_fill_473_0 bs_J7_fill_473_0 hz (fun K hK => ?_)
  refine hK 5 [some (vR 473 p), some (vI v), some (vI 0), some (vI 20)] [] T ?_
  refine c_5 _ 0 T (Nat.le_refl _) ?_ ?_ ?_ ?_ ?_
  · exact fr_0 _ _
  · omega
  · exact oi_r
  · intro q a b; omega
  · exact fun _ _ => rfl
theorem bk_X3_isFormed_e_105 : ck_ fX3 (some .boolean) cX3_isFormed 105 [.iload 3, .ifCond .eq 124, .iload 1, .ifCond .eq 120, .iload 2] 114 = true := qck_r (nn_ _) (by decide +kernel)
theorem bs_X3_isFormed_e_105 {P : Zt → Option Zv → Prop} (K : Int → Zl → List Zv → Zt → Prop) : sx_ K P [.iload 3, .ifCond .eq 124, .iload 1, .ifCond .eq 120, .iload 2] 114 = x_iload 3 (x_ifCond .eq 124 K (x_iload 1 (x_ifCond .eq 120 K (x_iload 2 (K 114))))) := ((xe_iload 3).trans (congrArg (x_iload 3) ((xe_ifCond .eq 124).trans (congrArg (x_ifCond .eq 124 K) ((xe_iload 1).trans (congrArg (x_iload 1) ((xe_ifCond .eq 120).trans (congrArg (x_ifCond .eq 120 K) ((xe_iload 2).trans (congrArg (x_iload 2) xe_nil))))))))))
theorem bk_X3_isFormed_e_124 : ck_ fX3 (some .boolean) cX3_isFormed 124 [.iconst 0, .ireturn] 126 = true := qck_r (nn_ _) (by decide +kernel)
theorem bs_X3_isFormed_e_124 {P : Zt → Option Zv → Prop} (K : Int → Zl → List Zv → Zt → Prop) : sx_ K P [.iconst 0, .ireturn] 126 = x_iconst 0 (x_ireturn P) := ((xe_iconst 0).trans (congrArg (x_iconst 0) (xe_ireturn)))
theorem bk_X3_isFormed_e_120 : ck_ fX3 (some .boolean) cX3_isFormed 120 [.iconst 1, .goto 125] 124 = true := qck_r (nn_ _) (by decide +kernel)
theorem bs_X3_isFormed_e_120 {P : Zt → Option Zv → Prop} (K : Int → Zl → List Zv → Zt → Prop) : sx_ K P [.iconst 1, .goto 125] 124 = x_iconst 1 (x_goto 125 K) := ((xe_iconst 1).trans (congrArg (x_iconst 1) (xe_goto 125)))
theorem bk_X3_isFormed_e_125 : ck_ fX3 (some .boolean) cX3_isFormed 125 [.ireturn] 126 = true := qck_r (nn_ _) (by decide +kernel)
theorem bs_X3_isFormed_e_125 {P : Zt → Option Zv → Prop} (K : Int → Zl → List Zv → Zt → Prop) : sx_ K P [.ireturn] 126 = x_ireturn P := (xe_ireturn)
theorem bk_X3_isFormed_e_117 : ck_ fX3 (some .boolean) cX3_isFormed 117 [.ifCond .eq 124, .iconst 1, .goto 125] 124 = true := qck_r (nn_ _) (by decide +kernel)
theorem bs_X3_isFormed_e_117 {P : Zt → Option Zv → Prop} (K : Int → Zl → List Zv → Zt → Prop) : sx_ K P [.ifCond .eq 124, .iconst 1, .goto 125] 124 = x_ifCond .eq 124 K (x_iconst 1 (x_goto 125 K)) := ((xe_ifCond .eq 124).trans (congrArg (x_ifCond .eq 124 K) ((xe_iconst 1).trans (congrArg (x_iconst 1) (xe_goto 125)))))
theorem bk_X3_isFormed_e_0 : ck_ fX3 (some .boolean) cX3_isFormed 0 [.aload 0, .tableswitch 0 3 0 #[], .iconst 0, .iaload] 6 = true := qck_r (nn_ _) (by decide +kernel)
theorem bs_X3_isFormed_e_0 {P : Zt → Option Zv → Prop} (K : Int → Zl → List Zv → Zt → Prop) : sx_ K P [.aload 0, .tableswitch 0 3 0 #[], .iconst 0, .iaload] 6 = x_aload 0 (x_g3 103 401 0 (x_iconst 0 (x_iaload (K 6)))) := ((xe_aload 0).trans (congrArg (x_aload 0) ((xe_g3 (kk := 103) rfl tl_3_0).trans (congrArg (x_g3 103 401 0) ((xe_iconst 0).trans (congrArg (x_iconst 0) ((xe_iaload).trans (congrArg (x_iaload) xe_nil))))))))
theorem bk_X3_isFormed_e_32 : ck_ fX3 (some .boolean) cX3_isFormed 32 [.iload 1, .ifCond .lt 45, .iload 1, .iconst 5, .if_icmp .gt 45, .iconst 1, .goto 46] 45 = true := qck_r (nn_ _) (by decide +kernel)
theorem bs_X3_isFormed_e_32 {P : Zt → Option Zv → Prop} (K : Int → Zl → List Zv → Zt → Prop) : sx_ K P [.iload 1, .ifCond .lt 45, .iload 1, .iconst 5, .if_icmp .gt 45, .iconst 1, .goto 46] 45 = x_iload 1 (x_ifCond .lt 45 K (x_iload 1 (x_iconst 5 (x_if_icmp .gt 45 K (x_iconst 1 (x_goto 46 K)))))) := ((xe_iload 1).trans (congrArg (x_iload 1) ((xe_ifCond .lt 45).trans (congrArg (x_ifCond .lt 45 K) ((xe_iload 1).trans (congrArg (x_iload 1) ((xe_iconst 5).trans (congrArg (x_iconst 5) ((xe_if_icmp .gt 45).trans (congrArg (x_if_icmp .gt 45 K) ((xe_iconst 1).trans (congrArg (x_iconst 1) (xe_goto 46)))))))))))))
theorem bk_X3_isFormed_e_45 : ck_ fX3 (some .boolean) cX3_isFormed 45 [.iconst 0, .istore 3, .goto 105] 50 = true := qck_r (nn_ _) (by decide +kernel)
theorem bs_X3_isFormed_e_45 {P : Zt → Option Zv → Prop} (K : Int → Zl → List Zv → Zt → Prop) : sx_ K P [.iconst 0, .istore 3, .goto 105] 50 = x_iconst 0 (x_istore 3 (x_goto 105 K)) := ((xe_iconst 0).trans (congrArg (x_iconst 0) ((xe_istore 3).trans (congrArg (x_istore 3) (xe_goto 105)))))
theorem bk_X3_isFormed_e_46 : ck_ fX3 (some .boolean) cX3_isFormed 46 [.istore 3, .goto 105] 50 = true := qck_r (nn_ _) (by decide +kernel)
theorem bs_X3_isFormed_e_46 {P : Zt → Option Zv → Prop} (K : Int → Zl → List Zv → Zt → Prop) : sx_ K P [.istore 3, .goto 105] 50 = x_istore 3 (x_goto 105 K) := ((xe_istore 3).trans (congrArg (x_istore 3) (xe_goto 105)))
theorem bk_X3_isFormed_e_50 : ck_ fX3 (some .boolean) cX3_isFormed 50 [.iload 1, .iconst 1, .if_icmp .eq 60, .iload 1, .iconst 5, .if_icmp .ne 64, .iconst 1, .goto 65] 64 = true := qck_r (nn_ _) (by decide +kernel)
theorem bs_X3_isFormed_e_50 {P : Zt → Option Zv → Prop} (K : Int → Zl → List Zv → Zt → Prop) : sx_ K P [.iload 1, .iconst 1, .if_icmp .eq 60, .iload 1, .iconst 5, .if_icmp .ne 64, .iconst 1, .goto 65] 64 = x_iload 1 (x_iconst 1 (x_if_icmp .eq 60 K (x_iload 1 (x_iconst 5 (x_if_icmp .ne 64 K (x_iconst 1 (x_goto 65 K))))))) := ((xe_iload 1).trans (congrArg (x_iload 1) ((xe_iconst 1).trans (congrArg (x_iconst 1) ((xe_if_icmp .eq 60).trans (congrArg (x_if_icmp .eq 60 K) ((xe_iload 1).trans (congrArg (x_iload 1) ((xe_iconst 5).trans (congrArg (x_iconst 5) ((xe_if_icmp .ne 64).trans (congrArg (x_if_icmp .ne 64 K) ((xe_iconst 1).trans (congrArg (x_iconst 1) (xe_goto 65)))))))))))))))
theorem bk_X3_isFormed_e_60 : ck_ fX3 (some .boolean) cX3_isFormed 60 [.iconst 1, .goto 65] 64 = true := qck_r (nn_ _) (by decide +kernel)
theorem bs_X3_isFormed_e_60 {P : Zt → Option Zv → Prop} (K : Int → Zl → List Zv → Zt → Prop) : sx_ K P [.iconst 1, .goto 65] 64 = x_iconst 1 (x_goto 65 K) := ((xe_iconst 1).trans (congrArg (x_iconst 1) (xe_goto 65)))
theorem bk_X3_isFormed_e_65 : ck_ fX3 (some .boolean) cX3_isFormed 65 [.istore 3, .goto 105] 69 = true := qck_r (nn_ _) (by decide +kernel)
theorem bs_X3_isFormed_e_65 {P : Zt → Option Zv → Prop} (K : Int → Zl → List Zv → Zt → Prop) : sx_ K P [.istore 3, .goto 105] 69 = x_istore 3 (x_goto 105 K) := ((xe_istore 3).trans (congrArg (x_istore 3) (xe_goto 105)))
theorem bk_X3_isFormed_e_64 : ck_ fX3 (some .boolean) cX3_isFormed 64 [.iconst 0, .istore 3, .goto 105] 69 = true := qck_r (nn_ _) (by decide +kernel)
theorem bs_X3_isFormed_e_64 {P : Zt → Option Zv → Prop} (K : Int → Zl → List Zv → Zt → Prop) : sx_ K P [.iconst 0, .istore 3, .goto 105] 69 = x_iconst 0 (x_istore 3 (x_goto 105 K)) := ((xe_iconst 0).trans (congrArg (x_iconst 0) ((xe_istore 3).trans (congrArg (x_istore 3) (xe_goto 105)))))
theorem bk_X3_isFormed_e_69 : ck_ fX3 (some .boolean) cX3_isFormed 69 [.iload 1, .iconst 1, .if_icmp .eq 80, .iload 1, .iconst 6, .if_icmp .ne 84, .iconst 1, .goto 85] 84 = true := qck_r (nn_ _) (by decide +kernel)
theorem bs_X3_isFormed_e_69 {P : Zt → Option Zv → Prop} (K : Int → Zl → List Zv → Zt → Prop) : sx_ K P [.iload 1, .iconst 1, .if_icmp .eq 80, .iload 1, .iconst 6, .if_icmp .ne 84, .iconst 1, .goto 85] 84 = x_iload 1 (x_iconst 1 (x_if_icmp .eq 80 K (x_iload 1 (x_iconst 6 (x_if_icmp .ne 84 K (x_iconst 1 (x_goto 85 K))))))) := ((xe_iload 1).trans (congrArg (x_iload 1) ((xe_iconst 1).trans (congrArg (x_iconst 1) ((xe_if_icmp .eq 80).trans (congrArg (x_if_icmp .eq 80 K) ((xe_iload 1).trans (congrArg (x_iload 1) ((xe_iconst 6).trans (congrArg (x_iconst 6) ((xe_if_icmp .ne 84).trans (congrArg (x_if_icmp .ne 84 K) ((xe_iconst 1).trans (congrArg (x_iconst 1) (xe_goto 85)))))))))))))))
theorem bk_X3_isFormed_e_80 : ck_ fX3 (some .boolean) cX3_isFormed 80 [.iconst 1, .goto 85] 84 = true := qck_r (nn_ _) (by decide +kernel)
theorem bs_X3_isFormed_e_80 {P : Zt → Option Zv → Prop} (K : Int → Zl → List Zv → Zt → Prop) : sx_ K P [.iconst 1, .goto 85] 84 = x_iconst 1 (x_goto 85 K) := ((xe_iconst 1).trans (congrArg (x_iconst 1) (xe_goto 85)))
theorem bk_X3_isFormed_e_85 : ck_ fX3 (some .boolean) cX3_isFormed 85 [.istore 3, .goto 105] 89 = true := qck_r (nn_ _) (by decide +kernel)
theorem bs_X3_isFormed_e_85 {P : Zt → Option Zv → Prop} (K : Int → Zl → List Zv → Zt → Prop) : sx_ K P [.istore 3, .goto 105] 89 = x_istore 3 (x_goto 105 K) := ((xe_istore 3).trans (congrArg (x_istore 3) (xe_goto 105)))
theorem bk_X3_isFormed_e_84 : ck_ fX3 (some .boolean) cX3_isFormed 84 [.iconst 0, .istore 3, .goto 105] 89 = true := qck_r (nn_ _) (by decide +kernel)
theorem bs_X3_isFormed_e_84 {P : Zt → Option Zv → Prop} (K : Int → Zl → List Zv → Zt → Prop) : sx_ K P [.iconst 0, .istore 3, .goto 105] 89 = x_iconst 0 (x_istore 3 (x_goto 105 K)) := ((xe_iconst 0).trans (congrArg (x_iconst 0) ((xe_istore 3).trans (congrArg (x_istore 3) (xe_goto 105)))))
theorem bk_X3_isFormed_e_89 : ck_ fX3 (some .boolean) cX3_isFormed 89 [.iload 1, .iconst 1, .if_icmp .lt 103, .iload 1, .iconst 4, .if_icmp .gt 103, .iconst 1, .goto 104] 103 = true := qck_r (nn_ _) (by decide +kernel)
theorem bs_X3_isFormed_e_89 {P : Zt → Option Zv → Prop} (K : Int → Zl → List Zv → Zt → Prop) : sx_ K P [.iload 1, .iconst 1, .if_icmp .lt 103, .iload 1, .iconst 4, .if_icmp .gt 103, .iconst 1, .goto 104] 103 = x_iload 1 (x_iconst 1 (x_if_icmp .lt 103 K (x_iload 1 (x_iconst 4 (x_if_icmp .gt 103 K (x_iconst 1 (x_goto 104 K))))))) := ((xe_iload 1).trans (congrArg (x_iload 1) ((xe_iconst 1).trans (congrArg (x_iconst 1) ((xe_if_icmp .lt 103).trans (congrArg (x_if_icmp .lt 103 K) ((xe_iload 1).trans (congrArg (x_iload 1) ((xe_iconst 4).trans (congrArg (x_iconst 4) ((xe_if_icmp .gt 103).trans (congrArg (x_if_icmp .gt 103 K) ((xe_iconst 1).trans (congrArg (x_iconst 1) (xe_goto 104)))))))))))))))
theorem bk_X3_isFormed_e_103 : ck_ fX3 (some .boolean) cX3_isFormed 103 [.iconst 0, .istore 3] 105 = true := qck_r (nn_ _) (by decide +kernel)
theorem bs_X3_isFormed_e_103 {P : Zt → Option Zv → Prop} (K : Int → Zl → List Zv → Zt → Prop) : sx_ K P [.iconst 0, .istore 3] 105 = x_iconst 0 (x_istore 3 (K 105)) := ((xe_iconst 0).trans (congrArg (x_iconst 0) ((xe_istore 3).trans (congrArg (x_istore 3) xe_nil))))
theorem bk_X3_isFormed_e_104 : ck_ fX3 (some .boolean) cX3_isFormed 104 [.istore 3] 105 = true := qck_r (nn_ _) (by decide +kernel)
theorem bs_X3_isFormed_e_104 {P : Zt → Option Zv → Prop} (K : Int → Zl → List Zv → Zt → Prop) : sx_ K P [.istore 3] 105 = x_istore 3 (K 105) := ((xe_istore 3).trans (congrArg (x_istore 3) xe_nil))
abbrev po_X3_isFormed_e (T : Zt) (p : Int) (k s : Int) : Zt → Option Zv → Prop := fun T' r => T = T' ∧ ∃ x : Int, r = some (vI x) ∧ ((x = 1 ∧ ((k = 0 ∨ (0 ≤ s ∧ s ≤ 1)) ∧ ((T 401 (T 103 p 0) 0 = 0 ∧ 0 ≤ k ∧ k ≤ 5) ∨ (T 401 (T 103 p 0) 0 = 1 ∧ (k = 1 ∨ k = 5)) ∨ (T 401 (T 103 p 0) 0 = 2 ∧ (k = 1 ∨ k = 6)) ∨ (¬ T 401 (T 103 p 0) 0 = 0 ∧ ¬ T 401 (T 103 p 0) 0 = 1 ∧ ¬ T 401 (T 103 p 0) 0 = 2 ∧ 1 ≤ k ∧ k ≤ 4)))) ∨ (x = 0 ∧ ¬ ((k = 0 ∨ (0 ≤ s ∧ s ≤ 1)) ∧ ((T 401 (T 103 p 0) 0 = 0 ∧ 0 ≤ k ∧ k ≤ 5) ∨ (T 401 (T 103 p 0) 0 = 1 ∧ (k = 1 ∨ k = 5)) ∨ (T 401 (T 103 p 0) 0 = 2 ∧ (k = 1 ∨ k = 6)) ∨ (¬ T 401 (T 103 p 0) 0 = 0 ∧ ¬ T 401 (T 103 p 0) 0 = 1 ∧ ¬ T 401 (T 103 p 0) 0 = 2 ∧ 1 ≤ k ∧ k ≤ 4)))))
set_option maxHeartbeats 4000000 in
theorem ct_X3_isFormed_e {T : Zt} {p : Int} {k s : Int} : Ct_ yX3_isFormed zX3_isFormed T [vR 103 p, vI k, vI s] (po_X3_isFormed_e T p k s) := by
  refine ct_of pn_3 rfl rfl (Nat.le_of_ble_eq_true rfl) (fun hT hav => ?_)
  have hr_k : -2147483648 ≤ k ∧ k ≤ 2147483647 := hav (vI k) (List.mem_cons_of_mem _ List.mem_cons_self)
  have hr_s : -2147483648 ≤ s ∧ s ≤ 2147483647 := hav (vI s) (List.mem_cons_of_mem _ (List.mem_cons_of_mem _ List.mem_cons_self))
  have hz : zX3_isFormed.2.2.2.1 = some .boolean → ∀ (T' : Zt) (x : Int), po_X3_isFormed_e T p k s T' (some (vI x)) → 0 ≤ x ∧ x ≤ 1 := fun _ T' x h => by obtain ⟨-, y, e, hy⟩ := h; cases e; omega
  show J_ zX3_isFormed T (po_X3_isFormed_e T p k s) 0 0 0 [some (vR 103 p), some (vI k), some (vI s), none] [] T
  have c_105 : ∀ (v : Int), ((v = 1 ∧ ((T 401 (T 103 p 0) 0 = 0 ∧ 0 ≤ k ∧ k ≤ 5) ∨ (T 401 (T 103 p 0) 0 = 1 ∧ (k = 1 ∨ k = 5)) ∨ (T 401 (T 103 p 0) 0 = 2 ∧ (k = 1 ∨ k = 6)) ∨ (¬ T 401 (T 103 p 0) 0 = 0 ∧ ¬ T 401 (T 103 p 0) 0 = 1 ∧ ¬ T 401 (T 103 p 0) 0 = 2 ∧ 1 ≤ k ∧ k ≤ 4))) ∨ (v = 0 ∧ ¬ ((T 401 (T 103 p 0) 0 = 0 ∧ 0 ≤ k ∧ k ≤ 5) ∨ (T 401 (T 103 p 0) 0 = 1 ∧ (k = 1 ∨ k = 5)) ∨ (T 401 (T 103 p 0) 0 = 2 ∧ (k = 1 ∨ k = 6)) ∨ (¬ T 401 (T 103 p 0) 0 = 0 ∧ ¬ T 401 (T 103 p 0) 0 = 1 ∧ ¬ T 401 (T 103 p 0) 0 = 2 ∧ 1 ≤ k ∧ k ≤ 4)))) → J_ zX3_isFormed T (po_X3_isFormed_e T p k s) 0 0 105 [some (vR 103 p), some (vI k), some (vI s), some (vI v)] [] T := by
    intro v i1
    refine j_blx (F := fX3) tb_X3 (nn_ _) bk_X3_isFormed_e_105 bs_X3_isFormed_e_105 hz (fun K hK => ?_)
    refine And.intro (fun c1 => ?_) (fun c1 => ?_)
    · refine hK 124 _ [] T ?_
      refine j_blx (F := fX3) tb_X3 (nn_ _) bk_X3_isFormed_e_124 bs_X3_isFormed_e_124 hz (fun K hK => ?_)
      refine (show po_X3_isFormed_e T p k s T (some (vI 0)) from ?_)
      exact ⟨rfl, _, rfl, Or.inr ⟨rfl, by omega⟩⟩
    · refine And.intro (fun c2 => ?_) (fun c2 => ?_)
      · refine hK 120 _ [] T ?_
        refine j_blx (F := fX3) tb_X3 (nn_ _) bk_X3_isFormed_e_120 bs_X3_isFormed_e_120 hz (fun K hK => ?_)
        refine hK 125 _ [vI 1] T ?_
        refine j_blx (F := fX3) tb_X3 (nn_ _) bk_X3_isFormed_e_125 bs_X3_isFormed_e_125 hz (fun K hK => ?_)
        refine (show po_X3_isFormed_e T p k s T (some (vI 1)) from ?_)
        exact ⟨rfl, _, rfl, Or.inl ⟨rfl, by omega⟩⟩
      · refine hK 114 _ [vI s] T ?_
        refine j_callN (Yc := zX10_isSide) (rest := []) [vI s] rfl (ct_X10_isSide (T := T)) cn_X3_89 (qd_c (by decide +kernel)) (nn_ _) rfl (rf_of rfl) (Nat.le_of_ble_eq_true rfl) (Nat.le_of_ble_eq_true rfl) (Nat.le_of_ble_eq_true rfl) rfl ?_
        rintro _ _ ⟨rfl, x3, rfl, hx3⟩
        show J_ zX3_isFormed T (po_X3_isFormed_e T p k s) 0 0 117 _ [vI x3] T
        refine j_blx (F := fX3) tb_X3 (nn_ _) bk_X3_isFormed_e_117 bs_X3_isFormed_e_117 hz (fun K hK => ?_)
        refine And.intro (fun c4 => ?_) (fun c4 => ?_)
        · replace hx3 := hx3.resolve_left (fun z => absurd (c4.symm.trans z.1) (by decide))
          clear c4
          refine hK 124 _ [] T ?_
          refine j_blx (F := fX3) tb_X3 (nn_ _) bk_X3_isFormed_e_124 bs_X3_isFormed_e_124 hz (fun K hK => ?_)
          refine (show po_X3_isFormed_e T p k s T (some (vI 0)) from ?_)
          exact ⟨rfl, _, rfl, Or.inr ⟨rfl, by omega⟩⟩
        · replace hx3 := hx3.resolve_right (fun z => c4 z.1)
          clear c4
          refine hK 125 _ [vI 1] T ?_
          refine j_blx (F := fX3) tb_X3 (nn_ _) bk_X3_isFormed_e_125 bs_X3_isFormed_e_125 hz (fun K hK => ?_)
          refine (show po_X3_isFormed_e T p k s T (some (vI 1)) from ?_)
          exact ⟨rfl, _, rfl, Or.inl ⟨rfl, by omega⟩⟩
  refine j_blx (F := fX3) tb_X3 (nn_ _) bk_X3_isFormed_e_0 bs_X3_isFormed_e_0 hz (fun K hK => ?_)
  refine ix_i (by omega) ?_
  intro b6 b6b
  refine hK 6 _ [vI (T 401 (T 103 p 0) 0)] T ?_
  by_cases z7_0 : (T 401 (T 103 p 0) 0) = 0
  · refine j_tsI (pc := 6) 0 (off := 26) (tgt := 32) (by decide) ds_X3_isFormed_6 (by omega) (by decide) rfl (by decide) (by decide) ?_
    refine j_blx (F := fX3) tb_X3 (nn_ _) bk_X3_isFormed_e_32 bs_X3_isFormed_e_32 hz (fun K hK => ?_)
    refine And.intro (fun c8 => ?_) (fun c8 => ?_)
    · refine hK 45 _ [] T ?_
      refine j_blx (F := fX3) tb_X3 (nn_ _) bk_X3_isFormed_e_45 bs_X3_isFormed_e_45 hz (fun K hK => ?_)
      refine hK 105 [some (vR 103 p), some (vI k), some (vI s), some (vI 0)] [] T ?_
      refine c_105 0 ?_
      · omega
    · refine And.intro (fun c9 => ?_) (fun c9 => ?_)
      · refine hK 45 [some (vR 103 p), some (vI k), some (vI s), none] [] T ?_
        refine j_blx (F := fX3) tb_X3 (nn_ _) bk_X3_isFormed_e_45 bs_X3_isFormed_e_45 hz (fun K hK => ?_)
        refine hK 105 [some (vR 103 p), some (vI k), some (vI s), some (vI 0)] [] T ?_
        refine c_105 0 ?_
        · omega
      · refine hK 46 [some (vR 103 p), some (vI k), some (vI s), none] [vI 1] T ?_
        refine j_blx (F := fX3) tb_X3 (nn_ _) bk_X3_isFormed_e_46 bs_X3_isFormed_e_46 hz (fun K hK => ?_)
        refine hK 105 [some (vR 103 p), some (vI k), some (vI s), some (vI 1)] [] T ?_
        refine c_105 1 ?_
        · omega
  by_cases z7_1 : (T 401 (T 103 p 0) 0) = 1
  · refine j_tsI (pc := 6) 1 (off := 44) (tgt := 50) (by decide) ds_X3_isFormed_6 (by omega) (by decide) rfl (by decide) (by decide) ?_
    refine j_blx (F := fX3) tb_X3 (nn_ _) bk_X3_isFormed_e_50 bs_X3_isFormed_e_50 hz (fun K hK => ?_)
    refine And.intro (fun c10 => ?_) (fun c10 => ?_)
    · refine hK 60 _ [] T ?_
      refine j_blx (F := fX3) tb_X3 (nn_ _) bk_X3_isFormed_e_60 bs_X3_isFormed_e_60 hz (fun K hK => ?_)
      refine hK 65 _ [vI 1] T ?_
      refine j_blx (F := fX3) tb_X3 (nn_ _) bk_X3_isFormed_e_65 bs_X3_isFormed_e_65 hz (fun K hK => ?_)
      refine hK 105 [some (vR 103 p), some (vI k), some (vI s), some (vI 1)] [] T ?_
      refine c_105 1 ?_
      · omega
    · refine And.intro (fun c11 => ?_) (fun c11 => ?_)
      · refine hK 64 [some (vR 103 p), some (vI k), some (vI s), none] [] T ?_
        refine j_blx (F := fX3) tb_X3 (nn_ _) bk_X3_isFormed_e_64 bs_X3_isFormed_e_64 hz (fun K hK => ?_)
        refine hK 105 [some (vR 103 p), some (vI k), some (vI s), some (vI 0)] [] T ?_
        refine c_105 0 ?_
        · omega
      · refine hK 65 [some (vR 103 p), some (vI k), some (vI s), none] [vI 1] T ?_
        refine j_blx (F := fX3) tb_X3 (nn_ _) bk_X3_isFormed_e_65 bs_X3_isFormed_e_65 hz (fun K hK => ?_)
        refine hK 105 [some (vR 103 p), some (vI k), some (vI s), some (vI 1)] [] T ?_
        refine c_105 1 ?_
        · omega
  by_cases z7_2 : (T 401 (T 103 p 0) 0) = 2
  · refine j_tsI (pc := 6) 2 (off := 63) (tgt := 69) (by decide) ds_X3_isFormed_6 (by omega) (by decide) rfl (by decide) (by decide) ?_
    refine j_blx (F := fX3) tb_X3 (nn_ _) bk_X3_isFormed_e_69 bs_X3_isFormed_e_69 hz (fun K hK => ?_)
    refine And.intro (fun c12 => ?_) (fun c12 => ?_)
    · refine hK 80 _ [] T ?_
      refine j_blx (F := fX3) tb_X3 (nn_ _) bk_X3_isFormed_e_80 bs_X3_isFormed_e_80 hz (fun K hK => ?_)
      refine hK 85 _ [vI 1] T ?_
      refine j_blx (F := fX3) tb_X3 (nn_ _) bk_X3_isFormed_e_85 bs_X3_isFormed_e_85 hz (fun K hK => ?_)
      refine hK 105 [some (vR 103 p), some (vI k), some (vI s), some (vI 1)] [] T ?_
      refine c_105 1 ?_
      · omega
    · refine And.intro (fun c13 => ?_) (fun c13 => ?_)
      · refine hK 84 [some (vR 103 p), some (vI k), some (vI s), none] [] T ?_
        refine j_blx (F := fX3) tb_X3 (nn_ _) bk_X3_isFormed_e_84 bs_X3_isFormed_e_84 hz (fun K hK => ?_)
        refine hK 105 [some (vR 103 p), some (vI k), some (vI s), some (vI 0)] [] T ?_
        refine c_105 0 ?_
        · omega
      · refine hK 85 [some (vR 103 p), some (vI k), some (vI s), none] [vI 1] T ?_
        refine j_blx (F := fX3) tb_X3 (nn_ _) bk_X3_isFormed_e_85 bs_X3_isFormed_e_85 hz (fun K hK => ?_)
        refine hK 105 [some (vR 103 p), some (vI k), some (vI s), some (vI 1)] [] T ?_
        refine c_105 1 ?_
        · omega
  refine j_tsO (pc := 6) (tgt := 89) (by decide) ds_X3_isFormed_6 (by omega) (by decide) (by decide) ?_
  refine j_blx (F := fX3) tb_X3 (nn_ _) bk_X3_isFormed_e_89 bs_X3_isFormed_e_89 hz (fun K hK => ?_)
  refine And.intro (fun c14 => ?_) (fun c14 => ?_)
  · refine hK 103 _ [] T ?_
    refine j_blx (F := fX3) tb_X3 (nn_ _) bk_X3_isFormed_e_103 bs_X3_isFormed_e_103 hz (fun K hK => ?_)
    refine hK 105 [some (vR 103 p), some (vI k), some (vI s), some (vI 0)] [] T ?_
    refine c_105 0 ?_
    · omega
  · refine And.intro (fun c15 => ?_) (fun c15 => ?_)
    · refine hK 103 [some (vR 103 p), some (vI k), some (vI s), none] [] T ?_
      refine j_blx (F := fX3) tb_X3 (nn_ _) bk_X3_isFormed_e_103 bs_X3_isFormed_e_103 hz (fun K hK => ?_)
      refine hK 105 [some (vR 103 p), some (vI k), some (vI s), some (vI 0)] [] T ?_
      refine c_105 0 ?_
      · omega
    · refine hK 104 [some (vR 103 p), some (vI k), some (vI s), none] [vI 1] T ?_
      refine j_blx (F := fX3) tb_X3 (nn_ _) bk_X3_isFormed_e_104 bs_X3_isFormed_e_104 hz (fun K hK => ?_)
      refine hK 105 [some (vR 103 p), some (vI k), some (vI s), some (vI 1)] [] T ?_
      refine c_105 1 ?_
      · omega
theorem bk_X3_isBounded_e_0 : ck_ fX3 (some .boolean) cX3_isBounded 0 [.aload 0, .tableswitch 0 3 0 #[], .iconst 0, .iaload, .iconst 3, .if_icmp .ne 25, .iload 1, .iconst 1, .if_icmp .ne 25, .iload 2, .iconst 1, .if_icmp .lt 29, .iload 2, .iconst 4, .if_icmp .gt 29, .iconst 1, .goto 30] 29 = true := qck_r (nn_ _) (by decide +kernel)
theorem bs_X3_isBounded_e_0 {P : Zt → Option Zv → Prop} (K : Int → Zl → List Zv → Zt → Prop) : sx_ K P [.aload 0, .tableswitch 0 3 0 #[], .iconst 0, .iaload, .iconst 3, .if_icmp .ne 25, .iload 1, .iconst 1, .if_icmp .ne 25, .iload 2, .iconst 1, .if_icmp .lt 29, .iload 2, .iconst 4, .if_icmp .gt 29, .iconst 1, .goto 30] 29 = x_aload 0 (x_g3 103 401 0 (x_iconst 0 (x_iaload (x_iconst 3 (x_if_icmp .ne 25 K (x_iload 1 (x_iconst 1 (x_if_icmp .ne 25 K (x_iload 2 (x_iconst 1 (x_if_icmp .lt 29 K (x_iload 2 (x_iconst 4 (x_if_icmp .gt 29 K (x_iconst 1 (x_goto 30 K)))))))))))))))) := ((xe_aload 0).trans (congrArg (x_aload 0) ((xe_g3 (kk := 103) rfl tl_3_0).trans (congrArg (x_g3 103 401 0) ((xe_iconst 0).trans (congrArg (x_iconst 0) ((xe_iaload).trans (congrArg (x_iaload) ((xe_iconst 3).trans (congrArg (x_iconst 3) ((xe_if_icmp .ne 25).trans (congrArg (x_if_icmp .ne 25 K) ((xe_iload 1).trans (congrArg (x_iload 1) ((xe_iconst 1).trans (congrArg (x_iconst 1) ((xe_if_icmp .ne 25).trans (congrArg (x_if_icmp .ne 25 K) ((xe_iload 2).trans (congrArg (x_iload 2) ((xe_iconst 1).trans (congrArg (x_iconst 1) ((xe_if_icmp .lt 29).trans (congrArg (x_if_icmp .lt 29 K) ((xe_iload 2).trans (congrArg (x_iload 2) ((xe_iconst 4).trans (congrArg (x_iconst 4) ((xe_if_icmp .gt 29).trans (congrArg (x_if_icmp .gt 29 K) ((xe_iconst 1).trans (congrArg (x_iconst 1) (xe_goto 30)))))))))))))))))))))))))))))))))
theorem bk_X3_isBounded_e_25 : ck_ fX3 (some .boolean) cX3_isBounded 25 [.iconst 1, .goto 30] 29 = true := qck_r (nn_ _) (by decide +kernel)
theorem bs_X3_isBounded_e_25 {P : Zt → Option Zv → Prop} (K : Int → Zl → List Zv → Zt → Prop) : sx_ K P [.iconst 1, .goto 30] 29 = x_iconst 1 (x_goto 30 K) := ((xe_iconst 1).trans (congrArg (x_iconst 1) (xe_goto 30)))
theorem bk_X3_isBounded_e_30 : ck_ fX3 (some .boolean) cX3_isBounded 30 [.ireturn] 31 = true := qck_r (nn_ _) (by decide +kernel)
theorem bs_X3_isBounded_e_30 {P : Zt → Option Zv → Prop} (K : Int → Zl → List Zv → Zt → Prop) : sx_ K P [.ireturn] 31 = x_ireturn P := (xe_ireturn)
theorem bk_X3_isBounded_e_29 : ck_ fX3 (some .boolean) cX3_isBounded 29 [.iconst 0, .ireturn] 31 = true := qck_r (nn_ _) (by decide +kernel)
theorem bs_X3_isBounded_e_29 {P : Zt → Option Zv → Prop} (K : Int → Zl → List Zv → Zt → Prop) : sx_ K P [.iconst 0, .ireturn] 31 = x_iconst 0 (x_ireturn P) := ((xe_iconst 0).trans (congrArg (x_iconst 0) (xe_ireturn)))
abbrev po_X3_isBounded_e (T : Zt) (p : Int) (k o : Int) : Zt → Option Zv → Prop := fun T' r => T = T' ∧ ∃ x : Int, r = some (vI x) ∧ ((x = 1 ∧ (T 401 (T 103 p 0) 0 ≠ 3 ∨ k ≠ 1 ∨ (1 ≤ o ∧ o ≤ 4))) ∨ (x = 0 ∧ ¬ (T 401 (T 103 p 0) 0 ≠ 3 ∨ k ≠ 1 ∨ (1 ≤ o ∧ o ≤ 4))))
set_option maxHeartbeats 4000000 in
theorem ct_X3_isBounded_e {T : Zt} {p : Int} {k o : Int} : Ct_ yX3_isBounded zX3_isBounded T [vR 103 p, vI k, vI o] (po_X3_isBounded_e T p k o) := by
  refine ct_of pn_3 rfl rfl (Nat.le_of_ble_eq_true rfl) (fun hT hav => ?_)
  have hr_k : -2147483648 ≤ k ∧ k ≤ 2147483647 := hav (vI k) (List.mem_cons_of_mem _ List.mem_cons_self)
  have hr_o : -2147483648 ≤ o ∧ o ≤ 2147483647 := hav (vI o) (List.mem_cons_of_mem _ (List.mem_cons_of_mem _ List.mem_cons_self))
  have hz : zX3_isBounded.2.2.2.1 = some .boolean → ∀ (T' : Zt) (x : Int), po_X3_isBounded_e T p k o T' (some (vI x)) → 0 ≤ x ∧ x ≤ 1 := fun _ T' x h => by obtain ⟨-, y, e, hy⟩ := h; cases e; omega
  show J_ zX3_isBounded T (po_X3_isBounded_e T p k o) 0 0 0 [some (vR 103 p), some (vI k), some (vI o)] [] T
  refine j_blx (F := fX3) tb_X3 (nn_ _) bk_X3_isBounded_e_0 bs_X3_isBounded_e_0 hz (fun K hK => ?_)
  refine ix_i (by omega) ?_
  intro b2 b2b
  refine And.intro (fun c3 => ?_) (fun c3 => ?_)
  · refine hK 25 _ [] T ?_
    refine j_blx (F := fX3) tb_X3 (nn_ _) bk_X3_isBounded_e_25 bs_X3_isBounded_e_25 hz (fun K hK => ?_)
    refine hK 30 _ [vI 1] T ?_
    refine j_blx (F := fX3) tb_X3 (nn_ _) bk_X3_isBounded_e_30 bs_X3_isBounded_e_30 hz (fun K hK => ?_)
    refine (show po_X3_isBounded_e T p k o T (some (vI 1)) from ?_)
    exact ⟨rfl, _, rfl, Or.inl ⟨rfl, by omega⟩⟩
  · refine And.intro (fun c4 => ?_) (fun c4 => ?_)
    · refine hK 25 _ [] T ?_
      refine j_blx (F := fX3) tb_X3 (nn_ _) bk_X3_isBounded_e_25 bs_X3_isBounded_e_25 hz (fun K hK => ?_)
      refine hK 30 _ [vI 1] T ?_
      refine j_blx (F := fX3) tb_X3 (nn_ _) bk_X3_isBounded_e_30 bs_X3_isBounded_e_30 hz (fun K hK => ?_)
      refine (show po_X3_isBounded_e T p k o T (some (vI 1)) from ?_)
      exact ⟨rfl, _, rfl, Or.inl ⟨rfl, by omega⟩⟩
    · refine And.intro (fun c5 => ?_) (fun c5 => ?_)
      · refine hK 29 _ [] T ?_
        refine j_blx (F := fX3) tb_X3 (nn_ _) bk_X3_isBounded_e_29 bs_X3_isBounded_e_29 hz (fun K hK => ?_)
        refine (show po_X3_isBounded_e T p k o T (some (vI 0)) from ?_)
        exact ⟨rfl, _, rfl, Or.inr ⟨rfl, by omega⟩⟩
      · refine And.intro (fun c6 => ?_) (fun c6 => ?_)
        · refine hK 29 _ [] T ?_
          refine j_blx (F := fX3) tb_X3 (nn_ _) bk_X3_isBounded_e_29 bs_X3_isBounded_e_29 hz (fun K hK => ?_)
          refine (show po_X3_isBounded_e T p k o T (some (vI 0)) from ?_)
          exact ⟨rfl, _, rfl, Or.inr ⟨rfl, by omega⟩⟩
        · refine hK 30 _ [vI 1] T ?_
          refine j_blx (F := fX3) tb_X3 (nn_ _) bk_X3_isBounded_e_30 bs_X3_isBounded_e_30 hz (fun K hK => ?_)
          refine (show po_X3_isBounded_e T p k o T (some (vI 1)) from ?_)
          exact ⟨rfl, _, rfl, Or.inl ⟨rfl, by omega⟩⟩
theorem bk_X3_isAllowed_e_0 : ck_ fX3 (some .boolean) cX3_isAllowed 0 [.aload 0, .tableswitch 0 3 0 #[], .iconst 0, .iaload, .ifCond .ne 33, .aload 0, .tableswitch 0 3 4 #[], .iconst 1, .if_icmp .ne 27, .iload 1, .iconst 1, .if_icmp .eq 31, .iload 1, .iconst 2, .if_icmp .eq 31, .iconst 1, .goto 32] 31 = true := qck_r (nn_ _) (by decide +kernel)
theorem bs_X3_isAllowed_e_0 {P : Zt → Option Zv → Prop} (K : Int → Zl → List Zv → Zt → Prop) : sx_ K P [.aload 0, .tableswitch 0 3 0 #[], .iconst 0, .iaload, .ifCond .ne 33, .aload 0, .tableswitch 0 3 4 #[], .iconst 1, .if_icmp .ne 27, .iload 1, .iconst 1, .if_icmp .eq 31, .iload 1, .iconst 2, .if_icmp .eq 31, .iconst 1, .goto 32] 31 = x_aload 0 (x_g3 103 401 0 (x_iconst 0 (x_iaload (x_ifCond .ne 33 K (x_aload 0 (x_g0 103 4 (-2147483648) 2147483647 (x_iconst 1 (x_if_icmp .ne 27 K (x_iload 1 (x_iconst 1 (x_if_icmp .eq 31 K (x_iload 1 (x_iconst 2 (x_if_icmp .eq 31 K (x_iconst 1 (x_goto 32 K)))))))))))))))) := ((xe_aload 0).trans (congrArg (x_aload 0) ((xe_g3 (kk := 103) rfl tl_3_0).trans (congrArg (x_g3 103 401 0) ((xe_iconst 0).trans (congrArg (x_iconst 0) ((xe_iaload).trans (congrArg (x_iaload) ((xe_ifCond .ne 33).trans (congrArg (x_ifCond .ne 33 K) ((xe_aload 0).trans (congrArg (x_aload 0) ((xe_g0 (kk := 103) rfl tl_3_4).trans (congrArg (x_g0 103 4 (-2147483648) 2147483647) ((xe_iconst 1).trans (congrArg (x_iconst 1) ((xe_if_icmp .ne 27).trans (congrArg (x_if_icmp .ne 27 K) ((xe_iload 1).trans (congrArg (x_iload 1) ((xe_iconst 1).trans (congrArg (x_iconst 1) ((xe_if_icmp .eq 31).trans (congrArg (x_if_icmp .eq 31 K) ((xe_iload 1).trans (congrArg (x_iload 1) ((xe_iconst 2).trans (congrArg (x_iconst 2) ((xe_if_icmp .eq 31).trans (congrArg (x_if_icmp .eq 31 K) ((xe_iconst 1).trans (congrArg (x_iconst 1) (xe_goto 32)))))))))))))))))))))))))))))))))
theorem bk_X3_isAllowed_e_33 : ck_ fX3 (some .boolean) cX3_isAllowed 33 [.aload 0, .tableswitch 0 3 0 #[], .iconst 0, .iaload, .iconst 3, .if_icmp .ne 51, .iload 2, .aload 0, .tableswitch 0 3 5 #[], .if_icmp .ne 55, .iconst 1, .goto 56] 55 = true := qck_r (nn_ _) (by decide +kernel)
theorem bs_X3_isAllowed_e_33 {P : Zt → Option Zv → Prop} (K : Int → Zl → List Zv → Zt → Prop) : sx_ K P [.aload 0, .tableswitch 0 3 0 #[], .iconst 0, .iaload, .iconst 3, .if_icmp .ne 51, .iload 2, .aload 0, .tableswitch 0 3 5 #[], .if_icmp .ne 55, .iconst 1, .goto 56] 55 = x_aload 0 (x_g3 103 401 0 (x_iconst 0 (x_iaload (x_iconst 3 (x_if_icmp .ne 51 K (x_iload 2 (x_aload 0 (x_g0 103 5 0 1 (x_if_icmp .ne 55 K (x_iconst 1 (x_goto 56 K))))))))))) := ((xe_aload 0).trans (congrArg (x_aload 0) ((xe_g3 (kk := 103) rfl tl_3_0).trans (congrArg (x_g3 103 401 0) ((xe_iconst 0).trans (congrArg (x_iconst 0) ((xe_iaload).trans (congrArg (x_iaload) ((xe_iconst 3).trans (congrArg (x_iconst 3) ((xe_if_icmp .ne 51).trans (congrArg (x_if_icmp .ne 51 K) ((xe_iload 2).trans (congrArg (x_iload 2) ((xe_aload 0).trans (congrArg (x_aload 0) ((xe_g0 (kk := 103) rfl tl_3_5).trans (congrArg (x_g0 103 5 0 1) ((xe_if_icmp .ne 55).trans (congrArg (x_if_icmp .ne 55 K) ((xe_iconst 1).trans (congrArg (x_iconst 1) (xe_goto 56)))))))))))))))))))))))
theorem bk_X3_isAllowed_e_51 : ck_ fX3 (some .boolean) cX3_isAllowed 51 [.iconst 1, .goto 56] 55 = true := qck_r (nn_ _) (by decide +kernel)
theorem bs_X3_isAllowed_e_51 {P : Zt → Option Zv → Prop} (K : Int → Zl → List Zv → Zt → Prop) : sx_ K P [.iconst 1, .goto 56] 55 = x_iconst 1 (x_goto 56 K) := ((xe_iconst 1).trans (congrArg (x_iconst 1) (xe_goto 56)))
theorem bk_X3_isAllowed_e_56 : ck_ fX3 (some .boolean) cX3_isAllowed 56 [.ireturn] 57 = true := qck_r (nn_ _) (by decide +kernel)
theorem bs_X3_isAllowed_e_56 {P : Zt → Option Zv → Prop} (K : Int → Zl → List Zv → Zt → Prop) : sx_ K P [.ireturn] 57 = x_ireturn P := (xe_ireturn)
theorem bk_X3_isAllowed_e_55 : ck_ fX3 (some .boolean) cX3_isAllowed 55 [.iconst 0, .ireturn] 57 = true := qck_r (nn_ _) (by decide +kernel)
theorem bs_X3_isAllowed_e_55 {P : Zt → Option Zv → Prop} (K : Int → Zl → List Zv → Zt → Prop) : sx_ K P [.iconst 0, .ireturn] 57 = x_iconst 0 (x_ireturn P) := ((xe_iconst 0).trans (congrArg (x_iconst 0) (xe_ireturn)))
theorem bk_X3_isAllowed_e_27 : ck_ fX3 (some .boolean) cX3_isAllowed 27 [.iconst 1, .goto 32] 31 = true := qck_r (nn_ _) (by decide +kernel)
theorem bs_X3_isAllowed_e_27 {P : Zt → Option Zv → Prop} (K : Int → Zl → List Zv → Zt → Prop) : sx_ K P [.iconst 1, .goto 32] 31 = x_iconst 1 (x_goto 32 K) := ((xe_iconst 1).trans (congrArg (x_iconst 1) (xe_goto 32)))
theorem bk_X3_isAllowed_e_32 : ck_ fX3 (some .boolean) cX3_isAllowed 32 [.ireturn] 33 = true := qck_r (nn_ _) (by decide +kernel)
theorem bs_X3_isAllowed_e_32 {P : Zt → Option Zv → Prop} (K : Int → Zl → List Zv → Zt → Prop) : sx_ K P [.ireturn] 33 = x_ireturn P := (xe_ireturn)
theorem bk_X3_isAllowed_e_31 : ck_ fX3 (some .boolean) cX3_isAllowed 31 [.iconst 0, .ireturn] 33 = true := qck_r (nn_ _) (by decide +kernel)
theorem bs_X3_isAllowed_e_31 {P : Zt → Option Zv → Prop} (K : Int → Zl → List Zv → Zt → Prop) : sx_ K P [.iconst 0, .ireturn] 33 = x_iconst 0 (x_ireturn P) := ((xe_iconst 0).trans (congrArg (x_iconst 0) (xe_ireturn)))
abbrev po_X3_isAllowed_e (T : Zt) (p : Int) (k s : Int) : Zt → Option Zv → Prop := fun T' r => T = T' ∧ ∃ x : Int, r = some (vI x) ∧ ((x = 1 ∧ ((T 401 (T 103 p 0) 0 = 0 ∧ (T 103 p 4 ≠ 1 ∨ (k ≠ 1 ∧ k ≠ 2))) ∨ (T 401 (T 103 p 0) 0 ≠ 0 ∧ (T 401 (T 103 p 0) 0 ≠ 3 ∨ s = T 103 p 5)))) ∨ (x = 0 ∧ ¬ ((T 401 (T 103 p 0) 0 = 0 ∧ (T 103 p 4 ≠ 1 ∨ (k ≠ 1 ∧ k ≠ 2))) ∨ (T 401 (T 103 p 0) 0 ≠ 0 ∧ (T 401 (T 103 p 0) 0 ≠ 3 ∨ s = T 103 p 5)))))
set_option maxHeartbeats 4000000 in
theorem ct_X3_isAllowed_e {T : Zt} {p : Int} {k s : Int} : Ct_ yX3_isAllowed zX3_isAllowed T [vR 103 p, vI k, vI s] (po_X3_isAllowed_e T p k s) := by
  refine ct_of pn_3 rfl rfl (Nat.le_of_ble_eq_true rfl) (fun hT hav => ?_)
  have hr_k : -2147483648 ≤ k ∧ k ≤ 2147483647 := hav (vI k) (List.mem_cons_of_mem _ List.mem_cons_self)
  have hr_s : -2147483648 ≤ s ∧ s ≤ 2147483647 := hav (vI s) (List.mem_cons_of_mem _ (List.mem_cons_of_mem _ List.mem_cons_self))
  have hz : zX3_isAllowed.2.2.2.1 = some .boolean → ∀ (T' : Zt) (x : Int), po_X3_isAllowed_e T p k s T' (some (vI x)) → 0 ≤ x ∧ x ≤ 1 := fun _ T' x h => by obtain ⟨-, y, e, hy⟩ := h; cases e; omega
  show J_ zX3_isAllowed T (po_X3_isAllowed_e T p k s) 0 0 0 [some (vR 103 p), some (vI k), some (vI s)] [] T
  refine j_blx (F := fX3) tb_X3 (nn_ _) bk_X3_isAllowed_e_0 bs_X3_isAllowed_e_0 hz (fun K hK => ?_)
  refine ix_i (by omega) ?_
  intro b2 b2b
  refine And.intro (fun c3 => ?_) (fun c3 => ?_)
  · refine hK 33 _ [] T ?_
    refine j_blx (F := fX3) tb_X3 (nn_ _) bk_X3_isAllowed_e_33 bs_X3_isAllowed_e_33 hz (fun K hK => ?_)
    refine ix_i (by omega) ?_
    intro b5 b5b
    refine And.intro (fun c6 => ?_) (fun c6 => ?_)
    · refine hK 51 _ [] T ?_
      refine j_blx (F := fX3) tb_X3 (nn_ _) bk_X3_isAllowed_e_51 bs_X3_isAllowed_e_51 hz (fun K hK => ?_)
      refine hK 56 _ [vI 1] T ?_
      refine j_blx (F := fX3) tb_X3 (nn_ _) bk_X3_isAllowed_e_56 bs_X3_isAllowed_e_56 hz (fun K hK => ?_)
      refine (show po_X3_isAllowed_e T p k s T (some (vI 1)) from ?_)
      exact ⟨rfl, _, rfl, Or.inl ⟨rfl, by omega⟩⟩
    · intro b7 b7b
      refine And.intro (fun c8 => ?_) (fun c8 => ?_)
      · refine hK 55 _ [] T ?_
        refine j_blx (F := fX3) tb_X3 (nn_ _) bk_X3_isAllowed_e_55 bs_X3_isAllowed_e_55 hz (fun K hK => ?_)
        refine (show po_X3_isAllowed_e T p k s T (some (vI 0)) from ?_)
        exact ⟨rfl, _, rfl, Or.inr ⟨rfl, by omega⟩⟩
      · refine hK 56 _ [vI 1] T ?_
        refine j_blx (F := fX3) tb_X3 (nn_ _) bk_X3_isAllowed_e_56 bs_X3_isAllowed_e_56 hz (fun K hK => ?_)
        refine (show po_X3_isAllowed_e T p k s T (some (vI 1)) from ?_)
        exact ⟨rfl, _, rfl, Or.inl ⟨rfl, by omega⟩⟩
  · intro b9 b9b
    refine And.intro (fun c10 => ?_) (fun c10 => ?_)
    · refine hK 27 _ [] T ?_
      refine j_blx (F := fX3) tb_X3 (nn_ _) bk_X3_isAllowed_e_27 bs_X3_isAllowed_e_27 hz (fun K hK => ?_)
      refine hK 32 _ [vI 1] T ?_
      refine j_blx (F := fX3) tb_X3 (nn_ _) bk_X3_isAllowed_e_32 bs_X3_isAllowed_e_32 hz (fun K hK => ?_)
      refine (show po_X3_isAllowed_e T p k s T (some (vI 1)) from ?_)
      exact ⟨rfl, _, rfl, Or.inl ⟨rfl, by omega⟩⟩
    · refine And.intro (fun c11 => ?_) (fun c11 => ?_)
      · refine hK 31 _ [] T ?_
        refine j_blx (F := fX3) tb_X3 (nn_ _) bk_X3_isAllowed_e_31 bs_X3_isAllowed_e_31 hz (fun K hK => ?_)
        refine (show po_X3_isAllowed_e T p k s T (some (vI 0)) from ?_)
        exact ⟨rfl, _, rfl, Or.inr ⟨rfl, by omega⟩⟩
      · refine And.intro (fun c12 => ?_) (fun c12 => ?_)
        · refine hK 31 _ [] T ?_
          refine j_blx (F := fX3) tb_X3 (nn_ _) bk_X3_isAllowed_e_31 bs_X3_isAllowed_e_31 hz (fun K hK => ?_)
          refine (show po_X3_isAllowed_e T p k s T (some (vI 0)) from ?_)
          exact ⟨rfl, _, rfl, Or.inr ⟨rfl, by omega⟩⟩
        · refine hK 32 _ [vI 1] T ?_
          refine j_blx (F := fX3) tb_X3 (nn_ _) bk_X3_isAllowed_e_32 bs_X3_isAllowed_e_32 hz (fun K hK => ?_)
          refine (show po_X3_isAllowed_e T p k s T (some (vI 1)) from ?_)
          exact ⟨rfl, _, rfl, Or.inl ⟨rfl, by omega⟩⟩
theorem bk_X3_needsPerson_e_0 : ck_ fX3 (some .boolean) cX3_needsPerson 0 [.iload 1, .iconst 5, .if_icmp .eq 18, .aload 0, .tableswitch 0 3 0 #[], .iconst 0, .iaload, .ifCond .ne 22, .iload 1, .ifCond .eq 22, .iconst 1, .goto 23] 22 = true := qck_r (nn_ _) (by decide +kernel)
theorem bs_X3_needsPerson_e_0 {P : Zt → Option Zv → Prop} (K : Int → Zl → List Zv → Zt → Prop) : sx_ K P [.iload 1, .iconst 5, .if_icmp .eq 18, .aload 0, .tableswitch 0 3 0 #[], .iconst 0, .iaload, .ifCond .ne 22, .iload 1, .ifCond .eq 22, .iconst 1, .goto 23] 22 = x_iload 1 (x_iconst 5 (x_if_icmp .eq 18 K (x_aload 0 (x_g3 103 401 0 (x_iconst 0 (x_iaload (x_ifCond .ne 22 K (x_iload 1 (x_ifCond .eq 22 K (x_iconst 1 (x_goto 23 K))))))))))) := ((xe_iload 1).trans (congrArg (x_iload 1) ((xe_iconst 5).trans (congrArg (x_iconst 5) ((xe_if_icmp .eq 18).trans (congrArg (x_if_icmp .eq 18 K) ((xe_aload 0).trans (congrArg (x_aload 0) ((xe_g3 (kk := 103) rfl tl_3_0).trans (congrArg (x_g3 103 401 0) ((xe_iconst 0).trans (congrArg (x_iconst 0) ((xe_iaload).trans (congrArg (x_iaload) ((xe_ifCond .ne 22).trans (congrArg (x_ifCond .ne 22 K) ((xe_iload 1).trans (congrArg (x_iload 1) ((xe_ifCond .eq 22).trans (congrArg (x_ifCond .eq 22 K) ((xe_iconst 1).trans (congrArg (x_iconst 1) (xe_goto 23)))))))))))))))))))))))
theorem bk_X3_needsPerson_e_18 : ck_ fX3 (some .boolean) cX3_needsPerson 18 [.iconst 1, .goto 23] 22 = true := qck_r (nn_ _) (by decide +kernel)
theorem bs_X3_needsPerson_e_18 {P : Zt → Option Zv → Prop} (K : Int → Zl → List Zv → Zt → Prop) : sx_ K P [.iconst 1, .goto 23] 22 = x_iconst 1 (x_goto 23 K) := ((xe_iconst 1).trans (congrArg (x_iconst 1) (xe_goto 23)))
theorem bk_X3_needsPerson_e_23 : ck_ fX3 (some .boolean) cX3_needsPerson 23 [.ireturn] 24 = true := qck_r (nn_ _) (by decide +kernel)
theorem bs_X3_needsPerson_e_23 {P : Zt → Option Zv → Prop} (K : Int → Zl → List Zv → Zt → Prop) : sx_ K P [.ireturn] 24 = x_ireturn P := (xe_ireturn)
theorem bk_X3_needsPerson_e_22 : ck_ fX3 (some .boolean) cX3_needsPerson 22 [.iconst 0, .ireturn] 24 = true := qck_r (nn_ _) (by decide +kernel)
theorem bs_X3_needsPerson_e_22 {P : Zt → Option Zv → Prop} (K : Int → Zl → List Zv → Zt → Prop) : sx_ K P [.iconst 0, .ireturn] 24 = x_iconst 0 (x_ireturn P) := ((xe_iconst 0).trans (congrArg (x_iconst 0) (xe_ireturn)))
abbrev po_X3_needsPerson_e (T : Zt) (p : Int) (k : Int) : Zt → Option Zv → Prop := fun T' r => T = T' ∧ ∃ x : Int, r = some (vI x) ∧ ((x = 1 ∧ (k = 5 ∨ (T 401 (T 103 p 0) 0 = 0 ∧ k ≠ 0))) ∨ (x = 0 ∧ ¬ (k = 5 ∨ (T 401 (T 103 p 0) 0 = 0 ∧ k ≠ 0))))
set_option maxHeartbeats 4000000 in
theorem ct_X3_needsPerson_e {T : Zt} {p : Int} {k : Int} : Ct_ yX3_needsPerson zX3_needsPerson T [vR 103 p, vI k] (po_X3_needsPerson_e T p k) := by
  refine ct_of pn_3 rfl rfl (Nat.le_of_ble_eq_true rfl) (fun hT hav => ?_)
  have hr_k : -2147483648 ≤ k ∧ k ≤ 2147483647 := hav (vI k) (List.mem_cons_of_mem _ List.mem_cons_self)
  have hz : zX3_needsPerson.2.2.2.1 = some .boolean → ∀ (T' : Zt) (x : Int), po_X3_needsPerson_e T p k T' (some (vI x)) → 0 ≤ x ∧ x ≤ 1 := fun _ T' x h => by obtain ⟨-, y, e, hy⟩ := h; cases e; omega
  show J_ zX3_needsPerson T (po_X3_needsPerson_e T p k) 0 0 0 [some (vR 103 p), some (vI k)] [] T
  refine j_blx (F := fX3) tb_X3 (nn_ _) bk_X3_needsPerson_e_0 bs_X3_needsPerson_e_0 hz (fun K hK => ?_)
  refine And.intro (fun c1 => ?_) (fun c1 => ?_)
  · refine hK 18 _ [] T ?_
    refine j_blx (F := fX3) tb_X3 (nn_ _) bk_X3_needsPerson_e_18 bs_X3_needsPerson_e_18 hz (fun K hK => ?_)
    refine hK 23 _ [vI 1] T ?_
    refine j_blx (F := fX3) tb_X3 (nn_ _) bk_X3_needsPerson_e_23 bs_X3_needsPerson_e_23 hz (fun K hK => ?_)
    refine (show po_X3_needsPerson_e T p k T (some (vI 1)) from ?_)
    exact ⟨rfl, _, rfl, Or.inl ⟨rfl, by omega⟩⟩
  · refine ix_i (by omega) ?_
    intro b3 b3b
    refine And.intro (fun c4 => ?_) (fun c4 => ?_)
    · refine hK 22 _ [] T ?_
      refine j_blx (F := fX3) tb_X3 (nn_ _) bk_X3_needsPerson_e_22 bs_X3_needsPerson_e_22 hz (fun K hK => ?_)
      refine (show po_X3_needsPerson_e T p k T (some (vI 0)) from ?_)
      exact ⟨rfl, _, rfl, Or.inr ⟨rfl, by omega⟩⟩
    · refine And.intro (fun c5 => ?_) (fun c5 => ?_)
      · refine hK 22 _ [] T ?_
        refine j_blx (F := fX3) tb_X3 (nn_ _) bk_X3_needsPerson_e_22 bs_X3_needsPerson_e_22 hz (fun K hK => ?_)
        refine (show po_X3_needsPerson_e T p k T (some (vI 0)) from ?_)
        exact ⟨rfl, _, rfl, Or.inr ⟨rfl, by omega⟩⟩
      · refine hK 23 _ [vI 1] T ?_
        refine j_blx (F := fX3) tb_X3 (nn_ _) bk_X3_needsPerson_e_23 bs_X3_needsPerson_e_23 hz (fun K hK => ?_)
        refine (show po_X3_needsPerson_e T p k T (some (vI 1)) from ?_)
        exact ⟨rfl, _, rfl, Or.inl ⟨rfl, by omega⟩⟩
theorem bk_X3_isLastInning_e_0 : ck_ fX3 (some .boolean) cX3_isLastInning 0 [.aload 0, .tableswitch 0 3 4 #[], .aload 0, .tableswitch 0 3 0 #[], .iconst 11, .iaload, .iconst 1, .fsub, .if_icmp .lt 20, .iconst 1, .goto 21] 20 = true := qck_r (nn_ _) (by decide +kernel)
theorem bs_X3_isLastInning_e_0 {P : Zt → Option Zv → Prop} (K : Int → Zl → List Zv → Zt → Prop) : sx_ K P [.aload 0, .tableswitch 0 3 4 #[], .aload 0, .tableswitch 0 3 0 #[], .iconst 11, .iaload, .iconst 1, .fsub, .if_icmp .lt 20, .iconst 1, .goto 21] 20 = x_aload 0 (x_g0 103 4 (-2147483648) 2147483647 (x_aload 0 (x_g3 103 401 0 (x_iconst 11 (x_iaload (x_iconst 1 (x_fsub (x_if_icmp .lt 20 K (x_iconst 1 (x_goto 21 K)))))))))) := ((xe_aload 0).trans (congrArg (x_aload 0) ((xe_g0 (kk := 103) rfl tl_3_4).trans (congrArg (x_g0 103 4 (-2147483648) 2147483647) ((xe_aload 0).trans (congrArg (x_aload 0) ((xe_g3 (kk := 103) rfl tl_3_0).trans (congrArg (x_g3 103 401 0) ((xe_iconst 11).trans (congrArg (x_iconst 11) ((xe_iaload).trans (congrArg (x_iaload) ((xe_iconst 1).trans (congrArg (x_iconst 1) ((xe_fsub).trans (congrArg (x_fsub) ((xe_if_icmp .lt 20).trans (congrArg (x_if_icmp .lt 20 K) ((xe_iconst 1).trans (congrArg (x_iconst 1) (xe_goto 21)))))))))))))))))))))
theorem bk_X3_isLastInning_e_20 : ck_ fX3 (some .boolean) cX3_isLastInning 20 [.iconst 0, .ireturn] 22 = true := qck_r (nn_ _) (by decide +kernel)
theorem bs_X3_isLastInning_e_20 {P : Zt → Option Zv → Prop} (K : Int → Zl → List Zv → Zt → Prop) : sx_ K P [.iconst 0, .ireturn] 22 = x_iconst 0 (x_ireturn P) := ((xe_iconst 0).trans (congrArg (x_iconst 0) (xe_ireturn)))
theorem bk_X3_isLastInning_e_21 : ck_ fX3 (some .boolean) cX3_isLastInning 21 [.ireturn] 22 = true := qck_r (nn_ _) (by decide +kernel)
theorem bs_X3_isLastInning_e_21 {P : Zt → Option Zv → Prop} (K : Int → Zl → List Zv → Zt → Prop) : sx_ K P [.ireturn] 22 = x_ireturn P := (xe_ireturn)
abbrev po_X3_isLastInning_e (T : Zt) (p : Int) (ru : Int → Int) : Zt → Option Zv → Prop := fun T' r => T = T' ∧ ∃ x : Int, r = some (vI x) ∧ ((x = 1 ∧ (wr_ (ru 11 - 1) ≤ T 103 p 4)) ∨ (x = 0 ∧ ¬ (wr_ (ru 11 - 1) ≤ T 103 p 4)))
set_option maxHeartbeats 4000000 in
theorem ct_X3_isLastInning_e {T : Zt} {p : Int} {ru : Int → Int} (hr : RLP_ T p ru) : Ct_ yX3_isLastInning zX3_isLastInning T [vR 103 p] (po_X3_isLastInning_e T p ru) := by
  refine ct_of pn_3 rfl rfl (Nat.le_of_ble_eq_true rfl) (fun hT hav => ?_)
  have hz : zX3_isLastInning.2.2.2.1 = some .boolean → ∀ (T' : Zt) (x : Int), po_X3_isLastInning_e T p ru T' (some (vI x)) → 0 ≤ x ∧ x ≤ 1 := fun _ T' x h => by obtain ⟨-, y, e, hy⟩ := h; cases e; omega
  have hr11 := hr 11 (by decide) (by decide)
  have hw1 : wr_ (T 401 (T 103 p 0) 11 - 1) = wr_ (ru 11 - 1) := by rw [hr11]
  show J_ zX3_isLastInning T (po_X3_isLastInning_e T p ru) 0 0 0 [some (vR 103 p)] [] T
  refine j_blx (F := fX3) tb_X3 (nn_ _) bk_X3_isLastInning_e_0 bs_X3_isLastInning_e_0 hz (fun K hK => ?_)
  intro b1 b1b
  refine ix_i (by omega) ?_
  intro b3 b3b
  intro w4 w4b
  refine And.intro (fun c5 => ?_) (fun c5 => ?_)
  · refine hK 20 _ [] T ?_
    refine j_blx (F := fX3) tb_X3 (nn_ _) bk_X3_isLastInning_e_20 bs_X3_isLastInning_e_20 hz (fun K hK => ?_)
    refine (show po_X3_isLastInning_e T p ru T (some (vI 0)) from ?_)
    exact ⟨rfl, _, rfl, Or.inr ⟨rfl, by omega⟩⟩
  · refine hK 21 _ [vI 1] T ?_
    refine j_blx (F := fX3) tb_X3 (nn_ _) bk_X3_isLastInning_e_21 bs_X3_isLastInning_e_21 hz (fun K hK => ?_)
    refine (show po_X3_isLastInning_e T p ru T (some (vI 1)) from ?_)
    exact ⟨rfl, _, rfl, Or.inl ⟨rfl, by omega⟩⟩
theorem bk_X3_isWon_466_e_0 : ck_ fX3 (some .boolean) cX3_isWon 0 [.aload 0, .iload 1, .iaload, .iload 2, .if_icmp .lt 24, .aload 0, .iload 1, .iaload, .aload 0, .iconst 1, .iload 1, .isub, .iaload, .fsub, .iconst 2, .if_icmp .lt 24, .iconst 1, .goto 25] 24 = true := qck_r (nn_ _) (by decide +kernel)
theorem bs_X3_isWon_466_e_0 {P : Zt → Option Zv → Prop} (K : Int → Zl → List Zv → Zt → Prop) : sx_ K P [.aload 0, .iload 1, .iaload, .iload 2, .if_icmp .lt 24, .aload 0, .iload 1, .iaload, .aload 0, .iconst 1, .iload 1, .isub, .iaload, .fsub, .iconst 2, .if_icmp .lt 24, .iconst 1, .goto 25] 24 = x_aload 0 (x_iload 1 (x_iaload (x_iload 2 (x_if_icmp .lt 24 K (x_aload 0 (x_iload 1 (x_iaload (x_aload 0 (x_iconst 1 (x_iload 1 (x_isub (x_iaload (x_fsub (x_iconst 2 (x_if_icmp .lt 24 K (x_iconst 1 (x_goto 25 K))))))))))))))))) := ((xe_aload 0).trans (congrArg (x_aload 0) ((xe_iload 1).trans (congrArg (x_iload 1) ((xe_iaload).trans (congrArg (x_iaload) ((xe_iload 2).trans (congrArg (x_iload 2) ((xe_if_icmp .lt 24).trans (congrArg (x_if_icmp .lt 24 K) ((xe_aload 0).trans (congrArg (x_aload 0) ((xe_iload 1).trans (congrArg (x_iload 1) ((xe_iaload).trans (congrArg (x_iaload) ((xe_aload 0).trans (congrArg (x_aload 0) ((xe_iconst 1).trans (congrArg (x_iconst 1) ((xe_iload 1).trans (congrArg (x_iload 1) ((xe_isub).trans (congrArg (x_isub) ((xe_iaload).trans (congrArg (x_iaload) ((xe_fsub).trans (congrArg (x_fsub) ((xe_iconst 2).trans (congrArg (x_iconst 2) ((xe_if_icmp .lt 24).trans (congrArg (x_if_icmp .lt 24 K) ((xe_iconst 1).trans (congrArg (x_iconst 1) (xe_goto 25)))))))))))))))))))))))))))))))))))
theorem bk_X3_isWon_466_e_24 : ck_ fX3 (some .boolean) cX3_isWon 24 [.iconst 0, .ireturn] 26 = true := qck_r (nn_ _) (by decide +kernel)
theorem bs_X3_isWon_466_e_24 {P : Zt → Option Zv → Prop} (K : Int → Zl → List Zv → Zt → Prop) : sx_ K P [.iconst 0, .ireturn] 26 = x_iconst 0 (x_ireturn P) := ((xe_iconst 0).trans (congrArg (x_iconst 0) (xe_ireturn)))
theorem bk_X3_isWon_466_e_25 : ck_ fX3 (some .boolean) cX3_isWon 25 [.ireturn] 26 = true := qck_r (nn_ _) (by decide +kernel)
theorem bs_X3_isWon_466_e_25 {P : Zt → Option Zv → Prop} (K : Int → Zl → List Zv → Zt → Prop) : sx_ K P [.ireturn] 26 = x_ireturn P := (xe_ireturn)
abbrev po_X3_isWon_466_e (T : Zt) (p : Int) (s m : Int) : Zt → Option Zv → Prop := fun T' r => T = T' ∧ ∃ x : Int, r = some (vI x) ∧ ((x = 1 ∧ (m ≤ T 466 p s ∧ 2 ≤ wr_ (T 466 p s - T 466 p (1 - s)))) ∨ (x = 0 ∧ ¬ (m ≤ T 466 p s ∧ 2 ≤ wr_ (T 466 p s - T 466 p (1 - s)))))
set_option maxHeartbeats 4000000 in
theorem ct_X3_isWon_466_e {T : Zt} {p : Int} {s m : Int} (hs : 0 ≤ s ∧ s ≤ 1) : Ct_ yX3_isWon zX3_isWon T [vR 466 p, vI s, vI m] (po_X3_isWon_466_e T p s m) := by
  refine ct_of pn_3 rfl rfl (Nat.le_of_ble_eq_true rfl) (fun hT hav => ?_)
  have hr_s : -2147483648 ≤ s ∧ s ≤ 2147483647 := hav (vI s) (List.mem_cons_of_mem _ List.mem_cons_self)
  have hr_m : -2147483648 ≤ m ∧ m ≤ 2147483647 := hav (vI m) (List.mem_cons_of_mem _ (List.mem_cons_of_mem _ List.mem_cons_self))
  have hz : zX3_isWon.2.2.2.1 = some .boolean → ∀ (T' : Zt) (x : Int), po_X3_isWon_466_e T p s m T' (some (vI x)) → 0 ≤ x ∧ x ≤ 1 := fun _ T' x h => by obtain ⟨-, y, e, hy⟩ := h; cases e; omega
  show J_ zX3_isWon T (po_X3_isWon_466_e T p s m) 0 0 0 [some (vR 466 p), some (vI s), some (vI m)] [] T
  refine j_blx (F := fX3) tb_X3 (nn_ _) bk_X3_isWon_466_e_0 bs_X3_isWon_466_e_0 hz (fun K hK => ?_)
  refine ix_i (by omega) ?_
  intro b1 b1b
  refine And.intro (fun c2 => ?_) (fun c2 => ?_)
  · refine hK 24 _ [] T ?_
    refine j_blx (F := fX3) tb_X3 (nn_ _) bk_X3_isWon_466_e_24 bs_X3_isWon_466_e_24 hz (fun K hK => ?_)
    refine (show po_X3_isWon_466_e T p s m T (some (vI 0)) from ?_)
    exact ⟨rfl, _, rfl, Or.inr ⟨rfl, by omega⟩⟩
  · refine ix_i (by omega) ?_
    intro b3 b3b
    refine rg_i (by omega) ?_
    refine ix_i (by omega) ?_
    intro b4 b4b
    intro w5 w5b
    refine And.intro (fun c6 => ?_) (fun c6 => ?_)
    · refine hK 24 _ [] T ?_
      refine j_blx (F := fX3) tb_X3 (nn_ _) bk_X3_isWon_466_e_24 bs_X3_isWon_466_e_24 hz (fun K hK => ?_)
      refine (show po_X3_isWon_466_e T p s m T (some (vI 0)) from ?_)
      exact ⟨rfl, _, rfl, Or.inr ⟨rfl, by omega⟩⟩
    · refine hK 25 _ [vI 1] T ?_
      refine j_blx (F := fX3) tb_X3 (nn_ _) bk_X3_isWon_466_e_25 bs_X3_isWon_466_e_25 hz (fun K hK => ?_)
      refine (show po_X3_isWon_466_e T p s m T (some (vI 1)) from ?_)
      exact ⟨rfl, _, rfl, Or.inl ⟨rfl, by omega⟩⟩
theorem bk_X3_isWon_467_e_0 : ck_ fX3 (some .boolean) cX3_isWon 0 [.aload 0, .iload 1, .iaload, .iload 2, .if_icmp .lt 24, .aload 0, .iload 1, .iaload, .aload 0, .iconst 1, .iload 1, .isub, .iaload, .fsub, .iconst 2, .if_icmp .lt 24, .iconst 1, .goto 25] 24 = true := qck_r (nn_ _) (by decide +kernel)
theorem bs_X3_isWon_467_e_0 {P : Zt → Option Zv → Prop} (K : Int → Zl → List Zv → Zt → Prop) : sx_ K P [.aload 0, .iload 1, .iaload, .iload 2, .if_icmp .lt 24, .aload 0, .iload 1, .iaload, .aload 0, .iconst 1, .iload 1, .isub, .iaload, .fsub, .iconst 2, .if_icmp .lt 24, .iconst 1, .goto 25] 24 = x_aload 0 (x_iload 1 (x_iaload (x_iload 2 (x_if_icmp .lt 24 K (x_aload 0 (x_iload 1 (x_iaload (x_aload 0 (x_iconst 1 (x_iload 1 (x_isub (x_iaload (x_fsub (x_iconst 2 (x_if_icmp .lt 24 K (x_iconst 1 (x_goto 25 K))))))))))))))))) := ((xe_aload 0).trans (congrArg (x_aload 0) ((xe_iload 1).trans (congrArg (x_iload 1) ((xe_iaload).trans (congrArg (x_iaload) ((xe_iload 2).trans (congrArg (x_iload 2) ((xe_if_icmp .lt 24).trans (congrArg (x_if_icmp .lt 24 K) ((xe_aload 0).trans (congrArg (x_aload 0) ((xe_iload 1).trans (congrArg (x_iload 1) ((xe_iaload).trans (congrArg (x_iaload) ((xe_aload 0).trans (congrArg (x_aload 0) ((xe_iconst 1).trans (congrArg (x_iconst 1) ((xe_iload 1).trans (congrArg (x_iload 1) ((xe_isub).trans (congrArg (x_isub) ((xe_iaload).trans (congrArg (x_iaload) ((xe_fsub).trans (congrArg (x_fsub) ((xe_iconst 2).trans (congrArg (x_iconst 2) ((xe_if_icmp .lt 24).trans (congrArg (x_if_icmp .lt 24 K) ((xe_iconst 1).trans (congrArg (x_iconst 1) (xe_goto 25)))))))))))))))))))))))))))))))))))
theorem bk_X3_isWon_467_e_24 : ck_ fX3 (some .boolean) cX3_isWon 24 [.iconst 0, .ireturn] 26 = true := qck_r (nn_ _) (by decide +kernel)
theorem bs_X3_isWon_467_e_24 {P : Zt → Option Zv → Prop} (K : Int → Zl → List Zv → Zt → Prop) : sx_ K P [.iconst 0, .ireturn] 26 = x_iconst 0 (x_ireturn P) := ((xe_iconst 0).trans (congrArg (x_iconst 0) (xe_ireturn)))
theorem bk_X3_isWon_467_e_25 : ck_ fX3 (some .boolean) cX3_isWon 25 [.ireturn] 26 = true := qck_r (nn_ _) (by decide +kernel)
theorem bs_X3_isWon_467_e_25 {P : Zt → Option Zv → Prop} (K : Int → Zl → List Zv → Zt → Prop) : sx_ K P [.ireturn] 26 = x_ireturn P := (xe_ireturn)
abbrev po_X3_isWon_467_e (T : Zt) (p : Int) (s m : Int) : Zt → Option Zv → Prop := fun T' r => T = T' ∧ ∃ x : Int, r = some (vI x) ∧ ((x = 1 ∧ (m ≤ T 467 p s ∧ 2 ≤ wr_ (T 467 p s - T 467 p (1 - s)))) ∨ (x = 0 ∧ ¬ (m ≤ T 467 p s ∧ 2 ≤ wr_ (T 467 p s - T 467 p (1 - s)))))
set_option maxHeartbeats 4000000 in
theorem ct_X3_isWon_467_e {T : Zt} {p : Int} {s m : Int} (hs : 0 ≤ s ∧ s ≤ 1) : Ct_ yX3_isWon zX3_isWon T [vR 467 p, vI s, vI m] (po_X3_isWon_467_e T p s m) := by
  refine ct_of pn_3 rfl rfl (Nat.le_of_ble_eq_true rfl) (fun hT hav => ?_)
  have hr_s : -2147483648 ≤ s ∧ s ≤ 2147483647 := hav (vI s) (List.mem_cons_of_mem _ List.mem_cons_self)
  have hr_m : -2147483648 ≤ m ∧ m ≤ 2147483647 := hav (vI m) (List.mem_cons_of_mem _ (List.mem_cons_of_mem _ List.mem_cons_self))
  have hz : zX3_isWon.2.2.2.1 = some .boolean → ∀ (T' : Zt) (x : Int), po_X3_isWon_467_e T p s m T' (some (vI x)) → 0 ≤ x ∧ x ≤ 1 := fun _ T' x h => by obtain ⟨-, y, e, hy⟩ := h; cases e; omega
  show J_ zX3_isWon T (po_X3_isWon_467_e T p s m) 0 0 0 [some (vR 467 p), some (vI s), some (vI m)] [] T
  refine j_blx (F := fX3) tb_X3 (nn_ _) bk_X3_isWon_467_e_0 bs_X3_isWon_467_e_0 hz (fun K hK => ?_)
  refine ix_i (by omega) ?_
  intro b1 b1b
  refine And.intro (fun c2 => ?_) (fun c2 => ?_)
  · refine hK 24 _ [] T ?_
    refine j_blx (F := fX3) tb_X3 (nn_ _) bk_X3_isWon_467_e_24 bs_X3_isWon_467_e_24 hz (fun K hK => ?_)
    refine (show po_X3_isWon_467_e T p s m T (some (vI 0)) from ?_)
    exact ⟨rfl, _, rfl, Or.inr ⟨rfl, by omega⟩⟩
  · refine ix_i (by omega) ?_
    intro b3 b3b
    refine rg_i (by omega) ?_
    refine ix_i (by omega) ?_
    intro b4 b4b
    intro w5 w5b
    refine And.intro (fun c6 => ?_) (fun c6 => ?_)
    · refine hK 24 _ [] T ?_
      refine j_blx (F := fX3) tb_X3 (nn_ _) bk_X3_isWon_467_e_24 bs_X3_isWon_467_e_24 hz (fun K hK => ?_)
      refine (show po_X3_isWon_467_e T p s m T (some (vI 0)) from ?_)
      exact ⟨rfl, _, rfl, Or.inr ⟨rfl, by omega⟩⟩
    · refine hK 25 _ [vI 1] T ?_
      refine j_blx (F := fX3) tb_X3 (nn_ _) bk_X3_isWon_467_e_25 bs_X3_isWon_467_e_25 hz (fun K hK => ?_)
      refine (show po_X3_isWon_467_e T p s m T (some (vI 1)) from ?_)
      exact ⟨rfl, _, rfl, Or.inl ⟨rfl, by omega⟩⟩
theorem bk_X3_personAt_e_0 : ck_ fX3 (some .int) cX3_personAt 0 [.aload 0, .tableswitch 0 3 1 #[], .aload 0, .tableswitch 0 3 11 #[], .iload 1, .iconst 6, .imul, .iload 2, .iadd, .iaload, .iaload, .ireturn] 17 = true := qck_r (nn_ _) (by decide +kernel)
theorem bs_X3_personAt_e_0 {P : Zt → Option Zv → Prop} (K : Int → Zl → List Zv → Zt → Prop) : sx_ K P [.aload 0, .tableswitch 0 3 1 #[], .aload 0, .tableswitch 0 3 11 #[], .iload 1, .iconst 6, .imul, .iload 2, .iadd, .iaload, .iaload, .ireturn] 17 = x_aload 0 (x_g2 103 448 (x_aload 0 (x_g2 103 471 (x_iload 1 (x_iconst 6 (x_imul (x_iload 2 (x_iadd (x_iaload (x_iaload (x_ireturn P))))))))))) := ((xe_aload 0).trans (congrArg (x_aload 0) ((xe_g2 (kk := 103) rfl tl_3_1).trans (congrArg (x_g2 103 448) ((xe_aload 0).trans (congrArg (x_aload 0) ((xe_g2 (kk := 103) rfl tl_3_11).trans (congrArg (x_g2 103 471) ((xe_iload 1).trans (congrArg (x_iload 1) ((xe_iconst 6).trans (congrArg (x_iconst 6) ((xe_imul).trans (congrArg (x_imul) ((xe_iload 2).trans (congrArg (x_iload 2) ((xe_iadd).trans (congrArg (x_iadd) ((xe_iaload).trans (congrArg (x_iaload) ((xe_iaload).trans (congrArg (x_iaload) (xe_ireturn)))))))))))))))))))))))
abbrev po_X3_personAt_e (T : Zt) (p : Int) (s k : Int) : Zt → Option Zv → Prop := fun T' r => T = T' ∧ r = some (vI (T 448 p (T 471 p (s * 6 + k))))
set_option maxHeartbeats 4000000 in
theorem ct_X3_personAt_e {T : Zt} {p : Int} {s k : Int} (hs : 0 ≤ s ∧ s ≤ 1) (h1 : 0 ≤ k ∧ k < 6) : Ct_ yX3_personAt zX3_personAt T [vR 103 p, vI s, vI k] (po_X3_personAt_e T p s k) := by
  refine ct_of pn_3 rfl rfl (Nat.le_of_ble_eq_true rfl) (fun hT hav => ?_)
  have hr_s : -2147483648 ≤ s ∧ s ≤ 2147483647 := hav (vI s) (List.mem_cons_of_mem _ List.mem_cons_self)
  have hr_k : -2147483648 ≤ k ∧ k ≤ 2147483647 := hav (vI k) (List.mem_cons_of_mem _ (List.mem_cons_of_mem _ List.mem_cons_self))
  have hz : zX3_personAt.2.2.2.1 = some .boolean → ∀ (T' : Zt) (x : Int), po_X3_personAt_e T p s k T' (some (vI x)) → 0 ≤ x ∧ x ≤ 1 := fun h => by cases h
  show J_ zX3_personAt T (po_X3_personAt_e T p s k) 0 0 0 [some (vR 103 p), some (vI s), some (vI k)] [] T
  refine j_blx (F := fX3) tb_X3 (nn_ _) bk_X3_personAt_e_0 bs_X3_personAt_e_0 hz (fun K hK => ?_)
  refine rg_i (by omega) ?_
  refine rg_i (by omega) ?_
  refine ix_i (by omega) ?_
  intro b1 b1b
  refine ix_i (by omega) ?_
  intro b2 b2b
  refine (show po_X3_personAt_e T p s k T (some (vI (T 448 p (T 471 p ((s * 6) + k))))) from ?_)
  exact ⟨rfl, rfl⟩
theorem bk_X3_fieldPlace_e_2 : ck_ fX3 (some .int) cX3_fieldPlace 2 [.iload 3, .aload 0, .tableswitch 0 3 10 #[], .iload 1, .iaload, .if_icmp .ge 30, .aload 0, .iload 1, .iload 3] 15 = true := qck_r (nn_ _) (by decide +kernel)
theorem bs_X3_fieldPlace_e_2 {P : Zt → Option Zv → Prop} (K : Int → Zl → List Zv → Zt → Prop) : sx_ K P [.iload 3, .aload 0, .tableswitch 0 3 10 #[], .iload 1, .iaload, .if_icmp .ge 30, .aload 0, .iload 1, .iload 3] 15 = x_iload 3 (x_aload 0 (x_g2 103 470 (x_iload 1 (x_iaload (x_if_icmp .ge 30 K (x_aload 0 (x_iload 1 (x_iload 3 (K 15))))))))) := ((xe_iload 3).trans (congrArg (x_iload 3) ((xe_aload 0).trans (congrArg (x_aload 0) ((xe_g2 (kk := 103) rfl tl_3_10).trans (congrArg (x_g2 103 470) ((xe_iload 1).trans (congrArg (x_iload 1) ((xe_iaload).trans (congrArg (x_iaload) ((xe_if_icmp .ge 30).trans (congrArg (x_if_icmp .ge 30 K) ((xe_aload 0).trans (congrArg (x_aload 0) ((xe_iload 1).trans (congrArg (x_iload 1) ((xe_iload 3).trans (congrArg (x_iload 3) xe_nil))))))))))))))))))
theorem bk_X3_fieldPlace_e_30 : ck_ fX3 (some .int) cX3_fieldPlace 30 [.iconst (-1), .ireturn] 32 = true := qck_r (nn_ _) (by decide +kernel)
theorem bs_X3_fieldPlace_e_30 {P : Zt → Option Zv → Prop} (K : Int → Zl → List Zv → Zt → Prop) : sx_ K P [.iconst (-1), .ireturn] 32 = x_iconst (-1) (x_ireturn P) := ((xe_iconst (-1)).trans (congrArg (x_iconst (-1)) (xe_ireturn)))
theorem bk_X3_fieldPlace_e_18 : ck_ fX3 (some .int) cX3_fieldPlace 18 [.iload 2, .if_icmp .ne 24, .iload 3, .ireturn] 24 = true := qck_r (nn_ _) (by decide +kernel)
theorem bs_X3_fieldPlace_e_18 {P : Zt → Option Zv → Prop} (K : Int → Zl → List Zv → Zt → Prop) : sx_ K P [.iload 2, .if_icmp .ne 24, .iload 3, .ireturn] 24 = x_iload 2 (x_if_icmp .ne 24 K (x_iload 3 (x_ireturn P))) := ((xe_iload 2).trans (congrArg (x_iload 2) ((xe_if_icmp .ne 24).trans (congrArg (x_if_icmp .ne 24 K) ((xe_iload 3).trans (congrArg (x_iload 3) (xe_ireturn)))))))
theorem bk_X3_fieldPlace_e_24 : ck_ fX3 (some .int) cX3_fieldPlace 24 [.iinc 3 1, .goto 2] 30 = true := qck_r (nn_ _) (by decide +kernel)
theorem bs_X3_fieldPlace_e_24 {P : Zt → Option Zv → Prop} (K : Int → Zl → List Zv → Zt → Prop) : sx_ K P [.iinc 3 1, .goto 2] 30 = x_iinc 3 1 (x_goto 2 K) := ((xe_iinc 3 1).trans (congrArg (x_iinc 3 1) (xe_goto 2)))
theorem bk_X3_fieldPlace_e_0 : ck_ fX3 (some .int) cX3_fieldPlace 0 [.iconst 0, .istore 3] 2 = true := qck_r (nn_ _) (by decide +kernel)
theorem bs_X3_fieldPlace_e_0 {P : Zt → Option Zv → Prop} (K : Int → Zl → List Zv → Zt → Prop) : sx_ K P [.iconst 0, .istore 3] 2 = x_iconst 0 (x_istore 3 (K 2)) := ((xe_iconst 0).trans (congrArg (x_iconst 0) ((xe_istore 3).trans (congrArg (x_istore 3) xe_nil))))
abbrev po_X3_fieldPlace_e (T : Zt) (p : Int) (s q : Int) : Zt → Option Zv → Prop := fun T' r => T = T' ∧ r = some (vI (fp9_ (rs9_ T p) s q))
set_option maxHeartbeats 4000000 in
theorem ct_X3_fieldPlace_e {T : Zt} {p : Int} {s q : Int} (hs : 0 ≤ s ∧ s ≤ 1) : Ct_ yX3_fieldPlace zX3_fieldPlace T [vR 103 p, vI s, vI q] (po_X3_fieldPlace_e T p s q) := by
  refine ct_of pn_3 rfl rfl (Nat.le_of_ble_eq_true rfl) (fun hT hav => ?_)
  have hr_s : -2147483648 ≤ s ∧ s ≤ 2147483647 := hav (vI s) (List.mem_cons_of_mem _ List.mem_cons_self)
  have hr_q : -2147483648 ≤ q ∧ q ≤ 2147483647 := hav (vI q) (List.mem_cons_of_mem _ (List.mem_cons_of_mem _ List.mem_cons_self))
  have hz : zX3_fieldPlace.2.2.2.1 = some .boolean → ∀ (T' : Zt) (x : Int), po_X3_fieldPlace_e T p s q T' (some (vI x)) → 0 ≤ x ∧ x ≤ 1 := fun h => by cases h
  have hfd : 0 ≤ T 470 p s ∧ T 470 p s ≤ 6 := bd_a hT 470 (by decide +kernel : ta_ 470 = some (1, some 2, 0, 6)) p (by omega)
  show J_ zX3_fieldPlace T (po_X3_fieldPlace_e T p s q) 0 0 0 [some (vR 103 p), some (vI s), some (vI q), none] [] T
  have c_2 : ∀ (nn : Nat) (k : Int), ((6 - k).toNat) ≤ nn → (0 ≤ k) → (fp9_ (rs9_ T p) s q = fpn_ (rs9_ T p) s q (T 470 p s - k).toNat k) → J_ zX3_fieldPlace T (po_X3_fieldPlace_e T p s q) 0 0 2 [some (vR 103 p), some (vI s), some (vI q), some (vI k)] [] T := by
    intro nn
    induction nn using Nat.strongRecOn with
    | _ nn ih_2 =>
      intro k hm_2 i1 ifp
      replace hm_2 := fun (_ : Unit) => hm_2
      refine j_blx (F := fX3) tb_X3 (nn_ _) bk_X3_fieldPlace_e_2 bs_X3_fieldPlace_e_2 hz (fun K hK => ?_)
      refine ix_i (by omega) ?_
      intro b1 b1b
      refine And.intro (fun c2 => ?_) (fun c2 => ?_)
      · refine hK 30 _ [] T ?_
        refine j_blx (F := fX3) tb_X3 (nn_ _) bk_X3_fieldPlace_e_30 bs_X3_fieldPlace_e_30 hz (fun K hK => ?_)
        refine (show po_X3_fieldPlace_e T p s q T (some (vI (-1))) from ?_)
        have e9 : fp9_ (rs9_ T p) s q = -1 := by rw [ifp, show (T 470 p s - k).toNat = 0 by omega]; rfl
        exact ⟨rfl, by rw [e9]⟩
      · refine hK 15 _ [vI k, vI s, vR 103 p] T ?_
        refine j_callV (y := yX3_personAt) (Yc := zX3_personAt) (rest := []) [vI s, vI k] (ct_X3_personAt_e (T := T) (by omega) (by omega)) cl_X3_92 (qd_c (by decide +kernel)) (nn_ _) rfl (rf_of rfl) (Nat.le_of_ble_eq_true rfl) (Nat.le_of_ble_eq_true rfl) (Nat.le_of_ble_eq_true rfl) rfl ?_
        rintro _ _ ⟨rfl, rfl⟩
        show J_ zX3_fieldPlace T (po_X3_fieldPlace_e T p s q) 0 0 18 _ [vI (T 448 p (T 471 p (s * 6 + k)))] T
        refine j_blx (F := fX3) tb_X3 (nn_ _) bk_X3_fieldPlace_e_18 bs_X3_fieldPlace_e_18 hz (fun K hK => ?_)
        refine And.intro (fun c3 => ?_) (fun c3 => ?_)
        · refine hK 24 _ [] T ?_
          refine j_blx (F := fX3) tb_X3 (nn_ _) bk_X3_fieldPlace_e_24 bs_X3_fieldPlace_e_24 hz (fun K hK => ?_)
          refine rg_i (by omega) ?_
          refine hK 2 [some (vR 103 p), some (vI s), some (vI q), some (vI (k + 1))] [] T ?_
          refine ih_2 _ ?_ (k + 1) (Nat.le_refl _) ?_ ?_
          · have hm_2 := hm_2 (); omega
          · omega
          · rw [ifp, show (T 470 p s - k).toNat = (T 470 p s - (k + 1)).toNat + 1 by omega]
            exact fpn_f (a := rs9_ T p) (show T 448 p (T 471 p (s * 6 + k)) ≠ q by omega)
        · refine (show po_X3_fieldPlace_e T p s q T (some (vI k)) from ?_)
          have e9 : fp9_ (rs9_ T p) s q = k := by rw [ifp, show (T 470 p s - k).toNat = (T 470 p s - (k + 1)).toNat + 1 by omega]; exact fpn_t (a := rs9_ T p) (show T 448 p (T 471 p (s * 6 + k)) = q by omega)
          exact ⟨rfl, by rw [e9]⟩
  refine j_blx (F := fX3) tb_X3 (nn_ _) bk_X3_fieldPlace_e_0 bs_X3_fieldPlace_e_0 hz (fun K hK => ?_)
  refine hK 2 [some (vR 103 p), some (vI s), some (vI q), some (vI 0)] [] T ?_
  refine c_2 _ 0 (Nat.le_refl _) ?_ ?_
  · omega
  · rw [show T 470 p s - 0 = T 470 p s by omega]
    (try rfl)
theorem bk_X3_benchPlace_e_2 : ck_ fX3 (some .int) cX3_benchPlace 2 [.iload 3, .aload 0, .tableswitch 0 3 2 #[], .iload 1, .iaload, .if_icmp .ge 50, .iload 1, .iconst 10, .imul, .iload 3, .iadd, .istore 4, .aload 0, .tableswitch 0 3 1 #[], .iload 4, .iaload, .iload 2, .if_icmp .ne 44, .aload 0, .tableswitch 0 3 12 #[], .iload 4, .iaload, .ifCond .ne 44, .iload 4, .ireturn] 44 = true := qck_r (nn_ _) (by decide +kernel)
theorem bs_X3_benchPlace_e_2 {P : Zt → Option Zv → Prop} (K : Int → Zl → List Zv → Zt → Prop) : sx_ K P [.iload 3, .aload 0, .tableswitch 0 3 2 #[], .iload 1, .iaload, .if_icmp .ge 50, .iload 1, .iconst 10, .imul, .iload 3, .iadd, .istore 4, .aload 0, .tableswitch 0 3 1 #[], .iload 4, .iaload, .iload 2, .if_icmp .ne 44, .aload 0, .tableswitch 0 3 12 #[], .iload 4, .iaload, .ifCond .ne 44, .iload 4, .ireturn] 44 = x_iload 3 (x_aload 0 (x_g2 103 449 (x_iload 1 (x_iaload (x_if_icmp .ge 50 K (x_iload 1 (x_iconst 10 (x_imul (x_iload 3 (x_iadd (x_istore 4 (x_aload 0 (x_g2 103 448 (x_iload 4 (x_iaload (x_iload 2 (x_if_icmp .ne 44 K (x_aload 0 (x_g2 103 472 (x_iload 4 (x_iaload (x_ifCond .ne 44 K (x_iload 4 (x_ireturn P)))))))))))))))))))))))) := ((xe_iload 3).trans (congrArg (x_iload 3) ((xe_aload 0).trans (congrArg (x_aload 0) ((xe_g2 (kk := 103) rfl tl_3_2).trans (congrArg (x_g2 103 449) ((xe_iload 1).trans (congrArg (x_iload 1) ((xe_iaload).trans (congrArg (x_iaload) ((xe_if_icmp .ge 50).trans (congrArg (x_if_icmp .ge 50 K) ((xe_iload 1).trans (congrArg (x_iload 1) ((xe_iconst 10).trans (congrArg (x_iconst 10) ((xe_imul).trans (congrArg (x_imul) ((xe_iload 3).trans (congrArg (x_iload 3) ((xe_iadd).trans (congrArg (x_iadd) ((xe_istore 4).trans (congrArg (x_istore 4) ((xe_aload 0).trans (congrArg (x_aload 0) ((xe_g2 (kk := 103) rfl tl_3_1).trans (congrArg (x_g2 103 448) ((xe_iload 4).trans (congrArg (x_iload 4) ((xe_iaload).trans (congrArg (x_iaload) ((xe_iload 2).trans (congrArg (x_iload 2) ((xe_if_icmp .ne 44).trans (congrArg (x_if_icmp .ne 44 K) ((xe_aload 0).trans (congrArg (x_aload 0) ((xe_g2 (kk := 103) rfl tl_3_12).trans (congrArg (x_g2 103 472) ((xe_iload 4).trans (congrArg (x_iload 4) ((xe_iaload).trans (congrArg (x_iaload) ((xe_ifCond .ne 44).trans (congrArg (x_ifCond .ne 44 K) ((xe_iload 4).trans (congrArg (x_iload 4) (xe_ireturn)))))))))))))))))))))))))))))))))))))))))))))))))
theorem bk_X3_benchPlace_e_50 : ck_ fX3 (some .int) cX3_benchPlace 50 [.iconst (-1), .ireturn] 52 = true := qck_r (nn_ _) (by decide +kernel)
theorem bs_X3_benchPlace_e_50 {P : Zt → Option Zv → Prop} (K : Int → Zl → List Zv → Zt → Prop) : sx_ K P [.iconst (-1), .ireturn] 52 = x_iconst (-1) (x_ireturn P) := ((xe_iconst (-1)).trans (congrArg (x_iconst (-1)) (xe_ireturn)))
theorem bk_X3_benchPlace_e_44 : ck_ fX3 (some .int) cX3_benchPlace 44 [.iinc 3 1, .goto 2] 50 = true := qck_r (nn_ _) (by decide +kernel)
theorem bs_X3_benchPlace_e_44 {P : Zt → Option Zv → Prop} (K : Int → Zl → List Zv → Zt → Prop) : sx_ K P [.iinc 3 1, .goto 2] 50 = x_iinc 3 1 (x_goto 2 K) := ((xe_iinc 3 1).trans (congrArg (x_iinc 3 1) (xe_goto 2)))
theorem bk_X3_benchPlace_e_0 : ck_ fX3 (some .int) cX3_benchPlace 0 [.iconst 0, .istore 3] 2 = true := qck_r (nn_ _) (by decide +kernel)
theorem bs_X3_benchPlace_e_0 {P : Zt → Option Zv → Prop} (K : Int → Zl → List Zv → Zt → Prop) : sx_ K P [.iconst 0, .istore 3] 2 = x_iconst 0 (x_istore 3 (K 2)) := ((xe_iconst 0).trans (congrArg (x_iconst 0) ((xe_istore 3).trans (congrArg (x_istore 3) xe_nil))))
abbrev po_X3_benchPlace_e (T : Zt) (p : Int) (s q : Int) : Zt → Option Zv → Prop := fun T' r => T = T' ∧ r = some (vI (bq9_ (rs9_ T p) s q))
set_option maxHeartbeats 4000000 in
theorem ct_X3_benchPlace_e {T : Zt} {p : Int} {s q : Int} (hs : 0 ≤ s ∧ s ≤ 1) : Ct_ yX3_benchPlace zX3_benchPlace T [vR 103 p, vI s, vI q] (po_X3_benchPlace_e T p s q) := by
  refine ct_of pn_3 rfl rfl (Nat.le_of_ble_eq_true rfl) (fun hT hav => ?_)
  have hr_s : -2147483648 ≤ s ∧ s ≤ 2147483647 := hav (vI s) (List.mem_cons_of_mem _ List.mem_cons_self)
  have hr_q : -2147483648 ≤ q ∧ q ≤ 2147483647 := hav (vI q) (List.mem_cons_of_mem _ (List.mem_cons_of_mem _ List.mem_cons_self))
  have hz : zX3_benchPlace.2.2.2.1 = some .boolean → ∀ (T' : Zt) (x : Int), po_X3_benchPlace_e T p s q T' (some (vI x)) → 0 ≤ x ∧ x ≤ 1 := fun h => by cases h
  have hls : 0 ≤ T 449 p s ∧ T 449 p s ≤ 10 := bd_a hT 449 (by decide +kernel : ta_ 449 = some (1, some 2, 0, 10)) p (by omega)
  show J_ zX3_benchPlace T (po_X3_benchPlace_e T p s q) 0 0 0 [some (vR 103 p), some (vI s), some (vI q), none, none] [] T
  have c_2 : ∀ (nn : Nat) (k : Int), ((10 - k).toNat) ≤ nn → (0 ≤ k) → (bq9_ (rs9_ T p) s q = bpn_ (rs9_ T p) s q (T 449 p s - k).toNat k) → J_ zX3_benchPlace T (po_X3_benchPlace_e T p s q) 0 0 2 [some (vR 103 p), some (vI s), some (vI q), some (vI k), none] [] T := by
    intro nn
    induction nn using Nat.strongRecOn with
    | _ nn ih_2 =>
      intro k hm_2 i1 ibp
      replace hm_2 := fun (_ : Unit) => hm_2
      refine j_blx (F := fX3) tb_X3 (nn_ _) bk_X3_benchPlace_e_2 bs_X3_benchPlace_e_2 hz (fun K hK => ?_)
      refine ix_i (by omega) ?_
      intro b1 b1b
      refine And.intro (fun c2 => ?_) (fun c2 => ?_)
      · refine hK 50 _ [] T ?_
        refine j_blx (F := fX3) tb_X3 (nn_ _) bk_X3_benchPlace_e_50 bs_X3_benchPlace_e_50 hz (fun K hK => ?_)
        refine (show po_X3_benchPlace_e T p s q T (some (vI (-1))) from ?_)
        have e9 : bq9_ (rs9_ T p) s q = -1 := by rw [ibp, show (T 449 p s - k).toNat = 0 by omega]; rfl
        exact ⟨rfl, by rw [e9]⟩
      · refine rg_i (by omega) ?_
        refine rg_i (by omega) ?_
        refine ix_i (by omega) ?_
        intro b3 b3b
        refine And.intro (fun c4 => ?_) (fun c4 => ?_)
        · refine hK 44 [some (vR 103 p), some (vI s), some (vI q), some (vI k), some (vI ((s * 10) + k))] [] T ?_
          refine j_blx (F := fX3) tb_X3 (nn_ _) bk_X3_benchPlace_e_44 bs_X3_benchPlace_e_44 hz (fun K hK => ?_)
          refine rg_i (by omega) ?_
          refine hK 2 [some (vR 103 p), some (vI s), some (vI q), some (vI (k + 1)), some (vI ((s * 10) + k))] [] T ?_
          refine j_drq [some (vR 103 p), some (vI s), some (vI q), some (vI (k + 1)), none] (drq_s (drq_s (drq_s (drq_s (drq_n drq_0))))) ?_
          refine ih_2 _ ?_ (k + 1) (Nat.le_refl _) ?_ ?_
          · have hm_2 := hm_2 (); omega
          · omega
          · rw [ibp, show (T 449 p s - k).toNat = (T 449 p s - (k + 1)).toNat + 1 by omega]
            exact bpn_f (a := rs9_ T p) (show ¬ (T 448 p (s * 10 + k) = q ∧ T 472 p (s * 10 + k) = 0) by omega)
        · refine ix_i (by omega) ?_
          intro b5 b5b
          refine And.intro (fun c6 => ?_) (fun c6 => ?_)
          · refine hK 44 [some (vR 103 p), some (vI s), some (vI q), some (vI k), some (vI ((s * 10) + k))] [] T ?_
            refine j_blx (F := fX3) tb_X3 (nn_ _) bk_X3_benchPlace_e_44 bs_X3_benchPlace_e_44 hz (fun K hK => ?_)
            refine rg_i (by omega) ?_
            refine hK 2 [some (vR 103 p), some (vI s), some (vI q), some (vI (k + 1)), some (vI ((s * 10) + k))] [] T ?_
            refine j_drq [some (vR 103 p), some (vI s), some (vI q), some (vI (k + 1)), none] (drq_s (drq_s (drq_s (drq_s (drq_n drq_0))))) ?_
            refine ih_2 _ ?_ (k + 1) (Nat.le_refl _) ?_ ?_
            · have hm_2 := hm_2 (); omega
            · omega
            · rw [ibp, show (T 449 p s - k).toNat = (T 449 p s - (k + 1)).toNat + 1 by omega]
              exact bpn_f (a := rs9_ T p) (show ¬ (T 448 p (s * 10 + k) = q ∧ T 472 p (s * 10 + k) = 0) by omega)
          · refine (show po_X3_benchPlace_e T p s q T (some (vI ((s * 10) + k))) from ?_)
            have e9 : bq9_ (rs9_ T p) s q = s * 10 + k := by rw [ibp, show (T 449 p s - k).toNat = (T 449 p s - (k + 1)).toNat + 1 by omega]; exact bpn_t (a := rs9_ T p) (show T 448 p (s * 10 + k) = q ∧ T 472 p (s * 10 + k) = 0 by omega)
            exact ⟨rfl, by rw [e9]⟩
  refine j_blx (F := fX3) tb_X3 (nn_ _) bk_X3_benchPlace_e_0 bs_X3_benchPlace_e_0 hz (fun K hK => ?_)
  refine hK 2 [some (vR 103 p), some (vI s), some (vI q), some (vI 0), none] [] T ?_
  refine c_2 _ 0 (Nat.le_refl _) ?_ ?_
  · omega
  · rw [show T 449 p s - 0 = T 449 p s by omega]
    (try rfl)
theorem bk_X3_brokenLaw_e_0 : ck_ fX3 (some .int) cX3_brokenLaw 0 [.aload 0, .tableswitch 0 3 3 #[], .ifCond .eq 9, .iconst 1, .ireturn] 9 = true := qck_r (nn_ _) (by decide +kernel)
theorem bs_X3_brokenLaw_e_0 {P : Zt → Option Zv → Prop} (K : Int → Zl → List Zv → Zt → Prop) : sx_ K P [.aload 0, .tableswitch 0 3 3 #[], .ifCond .eq 9, .iconst 1, .ireturn] 9 = x_aload 0 (x_g0 103 3 0 1 (x_ifCond .eq 9 K (x_iconst 1 (x_ireturn P)))) := ((xe_aload 0).trans (congrArg (x_aload 0) ((xe_g0 (kk := 103) rfl tl_3_3).trans (congrArg (x_g0 103 3 0 1) ((xe_ifCond .eq 9).trans (congrArg (x_ifCond .eq 9 K) ((xe_iconst 1).trans (congrArg (x_iconst 1) (xe_ireturn)))))))))
theorem bk_X3_brokenLaw_e_9 : ck_ fX3 (some .int) cX3_brokenLaw 9 [.aload 0, .iload 1, .iload 2] 12 = true := qck_r (nn_ _) (by decide +kernel)
theorem bs_X3_brokenLaw_e_9 {P : Zt → Option Zv → Prop} (K : Int → Zl → List Zv → Zt → Prop) : sx_ K P [.aload 0, .iload 1, .iload 2] 12 = x_aload 0 (x_iload 1 (x_iload 2 (K 12))) := ((xe_aload 0).trans (congrArg (x_aload 0) ((xe_iload 1).trans (congrArg (x_iload 1) ((xe_iload 2).trans (congrArg (x_iload 2) xe_nil))))))
theorem bk_X3_brokenLaw_e_15 : ck_ fX3 (some .int) cX3_brokenLaw 15 [.ifCond .ne 20, .iconst 2, .ireturn] 20 = true := qck_r (nn_ _) (by decide +kernel)
theorem bs_X3_brokenLaw_e_15 {P : Zt → Option Zv → Prop} (K : Int → Zl → List Zv → Zt → Prop) : sx_ K P [.ifCond .ne 20, .iconst 2, .ireturn] 20 = x_ifCond .ne 20 K (x_iconst 2 (x_ireturn P)) := ((xe_ifCond .ne 20).trans (congrArg (x_ifCond .ne 20 K) ((xe_iconst 2).trans (congrArg (x_iconst 2) (xe_ireturn)))))
theorem bk_X3_brokenLaw_e_20 : ck_ fX3 (some .int) cX3_brokenLaw 20 [.aload 0, .iload 1, .iload 2] 23 = true := qck_r (nn_ _) (by decide +kernel)
theorem bs_X3_brokenLaw_e_20 {P : Zt → Option Zv → Prop} (K : Int → Zl → List Zv → Zt → Prop) : sx_ K P [.aload 0, .iload 1, .iload 2] 23 = x_aload 0 (x_iload 1 (x_iload 2 (K 23))) := ((xe_aload 0).trans (congrArg (x_aload 0) ((xe_iload 1).trans (congrArg (x_iload 1) ((xe_iload 2).trans (congrArg (x_iload 2) xe_nil))))))
theorem bk_X3_brokenLaw_e_26 : ck_ fX3 (some .int) cX3_brokenLaw 26 [.ifCond .ne 31, .iconst 3, .ireturn] 31 = true := qck_r (nn_ _) (by decide +kernel)
theorem bs_X3_brokenLaw_e_26 {P : Zt → Option Zv → Prop} (K : Int → Zl → List Zv → Zt → Prop) : sx_ K P [.ifCond .ne 31, .iconst 3, .ireturn] 31 = x_ifCond .ne 31 K (x_iconst 3 (x_ireturn P)) := ((xe_ifCond .ne 31).trans (congrArg (x_ifCond .ne 31 K) ((xe_iconst 3).trans (congrArg (x_iconst 3) (xe_ireturn)))))
theorem bk_X3_brokenLaw_e_31 : ck_ fX3 (some .int) cX3_brokenLaw 31 [.aload 0, .iload 1] 33 = true := qck_r (nn_ _) (by decide +kernel)
theorem bs_X3_brokenLaw_e_31 {P : Zt → Option Zv → Prop} (K : Int → Zl → List Zv → Zt → Prop) : sx_ K P [.aload 0, .iload 1] 33 = x_aload 0 (x_iload 1 (K 33)) := ((xe_aload 0).trans (congrArg (x_aload 0) ((xe_iload 1).trans (congrArg (x_iload 1) xe_nil))))
theorem bk_X3_brokenLaw_e_36 : ck_ fX3 (some .int) cX3_brokenLaw 36 [.ifCond .eq 51, .aload 0, .iload 2, .iload 3] 42 = true := qck_r (nn_ _) (by decide +kernel)
theorem bs_X3_brokenLaw_e_36 {P : Zt → Option Zv → Prop} (K : Int → Zl → List Zv → Zt → Prop) : sx_ K P [.ifCond .eq 51, .aload 0, .iload 2, .iload 3] 42 = x_ifCond .eq 51 K (x_aload 0 (x_iload 2 (x_iload 3 (K 42)))) := ((xe_ifCond .eq 51).trans (congrArg (x_ifCond .eq 51 K) ((xe_aload 0).trans (congrArg (x_aload 0) ((xe_iload 2).trans (congrArg (x_iload 2) ((xe_iload 3).trans (congrArg (x_iload 3) xe_nil))))))))
theorem bk_X3_brokenLaw_e_51 : ck_ fX3 (some .int) cX3_brokenLaw 51 [.iload 1, .iconst 5, .if_icmp .ne 88, .aload 0, .iload 2, .iload 4] 60 = true := qck_r (nn_ _) (by decide +kernel)
theorem bs_X3_brokenLaw_e_51 {P : Zt → Option Zv → Prop} (K : Int → Zl → List Zv → Zt → Prop) : sx_ K P [.iload 1, .iconst 5, .if_icmp .ne 88, .aload 0, .iload 2, .iload 4] 60 = x_iload 1 (x_iconst 5 (x_if_icmp .ne 88 K (x_aload 0 (x_iload 2 (x_iload 4 (K 60)))))) := ((xe_iload 1).trans (congrArg (x_iload 1) ((xe_iconst 5).trans (congrArg (x_iconst 5) ((xe_if_icmp .ne 88).trans (congrArg (x_if_icmp .ne 88 K) ((xe_aload 0).trans (congrArg (x_aload 0) ((xe_iload 2).trans (congrArg (x_iload 2) ((xe_iload 4).trans (congrArg (x_iload 4) xe_nil))))))))))))
theorem bk_X3_brokenLaw_e_88 : ck_ fX3 (some .int) cX3_brokenLaw 88 [.aload 0, .iload 1, .iload 4] 92 = true := qck_r (nn_ _) (by decide +kernel)
theorem bs_X3_brokenLaw_e_88 {P : Zt → Option Zv → Prop} (K : Int → Zl → List Zv → Zt → Prop) : sx_ K P [.aload 0, .iload 1, .iload 4] 92 = x_aload 0 (x_iload 1 (x_iload 4 (K 92))) := ((xe_aload 0).trans (congrArg (x_aload 0) ((xe_iload 1).trans (congrArg (x_iload 1) ((xe_iload 4).trans (congrArg (x_iload 4) xe_nil))))))
theorem bk_X3_brokenLaw_e_95 : ck_ fX3 (some .int) cX3_brokenLaw 95 [.ifCond .eq 102, .iconst 0, .goto 104] 102 = true := qck_r (nn_ _) (by decide +kernel)
theorem bs_X3_brokenLaw_e_95 {P : Zt → Option Zv → Prop} (K : Int → Zl → List Zv → Zt → Prop) : sx_ K P [.ifCond .eq 102, .iconst 0, .goto 104] 102 = x_ifCond .eq 102 K (x_iconst 0 (x_goto 104 K)) := ((xe_ifCond .eq 102).trans (congrArg (x_ifCond .eq 102 K) ((xe_iconst 0).trans (congrArg (x_iconst 0) (xe_goto 104)))))
theorem bk_X3_brokenLaw_e_102 : ck_ fX3 (some .int) cX3_brokenLaw 102 [.iconst 7, .ireturn] 105 = true := qck_r (nn_ _) (by decide +kernel)
theorem bs_X3_brokenLaw_e_102 {P : Zt → Option Zv → Prop} (K : Int → Zl → List Zv → Zt → Prop) : sx_ K P [.iconst 7, .ireturn] 105 = x_iconst 7 (x_ireturn P) := ((xe_iconst 7).trans (congrArg (x_iconst 7) (xe_ireturn)))
theorem bk_X3_brokenLaw_e_104 : ck_ fX3 (some .int) cX3_brokenLaw 104 [.ireturn] 105 = true := qck_r (nn_ _) (by decide +kernel)
theorem bs_X3_brokenLaw_e_104 {P : Zt → Option Zv → Prop} (K : Int → Zl → List Zv → Zt → Prop) : sx_ K P [.ireturn] 105 = x_ireturn P := (xe_ireturn)
theorem bk_X3_brokenLaw_e_63 : ck_ fX3 (some .int) cX3_brokenLaw 63 [.iconst (-1), .if_icmp .ne 69, .iconst 5, .ireturn] 69 = true := qck_r (nn_ _) (by decide +kernel)
theorem bs_X3_brokenLaw_e_63 {P : Zt → Option Zv → Prop} (K : Int → Zl → List Zv → Zt → Prop) : sx_ K P [.iconst (-1), .if_icmp .ne 69, .iconst 5, .ireturn] 69 = x_iconst (-1) (x_if_icmp .ne 69 K (x_iconst 5 (x_ireturn P))) := ((xe_iconst (-1)).trans (congrArg (x_iconst (-1)) ((xe_if_icmp .ne 69).trans (congrArg (x_if_icmp .ne 69 K) ((xe_iconst 5).trans (congrArg (x_iconst 5) (xe_ireturn)))))))
theorem bk_X3_brokenLaw_e_69 : ck_ fX3 (some .int) cX3_brokenLaw 69 [.aload 0, .tableswitch 0 3 9 #[], .iload 2, .iaload, .aload 0, .tableswitch 0 3 0 #[], .iconst 10, .iaload, .if_icmp .lt 88, .iconst 6, .ireturn] 88 = true := qck_r (nn_ _) (by decide +kernel)
theorem bs_X3_brokenLaw_e_69 {P : Zt → Option Zv → Prop} (K : Int → Zl → List Zv → Zt → Prop) : sx_ K P [.aload 0, .tableswitch 0 3 9 #[], .iload 2, .iaload, .aload 0, .tableswitch 0 3 0 #[], .iconst 10, .iaload, .if_icmp .lt 88, .iconst 6, .ireturn] 88 = x_aload 0 (x_g2 103 469 (x_iload 2 (x_iaload (x_aload 0 (x_g3 103 401 0 (x_iconst 10 (x_iaload (x_if_icmp .lt 88 K (x_iconst 6 (x_ireturn P)))))))))) := ((xe_aload 0).trans (congrArg (x_aload 0) ((xe_g2 (kk := 103) rfl tl_3_9).trans (congrArg (x_g2 103 469) ((xe_iload 2).trans (congrArg (x_iload 2) ((xe_iaload).trans (congrArg (x_iaload) ((xe_aload 0).trans (congrArg (x_aload 0) ((xe_g3 (kk := 103) rfl tl_3_0).trans (congrArg (x_g3 103 401 0) ((xe_iconst 10).trans (congrArg (x_iconst 10) ((xe_iaload).trans (congrArg (x_iaload) ((xe_if_icmp .lt 88).trans (congrArg (x_if_icmp .lt 88 K) ((xe_iconst 6).trans (congrArg (x_iconst 6) (xe_ireturn)))))))))))))))))))))
theorem bk_X3_brokenLaw_e_45 : ck_ fX3 (some .int) cX3_brokenLaw 45 [.iconst (-1), .if_icmp .ne 51, .iconst 4, .ireturn] 51 = true := qck_r (nn_ _) (by decide +kernel)
theorem bs_X3_brokenLaw_e_45 {P : Zt → Option Zv → Prop} (K : Int → Zl → List Zv → Zt → Prop) : sx_ K P [.iconst (-1), .if_icmp .ne 51, .iconst 4, .ireturn] 51 = x_iconst (-1) (x_if_icmp .ne 51 K (x_iconst 4 (x_ireturn P))) := ((xe_iconst (-1)).trans (congrArg (x_iconst (-1)) ((xe_if_icmp .ne 51).trans (congrArg (x_if_icmp .ne 51 K) ((xe_iconst 4).trans (congrArg (x_iconst 4) (xe_ireturn)))))))
abbrev po_X3_brokenLaw_e (T : Zt) (p : Int) (ru : Int → Int) (k s q o : Int) : Zt → Option Zv → Prop := fun T' r => T = T' ∧ ∃ x : Int, r = some (vI x) ∧ ((0 ≤ x ∧ x ≤ 7 ∧ (x = 0 → (k = 0 ∨ (0 ≤ s ∧ s ≤ 1)) ∧ ((T 401 (T 103 p 0) 0 = 0 ∧ 0 ≤ k ∧ k ≤ 5) ∨ (T 401 (T 103 p 0) 0 = 1 ∧ (k = 1 ∨ k = 5)) ∨ (T 401 (T 103 p 0) 0 = 2 ∧ (k = 1 ∨ k = 6)) ∨ (¬ T 401 (T 103 p 0) 0 = 0 ∧ ¬ T 401 (T 103 p 0) 0 = 1 ∧ ¬ T 401 (T 103 p 0) 0 = 2 ∧ 1 ≤ k ∧ k ≤ 4)))) ∧ x = lw9_ ru (rs9_ T p) k s q o)
set_option maxHeartbeats 4000000 in
theorem ct_X3_brokenLaw_e {T : Zt} {p : Int} {ru : Int → Int} {k s q o : Int} (hr : RLP_ T p ru) : Ct_ yX3_brokenLaw zX3_brokenLaw T [vR 103 p, vI k, vI s, vI q, vI o] (po_X3_brokenLaw_e T p ru k s q o) := by
  refine ct_of pn_3 rfl rfl (Nat.le_of_ble_eq_true rfl) (fun hT hav => ?_)
  have hr_k : -2147483648 ≤ k ∧ k ≤ 2147483647 := hav (vI k) (List.mem_cons_of_mem _ List.mem_cons_self)
  have hr_s : -2147483648 ≤ s ∧ s ≤ 2147483647 := hav (vI s) (List.mem_cons_of_mem _ (List.mem_cons_of_mem _ List.mem_cons_self))
  have hr_q : -2147483648 ≤ q ∧ q ≤ 2147483647 := hav (vI q) (List.mem_cons_of_mem _ (List.mem_cons_of_mem _ (List.mem_cons_of_mem _ List.mem_cons_self)))
  have hr_o : -2147483648 ≤ o ∧ o ≤ 2147483647 := hav (vI o) (List.mem_cons_of_mem _ (List.mem_cons_of_mem _ (List.mem_cons_of_mem _ (List.mem_cons_of_mem _ List.mem_cons_self))))
  have hz : zX3_brokenLaw.2.2.2.1 = some .boolean → ∀ (T' : Zt) (x : Int), po_X3_brokenLaw_e T p ru k s q o T' (some (vI x)) → 0 ≤ x ∧ x ≤ 1 := fun h => by cases h
  have hr0 := hr 0 (by decide) (by decide)
  have hr9 := hr 9 (by decide) (by decide)
  have hr10 := hr 10 (by decide) (by decide)
  have hr11 := hr 11 (by decide) (by decide)
  have hr12 := hr 12 (by decide) (by decide)
  show J_ zX3_brokenLaw T (po_X3_brokenLaw_e T p ru k s q o) 0 0 0 [some (vR 103 p), some (vI k), some (vI s), some (vI q), some (vI o)] [] T
  refine j_blx (F := fX3) tb_X3 (nn_ _) bk_X3_brokenLaw_e_0 bs_X3_brokenLaw_e_0 hz (fun K hK => ?_)
  intro b1 b1b
  refine And.intro (fun c2 => ?_) (fun c2 => ?_)
  · refine hK 9 _ [] T ?_
    refine j_blx (F := fX3) tb_X3 (nn_ _) bk_X3_brokenLaw_e_9 bs_X3_brokenLaw_e_9 hz (fun K hK => ?_)
    refine hK 12 _ [vI s, vI k, vR 103 p] T ?_
    refine j_callV (y := yX3_isFormed) (Yc := zX3_isFormed) (rest := []) [vI k, vI s] (ct_X3_isFormed_e (T := T)) cl_X3_68 (qd_c (by decide +kernel)) (nn_ _) rfl (rf_of rfl) (Nat.le_of_ble_eq_true rfl) (Nat.le_of_ble_eq_true rfl) (Nat.le_of_ble_eq_true rfl) rfl ?_
    rintro _ _ ⟨rfl, x3, rfl, hx3⟩
    show J_ zX3_brokenLaw T (po_X3_brokenLaw_e T p ru k s q o) 0 0 15 _ [vI x3] T
    refine j_blx (F := fX3) tb_X3 (nn_ _) bk_X3_brokenLaw_e_15 bs_X3_brokenLaw_e_15 hz (fun K hK => ?_)
    refine And.intro (fun c4 => ?_) (fun c4 => ?_)
    · replace hx3 := hx3.resolve_right (fun z => c4 z.1)
      clear c4
      have F0 := fun (_ : Unit) => hx3.2
      have F1 : Unit → ¬ (¬ ((k = 0 ∨ (0 ≤ s ∧ s ≤ 1)) ∧ ((ru 0 = 0 ∧ 0 ≤ k ∧ k ≤ 5) ∨ (ru 0 = 1 ∧ (k = 1 ∨ k = 5)) ∨ (ru 0 = 2 ∧ (k = 1 ∨ k = 6)) ∨ (¬ ru 0 = 0 ∧ ¬ ru 0 = 1 ∧ ¬ ru 0 = 2 ∧ 1 ≤ k ∧ k ≤ 4)))) := by
        rw [← hr0]
        exact fun _ z => z hx3.2
      have S1 := hx3.2.1
      clear hx3
      refine hK 20 _ [] T ?_
      refine j_blx (F := fX3) tb_X3 (nn_ _) bk_X3_brokenLaw_e_20 bs_X3_brokenLaw_e_20 hz (fun K hK => ?_)
      refine hK 23 _ [vI s, vI k, vR 103 p] T ?_
      refine j_callV (y := yX3_isAllowed) (Yc := zX3_isAllowed) (rest := []) [vI k, vI s] (ct_X3_isAllowed_e (T := T)) cl_X3_72 (qd_c (by decide +kernel)) (nn_ _) rfl (rf_of rfl) (Nat.le_of_ble_eq_true rfl) (Nat.le_of_ble_eq_true rfl) (Nat.le_of_ble_eq_true rfl) rfl ?_
      rintro _ _ ⟨rfl, x5, rfl, hx5⟩
      show J_ zX3_brokenLaw T (po_X3_brokenLaw_e T p ru k s q o) 0 0 26 _ [vI x5] T
      refine j_blx (F := fX3) tb_X3 (nn_ _) bk_X3_brokenLaw_e_26 bs_X3_brokenLaw_e_26 hz (fun K hK => ?_)
      refine And.intro (fun c6 => ?_) (fun c6 => ?_)
      · replace hx5 := hx5.resolve_right (fun z => c6 z.1)
        clear c6
        have A1 : Unit → ¬ (¬ ((ru 0 = 0 ∧ (T 103 p 4 ≠ 1 ∨ (k ≠ 1 ∧ k ≠ 2))) ∨ (ru 0 ≠ 0 ∧ (ru 0 ≠ 3 ∨ s = T 103 p 5)))) := by
          rw [← hr0]
          exact fun _ z => z hx5.2
        clear hx5
        refine hK 31 _ [] T ?_
        refine j_blx (F := fX3) tb_X3 (nn_ _) bk_X3_brokenLaw_e_31 bs_X3_brokenLaw_e_31 hz (fun K hK => ?_)
        refine hK 33 _ [vI k, vR 103 p] T ?_
        refine j_callV (y := yX3_needsPerson) (Yc := zX3_needsPerson) (rest := []) [vI k] (ct_X3_needsPerson_e (T := T)) cl_X3_75 (qd_c (by decide +kernel)) (nn_ _) rfl (rf_of rfl) (Nat.le_of_ble_eq_true rfl) (Nat.le_of_ble_eq_true rfl) (Nat.le_of_ble_eq_true rfl) rfl ?_
        rintro _ _ ⟨rfl, x7, rfl, hx7⟩
        show J_ zX3_brokenLaw T (po_X3_brokenLaw_e T p ru k s q o) 0 0 36 _ [vI x7] T
        refine j_blx (F := fX3) tb_X3 (nn_ _) bk_X3_brokenLaw_e_36 bs_X3_brokenLaw_e_36 hz (fun K hK => ?_)
        refine And.intro (fun c8 => ?_) (fun c8 => ?_)
        · replace hx7 := hx7.resolve_left (fun z => absurd (c8.symm.trans z.1) (by decide))
          clear c8
          have N1 : Unit → ¬ ((k = 5 ∨ (ru 0 = 0 ∧ k ≠ 0)) ∧ fp9_ (rs9_ T p) s q = -1) := by
            rw [← hr0]
            exact fun _ z => hx7.2 z.1
          clear hx7
          refine hK 51 _ [] T ?_
          refine j_blx (F := fX3) tb_X3 (nn_ _) bk_X3_brokenLaw_e_51 bs_X3_brokenLaw_e_51 hz (fun K hK => ?_)
          refine And.intro (fun c9 => ?_) (fun c9 => ?_)
          · refine hK 88 _ [] T ?_
            refine j_blx (F := fX3) tb_X3 (nn_ _) bk_X3_brokenLaw_e_88 bs_X3_brokenLaw_e_88 hz (fun K hK => ?_)
            refine hK 92 _ [vI o, vI k, vR 103 p] T ?_
            refine j_callV (y := yX3_isBounded) (Yc := zX3_isBounded) (rest := []) [vI k, vI o] (ct_X3_isBounded_e (T := T)) cl_X3_86 (qd_c (by decide +kernel)) (nn_ _) rfl (rf_of rfl) (Nat.le_of_ble_eq_true rfl) (Nat.le_of_ble_eq_true rfl) (Nat.le_of_ble_eq_true rfl) rfl ?_
            rintro _ _ ⟨rfl, x10, rfl, hx10⟩
            show J_ zX3_brokenLaw T (po_X3_brokenLaw_e T p ru k s q o) 0 0 95 _ [vI x10] T
            refine j_blx (F := fX3) tb_X3 (nn_ _) bk_X3_brokenLaw_e_95 bs_X3_brokenLaw_e_95 hz (fun K hK => ?_)
            refine And.intro (fun c11 => ?_) (fun c11 => ?_)
            · replace hx10 := hx10.resolve_left (fun z => absurd (c11.symm.trans z.1) (by decide))
              clear c11
              refine hK 102 _ [] T ?_
              refine j_blx (F := fX3) tb_X3 (nn_ _) bk_X3_brokenLaw_e_102 bs_X3_brokenLaw_e_102 hz (fun K hK => ?_)
              refine (show po_X3_brokenLaw_e T p ru k s q o T (some (vI 7)) from ?_)
              exact ⟨rfl, _, rfl, ⟨by decide, by decide, fun z => absurd z (by decide)⟩, (lw9__10 (r := ru) (a := (rs9_ T p)) (k := k) (s := s) (q := q) (o := o) (show ¬ (T 103 p 3 ≠ 0) by omega) (F1 ()) (A1 ()) (N1 ()) (show ¬ (k = 5) by omega) (show ¬ (ru 0 ≠ 3 ∨ k ≠ 1 ∨ (1 ≤ o ∧ o ≤ 4)) by rw [← hr0]; exact hx10.2)).symm⟩
            · replace hx10 := hx10.resolve_right (fun z => c11 z.1)
              clear c11
              refine hK 104 _ [vI 0] T ?_
              refine j_blx (F := fX3) tb_X3 (nn_ _) bk_X3_brokenLaw_e_104 bs_X3_brokenLaw_e_104 hz (fun K hK => ?_)
              refine (show po_X3_brokenLaw_e T p ru k s q o T (some (vI 0)) from ?_)
              exact ⟨rfl, _, rfl, ⟨by decide, by decide, fun _ => F0 ()⟩, (lw9__9 (r := ru) (a := (rs9_ T p)) (k := k) (s := s) (q := q) (o := o) (show ¬ (T 103 p 3 ≠ 0) by omega) (F1 ()) (A1 ()) (N1 ()) (show ¬ (k = 5) by omega) (show ru 0 ≠ 3 ∨ k ≠ 1 ∨ (1 ≤ o ∧ o ≤ 4) by rw [← hr0]; exact hx10.2)).symm⟩
          · refine hK 60 _ [vI o, vI s, vR 103 p] T ?_
            refine j_callV (y := yX3_benchPlace) (Yc := zX3_benchPlace) (rest := []) [vI s, vI o] (ct_X3_benchPlace_e (T := T) (by omega)) cl_X3_83 (qd_c (by decide +kernel)) (nn_ _) rfl (rf_of rfl) (Nat.le_of_ble_eq_true rfl) (Nat.le_of_ble_eq_true rfl) (Nat.le_of_ble_eq_true rfl) rfl ?_
            rintro _ _ ⟨rfl, rfl⟩
            have n12 : bq9_ (rs9_ T p) s o = -1 ∨ (s * 10 ≤ bq9_ (rs9_ T p) s o ∧ bq9_ (rs9_ T p) s o < s * 10 + T 449 p s ∧ T 448 p (bq9_ (rs9_ T p) s o) = o ∧ T 472 p (bq9_ (rs9_ T p) s o) = 0) := bq9_b
            show J_ zX3_brokenLaw T (po_X3_brokenLaw_e T p ru k s q o) 0 0 63 _ [vI (bq9_ (rs9_ T p) s o)] T
            refine j_blx (F := fX3) tb_X3 (nn_ _) bk_X3_brokenLaw_e_63 bs_X3_brokenLaw_e_63 hz (fun K hK => ?_)
            refine And.intro (fun c13 => ?_) (fun c13 => ?_)
            · refine hK 69 _ [] T ?_
              refine j_blx (F := fX3) tb_X3 (nn_ _) bk_X3_brokenLaw_e_69 bs_X3_brokenLaw_e_69 hz (fun K hK => ?_)
              refine ix_i (by omega) ?_
              intro b14 b14b
              refine ix_i (by omega) ?_
              intro b16 b16b
              refine And.intro (fun c17 => ?_) (fun c17 => ?_)
              · refine hK 88 _ [] T ?_
                refine j_blx (F := fX3) tb_X3 (nn_ _) bk_X3_brokenLaw_e_88 bs_X3_brokenLaw_e_88 hz (fun K hK => ?_)
                refine hK 92 _ [vI o, vI k, vR 103 p] T ?_
                refine j_callV (y := yX3_isBounded) (Yc := zX3_isBounded) (rest := []) [vI k, vI o] (ct_X3_isBounded_e (T := T)) cl_X3_86 (qd_c (by decide +kernel)) (nn_ _) rfl (rf_of rfl) (Nat.le_of_ble_eq_true rfl) (Nat.le_of_ble_eq_true rfl) (Nat.le_of_ble_eq_true rfl) rfl ?_
                rintro _ _ ⟨rfl, x18, rfl, hx18⟩
                show J_ zX3_brokenLaw T (po_X3_brokenLaw_e T p ru k s q o) 0 0 95 _ [vI x18] T
                refine j_blx (F := fX3) tb_X3 (nn_ _) bk_X3_brokenLaw_e_95 bs_X3_brokenLaw_e_95 hz (fun K hK => ?_)
                refine And.intro (fun c19 => ?_) (fun c19 => ?_)
                · replace hx18 := hx18.resolve_left (fun z => absurd (c19.symm.trans z.1) (by decide))
                  clear c19
                  refine hK 102 _ [] T ?_
                  refine j_blx (F := fX3) tb_X3 (nn_ _) bk_X3_brokenLaw_e_102 bs_X3_brokenLaw_e_102 hz (fun K hK => ?_)
                  refine (show po_X3_brokenLaw_e T p ru k s q o T (some (vI 7)) from ?_)
                  exact ⟨rfl, _, rfl, ⟨by decide, by decide, fun z => absurd z (by decide)⟩, (lw9__8 (r := ru) (a := (rs9_ T p)) (k := k) (s := s) (q := q) (o := o) (show ¬ (T 103 p 3 ≠ 0) by omega) (F1 ()) (A1 ()) (N1 ()) (show k = 5 by omega) (show ¬ (bq9_ (rs9_ T p) s o = -1) by omega) (show ¬ (ru 10 ≤ T 469 p s) by omega) (show ¬ (ru 0 ≠ 3 ∨ k ≠ 1 ∨ (1 ≤ o ∧ o ≤ 4)) by rw [← hr0]; exact hx18.2)).symm⟩
                · replace hx18 := hx18.resolve_right (fun z => c19 z.1)
                  clear c19
                  refine hK 104 _ [vI 0] T ?_
                  refine j_blx (F := fX3) tb_X3 (nn_ _) bk_X3_brokenLaw_e_104 bs_X3_brokenLaw_e_104 hz (fun K hK => ?_)
                  refine (show po_X3_brokenLaw_e T p ru k s q o T (some (vI 0)) from ?_)
                  exact ⟨rfl, _, rfl, ⟨by decide, by decide, fun _ => F0 ()⟩, (lw9__7 (r := ru) (a := (rs9_ T p)) (k := k) (s := s) (q := q) (o := o) (show ¬ (T 103 p 3 ≠ 0) by omega) (F1 ()) (A1 ()) (N1 ()) (show k = 5 by omega) (show ¬ (bq9_ (rs9_ T p) s o = -1) by omega) (show ¬ (ru 10 ≤ T 469 p s) by omega) (show ru 0 ≠ 3 ∨ k ≠ 1 ∨ (1 ≤ o ∧ o ≤ 4) by rw [← hr0]; exact hx18.2)).symm⟩
              · refine (show po_X3_brokenLaw_e T p ru k s q o T (some (vI 6)) from ?_)
                exact ⟨rfl, _, rfl, ⟨by decide, by decide, fun z => absurd z (by decide)⟩, (lw9__6 (r := ru) (a := (rs9_ T p)) (k := k) (s := s) (q := q) (o := o) (show ¬ (T 103 p 3 ≠ 0) by omega) (F1 ()) (A1 ()) (N1 ()) (show k = 5 by omega) (show ¬ (bq9_ (rs9_ T p) s o = -1) by omega) (show ru 10 ≤ T 469 p s by omega)).symm⟩
            · refine (show po_X3_brokenLaw_e T p ru k s q o T (some (vI 5)) from ?_)
              exact ⟨rfl, _, rfl, ⟨by decide, by decide, fun z => absurd z (by decide)⟩, (lw9__5 (r := ru) (a := (rs9_ T p)) (k := k) (s := s) (q := q) (o := o) (show ¬ (T 103 p 3 ≠ 0) by omega) (F1 ()) (A1 ()) (N1 ()) (show k = 5 by omega) (show bq9_ (rs9_ T p) s o = -1 by omega)).symm⟩
        · replace hx7 := hx7.resolve_right (fun z => c8 z.1)
          clear c8
          have S2 : 0 ≤ s ∧ s ≤ 1 := S1.resolve_left (by clear S1; have := hx7.2; omega)
          clear S1
          have P1 := fun (_ : Unit) => hx7.2
          clear hx7
          refine hK 42 _ [vI q, vI s, vR 103 p] T ?_
          refine j_callV (y := yX3_fieldPlace) (Yc := zX3_fieldPlace) (rest := []) [vI s, vI q] (ct_X3_fieldPlace_e (T := T) (by omega)) cl_X3_79 (qd_c (by decide +kernel)) (nn_ _) rfl (rf_of rfl) (Nat.le_of_ble_eq_true rfl) (Nat.le_of_ble_eq_true rfl) (Nat.le_of_ble_eq_true rfl) rfl ?_
          rintro _ _ ⟨rfl, rfl⟩
          have n20 : fp9_ (rs9_ T p) s q = -1 ∨ (0 ≤ fp9_ (rs9_ T p) s q ∧ fp9_ (rs9_ T p) s q < T 470 p s ∧ T 448 p (T 471 p (s * 6 + fp9_ (rs9_ T p) s q)) = q) := fp9_b
          show J_ zX3_brokenLaw T (po_X3_brokenLaw_e T p ru k s q o) 0 0 45 _ [vI (fp9_ (rs9_ T p) s q)] T
          refine j_blx (F := fX3) tb_X3 (nn_ _) bk_X3_brokenLaw_e_45 bs_X3_brokenLaw_e_45 hz (fun K hK => ?_)
          refine And.intro (fun c21 => ?_) (fun c21 => ?_)
          · have N1 : Unit → ¬ ((k = 5 ∨ (ru 0 = 0 ∧ k ≠ 0)) ∧ fp9_ (rs9_ T p) s q = -1) := fun _ z => absurd z.2 (by omega)
            clear n20
            refine hK 51 _ [] T ?_
            refine j_blx (F := fX3) tb_X3 (nn_ _) bk_X3_brokenLaw_e_51 bs_X3_brokenLaw_e_51 hz (fun K hK => ?_)
            refine And.intro (fun c22 => ?_) (fun c22 => ?_)
            · refine hK 88 _ [] T ?_
              refine j_blx (F := fX3) tb_X3 (nn_ _) bk_X3_brokenLaw_e_88 bs_X3_brokenLaw_e_88 hz (fun K hK => ?_)
              refine hK 92 _ [vI o, vI k, vR 103 p] T ?_
              refine j_callV (y := yX3_isBounded) (Yc := zX3_isBounded) (rest := []) [vI k, vI o] (ct_X3_isBounded_e (T := T)) cl_X3_86 (qd_c (by decide +kernel)) (nn_ _) rfl (rf_of rfl) (Nat.le_of_ble_eq_true rfl) (Nat.le_of_ble_eq_true rfl) (Nat.le_of_ble_eq_true rfl) rfl ?_
              rintro _ _ ⟨rfl, x23, rfl, hx23⟩
              show J_ zX3_brokenLaw T (po_X3_brokenLaw_e T p ru k s q o) 0 0 95 _ [vI x23] T
              refine j_blx (F := fX3) tb_X3 (nn_ _) bk_X3_brokenLaw_e_95 bs_X3_brokenLaw_e_95 hz (fun K hK => ?_)
              refine And.intro (fun c24 => ?_) (fun c24 => ?_)
              · replace hx23 := hx23.resolve_left (fun z => absurd (c24.symm.trans z.1) (by decide))
                clear c24
                refine hK 102 _ [] T ?_
                refine j_blx (F := fX3) tb_X3 (nn_ _) bk_X3_brokenLaw_e_102 bs_X3_brokenLaw_e_102 hz (fun K hK => ?_)
                refine (show po_X3_brokenLaw_e T p ru k s q o T (some (vI 7)) from ?_)
                have P2 := P1 ()
                exact ⟨rfl, _, rfl, ⟨by decide, by decide, fun z => absurd z (by decide)⟩, (lw9__8 (r := ru) (a := (rs9_ T p)) (k := k) (s := s) (q := q) (o := o) (show ¬ (T 103 p 3 ≠ 0) by omega) (F1 ()) (A1 ()) (N1 ()) (show k = 5 by omega) (show ¬ (bq9_ (rs9_ T p) s o = -1) by omega) (show ¬ (ru 10 ≤ T 469 p s) by omega) (show ¬ (ru 0 ≠ 3 ∨ k ≠ 1 ∨ (1 ≤ o ∧ o ≤ 4)) by rw [← hr0]; exact hx23.2)).symm⟩
              · replace hx23 := hx23.resolve_right (fun z => c24 z.1)
                clear c24
                refine hK 104 _ [vI 0] T ?_
                refine j_blx (F := fX3) tb_X3 (nn_ _) bk_X3_brokenLaw_e_104 bs_X3_brokenLaw_e_104 hz (fun K hK => ?_)
                refine (show po_X3_brokenLaw_e T p ru k s q o T (some (vI 0)) from ?_)
                exact ⟨rfl, _, rfl, ⟨by decide, by decide, fun _ => F0 ()⟩, (lw9__9 (r := ru) (a := (rs9_ T p)) (k := k) (s := s) (q := q) (o := o) (show ¬ (T 103 p 3 ≠ 0) by omega) (F1 ()) (A1 ()) (N1 ()) (show ¬ (k = 5) by omega) (show ru 0 ≠ 3 ∨ k ≠ 1 ∨ (1 ≤ o ∧ o ≤ 4) by rw [← hr0]; exact hx23.2)).symm⟩
            · refine hK 60 _ [vI o, vI s, vR 103 p] T ?_
              refine j_callV (y := yX3_benchPlace) (Yc := zX3_benchPlace) (rest := []) [vI s, vI o] (ct_X3_benchPlace_e (T := T) (by omega)) cl_X3_83 (qd_c (by decide +kernel)) (nn_ _) rfl (rf_of rfl) (Nat.le_of_ble_eq_true rfl) (Nat.le_of_ble_eq_true rfl) (Nat.le_of_ble_eq_true rfl) rfl ?_
              rintro _ _ ⟨rfl, rfl⟩
              have n25 : bq9_ (rs9_ T p) s o = -1 ∨ (s * 10 ≤ bq9_ (rs9_ T p) s o ∧ bq9_ (rs9_ T p) s o < s * 10 + T 449 p s ∧ T 448 p (bq9_ (rs9_ T p) s o) = o ∧ T 472 p (bq9_ (rs9_ T p) s o) = 0) := bq9_b
              show J_ zX3_brokenLaw T (po_X3_brokenLaw_e T p ru k s q o) 0 0 63 _ [vI (bq9_ (rs9_ T p) s o)] T
              refine j_blx (F := fX3) tb_X3 (nn_ _) bk_X3_brokenLaw_e_63 bs_X3_brokenLaw_e_63 hz (fun K hK => ?_)
              refine And.intro (fun c26 => ?_) (fun c26 => ?_)
              · refine hK 69 _ [] T ?_
                refine j_blx (F := fX3) tb_X3 (nn_ _) bk_X3_brokenLaw_e_69 bs_X3_brokenLaw_e_69 hz (fun K hK => ?_)
                refine ix_i (by omega) ?_
                intro b27 b27b
                refine ix_i (by omega) ?_
                intro b29 b29b
                refine And.intro (fun c30 => ?_) (fun c30 => ?_)
                · refine hK 88 _ [] T ?_
                  refine j_blx (F := fX3) tb_X3 (nn_ _) bk_X3_brokenLaw_e_88 bs_X3_brokenLaw_e_88 hz (fun K hK => ?_)
                  refine hK 92 _ [vI o, vI k, vR 103 p] T ?_
                  refine j_callV (y := yX3_isBounded) (Yc := zX3_isBounded) (rest := []) [vI k, vI o] (ct_X3_isBounded_e (T := T)) cl_X3_86 (qd_c (by decide +kernel)) (nn_ _) rfl (rf_of rfl) (Nat.le_of_ble_eq_true rfl) (Nat.le_of_ble_eq_true rfl) (Nat.le_of_ble_eq_true rfl) rfl ?_
                  rintro _ _ ⟨rfl, x31, rfl, hx31⟩
                  show J_ zX3_brokenLaw T (po_X3_brokenLaw_e T p ru k s q o) 0 0 95 _ [vI x31] T
                  refine j_blx (F := fX3) tb_X3 (nn_ _) bk_X3_brokenLaw_e_95 bs_X3_brokenLaw_e_95 hz (fun K hK => ?_)
                  refine And.intro (fun c32 => ?_) (fun c32 => ?_)
                  · replace hx31 := hx31.resolve_left (fun z => absurd (c32.symm.trans z.1) (by decide))
                    clear c32
                    refine hK 102 _ [] T ?_
                    refine j_blx (F := fX3) tb_X3 (nn_ _) bk_X3_brokenLaw_e_102 bs_X3_brokenLaw_e_102 hz (fun K hK => ?_)
                    refine (show po_X3_brokenLaw_e T p ru k s q o T (some (vI 7)) from ?_)
                    exact ⟨rfl, _, rfl, ⟨by decide, by decide, fun z => absurd z (by decide)⟩, (lw9__8 (r := ru) (a := (rs9_ T p)) (k := k) (s := s) (q := q) (o := o) (show ¬ (T 103 p 3 ≠ 0) by omega) (F1 ()) (A1 ()) (N1 ()) (show k = 5 by omega) (show ¬ (bq9_ (rs9_ T p) s o = -1) by omega) (show ¬ (ru 10 ≤ T 469 p s) by omega) (show ¬ (ru 0 ≠ 3 ∨ k ≠ 1 ∨ (1 ≤ o ∧ o ≤ 4)) by rw [← hr0]; exact hx31.2)).symm⟩
                  · replace hx31 := hx31.resolve_right (fun z => c32 z.1)
                    clear c32
                    refine hK 104 _ [vI 0] T ?_
                    refine j_blx (F := fX3) tb_X3 (nn_ _) bk_X3_brokenLaw_e_104 bs_X3_brokenLaw_e_104 hz (fun K hK => ?_)
                    refine (show po_X3_brokenLaw_e T p ru k s q o T (some (vI 0)) from ?_)
                    exact ⟨rfl, _, rfl, ⟨by decide, by decide, fun _ => F0 ()⟩, (lw9__7 (r := ru) (a := (rs9_ T p)) (k := k) (s := s) (q := q) (o := o) (show ¬ (T 103 p 3 ≠ 0) by omega) (F1 ()) (A1 ()) (N1 ()) (show k = 5 by omega) (show ¬ (bq9_ (rs9_ T p) s o = -1) by omega) (show ¬ (ru 10 ≤ T 469 p s) by omega) (show ru 0 ≠ 3 ∨ k ≠ 1 ∨ (1 ≤ o ∧ o ≤ 4) by rw [← hr0]; exact hx31.2)).symm⟩
                · refine (show po_X3_brokenLaw_e T p ru k s q o T (some (vI 6)) from ?_)
                  exact ⟨rfl, _, rfl, ⟨by decide, by decide, fun z => absurd z (by decide)⟩, (lw9__6 (r := ru) (a := (rs9_ T p)) (k := k) (s := s) (q := q) (o := o) (show ¬ (T 103 p 3 ≠ 0) by omega) (F1 ()) (A1 ()) (N1 ()) (show k = 5 by omega) (show ¬ (bq9_ (rs9_ T p) s o = -1) by omega) (show ru 10 ≤ T 469 p s by omega)).symm⟩
              · refine (show po_X3_brokenLaw_e T p ru k s q o T (some (vI 5)) from ?_)
                exact ⟨rfl, _, rfl, ⟨by decide, by decide, fun z => absurd z (by decide)⟩, (lw9__5 (r := ru) (a := (rs9_ T p)) (k := k) (s := s) (q := q) (o := o) (show ¬ (T 103 p 3 ≠ 0) by omega) (F1 ()) (A1 ()) (N1 ()) (show k = 5 by omega) (show bq9_ (rs9_ T p) s o = -1 by omega)).symm⟩
          · refine (show po_X3_brokenLaw_e T p ru k s q o T (some (vI 4)) from ?_)
            exact ⟨rfl, _, rfl, ⟨by decide, by decide, fun z => absurd z (by decide)⟩, (lw9__4 (r := ru) (a := (rs9_ T p)) (k := k) (s := s) (q := q) (o := o) (show ¬ (T 103 p 3 ≠ 0) by omega) (F1 ()) (A1 ()) ⟨by rw [← hr0]; exact P1 (), by omega⟩).symm⟩
      · replace hx5 := hx5.resolve_left (fun z => absurd (c6.symm.trans z.1) (by decide))
        clear c6
        refine (show po_X3_brokenLaw_e T p ru k s q o T (some (vI 3)) from ?_)
        exact ⟨rfl, _, rfl, ⟨by decide, by decide, fun z => absurd z (by decide)⟩, (lw9__3 (r := ru) (a := (rs9_ T p)) (k := k) (s := s) (q := q) (o := o) (show ¬ (T 103 p 3 ≠ 0) by omega) (F1 ()) (show ¬ ((ru 0 = 0 ∧ (T 103 p 4 ≠ 1 ∨ (k ≠ 1 ∧ k ≠ 2))) ∨ (ru 0 ≠ 0 ∧ (ru 0 ≠ 3 ∨ s = T 103 p 5))) by rw [← hr0]; exact hx5.2)).symm⟩
    · replace hx3 := hx3.resolve_left (fun z => absurd (c4.symm.trans z.1) (by decide))
      clear c4
      refine (show po_X3_brokenLaw_e T p ru k s q o T (some (vI 2)) from ?_)
      exact ⟨rfl, _, rfl, ⟨by decide, by decide, fun z => absurd z (by decide)⟩, (lw9__2 (r := ru) (a := (rs9_ T p)) (k := k) (s := s) (q := q) (o := o) (show ¬ (T 103 p 3 ≠ 0) by omega) (show ¬ ((k = 0 ∨ (0 ≤ s ∧ s ≤ 1)) ∧ ((ru 0 = 0 ∧ 0 ≤ k ∧ k ≤ 5) ∨ (ru 0 = 1 ∧ (k = 1 ∨ k = 5)) ∨ (ru 0 = 2 ∧ (k = 1 ∨ k = 6)) ∨ (¬ ru 0 = 0 ∧ ¬ ru 0 = 1 ∧ ¬ ru 0 = 2 ∧ 1 ≤ k ∧ k ≤ 4))) by rw [← hr0]; exact hx3.2)).symm⟩
  · refine (show po_X3_brokenLaw_e T p ru k s q o T (some (vI 1)) from ?_)
    exact ⟨rfl, _, rfl, ⟨by decide, by decide, fun z => absurd z (by decide)⟩, (lw9__1 (r := ru) (a := (rs9_ T p)) (k := k) (s := s) (q := q) (o := o) (show T 103 p 3 ≠ 0 by omega)).symm⟩
theorem bk_X3_closeGap_e_4 : ck_ fX3 none cX3_closeGap 4 [.iload 3, .aload 0, .tableswitch 0 3 10 #[], .iload 1, .iaload, .if_icmp .ge 44, .aload 0, .tableswitch 0 3 11 #[], .iload 1, .iconst 6, .imul, .iload 3, .iadd, .iconst 1, .isub, .aload 0, .tableswitch 0 3 11 #[], .iload 1, .iconst 6, .imul, .iload 3, .iadd, .iaload, .iastore, .iinc 3 1, .goto 4] 44 = true := qck_r (nn_ _) (by decide +kernel)
theorem bs_X3_closeGap_e_4 {P : Zt → Option Zv → Prop} (K : Int → Zl → List Zv → Zt → Prop) : sx_ K P [.iload 3, .aload 0, .tableswitch 0 3 10 #[], .iload 1, .iaload, .if_icmp .ge 44, .aload 0, .tableswitch 0 3 11 #[], .iload 1, .iconst 6, .imul, .iload 3, .iadd, .iconst 1, .isub, .aload 0, .tableswitch 0 3 11 #[], .iload 1, .iconst 6, .imul, .iload 3, .iadd, .iaload, .iastore, .iinc 3 1, .goto 4] 44 = x_iload 3 (x_aload 0 (x_g2 103 470 (x_iload 1 (x_iaload (x_if_icmp .ge 44 K (x_aload 0 (x_g2 103 471 (x_iload 1 (x_iconst 6 (x_imul (x_iload 3 (x_iadd (x_iconst 1 (x_isub (x_aload 0 (x_g2 103 471 (x_iload 1 (x_iconst 6 (x_imul (x_iload 3 (x_iadd (x_iaload (x_iastore (x_iinc 3 1 (x_goto 4 K))))))))))))))))))))))))) := ((xe_iload 3).trans (congrArg (x_iload 3) ((xe_aload 0).trans (congrArg (x_aload 0) ((xe_g2 (kk := 103) rfl tl_3_10).trans (congrArg (x_g2 103 470) ((xe_iload 1).trans (congrArg (x_iload 1) ((xe_iaload).trans (congrArg (x_iaload) ((xe_if_icmp .ge 44).trans (congrArg (x_if_icmp .ge 44 K) ((xe_aload 0).trans (congrArg (x_aload 0) ((xe_g2 (kk := 103) rfl tl_3_11).trans (congrArg (x_g2 103 471) ((xe_iload 1).trans (congrArg (x_iload 1) ((xe_iconst 6).trans (congrArg (x_iconst 6) ((xe_imul).trans (congrArg (x_imul) ((xe_iload 3).trans (congrArg (x_iload 3) ((xe_iadd).trans (congrArg (x_iadd) ((xe_iconst 1).trans (congrArg (x_iconst 1) ((xe_isub).trans (congrArg (x_isub) ((xe_aload 0).trans (congrArg (x_aload 0) ((xe_g2 (kk := 103) rfl tl_3_11).trans (congrArg (x_g2 103 471) ((xe_iload 1).trans (congrArg (x_iload 1) ((xe_iconst 6).trans (congrArg (x_iconst 6) ((xe_imul).trans (congrArg (x_imul) ((xe_iload 3).trans (congrArg (x_iload 3) ((xe_iadd).trans (congrArg (x_iadd) ((xe_iaload).trans (congrArg (x_iaload) ((xe_iastore).trans (congrArg (x_iastore) ((xe_iinc 3 1).trans (congrArg (x_iinc 3 1) (xe_goto 4)))))))))))))))))))))))))))))))))))))))))))))))))))
theorem bk_X3_closeGap_e_44 : ck_ fX3 none cX3_closeGap 44 [.return_] 45 = true := qck_r (nn_ _) (by decide +kernel)
theorem bs_X3_closeGap_e_44 {P : Zt → Option Zv → Prop} (K : Int → Zl → List Zv → Zt → Prop) : sx_ K P [.return_] 45 = x_return_ P := (xe_return_)
theorem bk_X3_closeGap_e_0 : ck_ fX3 none cX3_closeGap 0 [.iload 2, .iconst 1, .iadd, .istore 3] 4 = true := qck_r (nn_ _) (by decide +kernel)
theorem bs_X3_closeGap_e_0 {P : Zt → Option Zv → Prop} (K : Int → Zl → List Zv → Zt → Prop) : sx_ K P [.iload 2, .iconst 1, .iadd, .istore 3] 4 = x_iload 2 (x_iconst 1 (x_iadd (x_istore 3 (K 4)))) := ((xe_iload 2).trans (congrArg (x_iload 2) ((xe_iconst 1).trans (congrArg (x_iconst 1) ((xe_iadd).trans (congrArg (x_iadd) ((xe_istore 3).trans (congrArg (x_istore 3) xe_nil))))))))
abbrev po_X3_closeGap_e (T : Zt) (p : Int) (ru : Int → Int) (s k : Int) : Zt → Option Zv → Prop := fun T' r => r = none ∧ fr_ [(471, [])] T T' ∧ (oi_ T T' p ∧ (0 = (0 : Int)) ∧ rs9_ T' p = cg9_ (rs9_ T p) s k)
set_option maxHeartbeats 4000000 in
theorem ct_X3_closeGap_e {T : Zt} {p : Int} {ru : Int → Int} {s k : Int} (hr : RLP_ T p ru) (hs : 0 ≤ s ∧ s ≤ 1) (h1 : 0 ≤ k ∧ k < 6) : Ct_ yX3_closeGap zX3_closeGap T [vR 103 p, vI s, vI k] (po_X3_closeGap_e T p ru s k) := by
  refine ct_of pn_3 rfl rfl (Nat.le_of_ble_eq_true rfl) (fun hT hav => ?_)
  have hr_s : -2147483648 ≤ s ∧ s ≤ 2147483647 := hav (vI s) (List.mem_cons_of_mem _ List.mem_cons_self)
  have hr_k : -2147483648 ≤ k ∧ k ≤ 2147483647 := hav (vI k) (List.mem_cons_of_mem _ (List.mem_cons_of_mem _ List.mem_cons_self))
  have hz : zX3_closeGap.2.2.2.1 = some .boolean → ∀ (T' : Zt) (x : Int), po_X3_closeGap_e T p ru s k T' (some (vI x)) → 0 ≤ x ∧ x ≤ 1 := fun h => by cases h
  have hfd : 0 ≤ T 470 p s ∧ T 470 p s ≤ 6 := bd_a hT 470 (by decide +kernel : ta_ 470 = some (1, some 2, 0, 6)) p (by omega)
  show J_ zX3_closeGap T (po_X3_closeGap_e T p ru s k) 0 0 0 [some (vR 103 p), some (vI s), some (vI k), none] [] T
  have c_4 : ∀ (nn : Nat) (j : Int) (T1 : Zt), ((7 - j).toNat) ≤ nn → (fr_ [(471, [])] T T1) → (k + 1 ≤ j ∧ j ≤ 7 ∧ (j = k + 1 ∨ j ≤ T 470 p s)) → (oi_ T T1 p) → (rs9_ T1 p = cgp_ (rs9_ T p) s k j) → J_ zX3_closeGap T (po_X3_closeGap_e T p ru s k) 0 0 4 [some (vR 103 p), some (vI s), some (vI k), some (vI j)] [] T1 := by
    intro nn
    induction nn using Nat.strongRecOn with
    | _ nn ih_4 =>
      intro j T1 hm_4 hf_4 i1 o1 rc
      replace hm_4 := fun (_ : Unit) => hm_4
      refine j_blx (F := fX3) tb_X3 (nn_ _) bk_X3_closeGap_e_4 bs_X3_closeGap_e_4 hz (fun K hK => ?_)
      refine ix_i (by omega) ?_
      intro b1 b1b
      have e2 : T1 470 p s = T 470 p s := hf_4 470 p s rfl
      rw [e2] at b1 b1b ⊢
      refine And.intro (fun c3 => ?_) (fun c3 => ?_)
      · refine hK 44 _ [] T1 ?_
        refine j_blx (F := fX3) tb_X3 (nn_ _) bk_X3_closeGap_e_44 bs_X3_closeGap_e_44 hz (fun K hK => ?_)
        refine (show po_X3_closeGap_e T p ru s k T1 (none) from ?_)
        exact ⟨rfl, fr_t (fr_0 _ _) (fr_s hf_4 rfl), o1, by rfl, rc.trans (cgp_e (a := rs9_ T p) (show T 470 p s ≤ j by omega) (show j = k + 1 ∨ j ≤ T 470 p s by omega))⟩
      · refine rg_i (by omega) ?_
        refine rg_i (by omega) ?_
        refine rg_i (by omega) ?_
        refine rg_i (by omega) ?_
        refine rg_i (by omega) ?_
        refine ix_i (by omega) ?_
        intro b4 b4b
        refine iy_i (by omega) (by omega) ?_
        refine x_nm (fun U5 hU5 => ?_)
        have e6 := up_f hU5
        refine rg_i (by omega) ?_
        refine hK 4 [some (vR 103 p), some (vI s), some (vI k), some (vI (j + 1))] [] U5 ?_
        refine ih_4 _ ?_ (j + 1) U5 (Nat.le_refl _) ?_ ?_ ?_ ?_
        · have hm_4 := hm_4 (); omega
        · exact fr_u (fr_t (fr_0 _ _) (fr_s hf_4 rfl)) hU5 rfl
        · omega
        · exact oi_u (o1) hU5
        · have e8 : T1 471 p (s * 6 + j) = T 471 p (s * 6 + j) := by
            have e7 := congrFun (congrFun rc 471) (s * 6 + j)
            exact e7.trans (cgp_g (a := rs9_ T p) (by omega))
          rw [rs_u hU5 rfl, rc, e8]
          exact cgp_s (a := rs9_ T p) (by omega)
  refine j_blx (F := fX3) tb_X3 (nn_ _) bk_X3_closeGap_e_0 bs_X3_closeGap_e_0 hz (fun K hK => ?_)
  refine rg_i (by omega) ?_
  refine hK 4 [some (vR 103 p), some (vI s), some (vI k), some (vI (k + 1))] [] T ?_
  refine c_4 _ (k + 1) T (Nat.le_refl _) ?_ ?_ ?_ ?_
  · exact fr_0 _ _
  · omega
  · exact oi_r
  · exact cgp_0.symm
theorem bk_X3_rotate_e_0 : ck_ fX3 none cX3_rotate 0 [.aload 0, .tableswitch 0 3 11 #[], .iload 1, .iconst 6, .imul, .iaload, .istore 2, .aload 0, .iload 1, .iconst 0] 13 = true := qck_r (nn_ _) (by decide +kernel)
theorem bs_X3_rotate_e_0 {P : Zt → Option Zv → Prop} (K : Int → Zl → List Zv → Zt → Prop) : sx_ K P [.aload 0, .tableswitch 0 3 11 #[], .iload 1, .iconst 6, .imul, .iaload, .istore 2, .aload 0, .iload 1, .iconst 0] 13 = x_aload 0 (x_g2 103 471 (x_iload 1 (x_iconst 6 (x_imul (x_iaload (x_istore 2 (x_aload 0 (x_iload 1 (x_iconst 0 (K 13)))))))))) := ((xe_aload 0).trans (congrArg (x_aload 0) ((xe_g2 (kk := 103) rfl tl_3_11).trans (congrArg (x_g2 103 471) ((xe_iload 1).trans (congrArg (x_iload 1) ((xe_iconst 6).trans (congrArg (x_iconst 6) ((xe_imul).trans (congrArg (x_imul) ((xe_iaload).trans (congrArg (x_iaload) ((xe_istore 2).trans (congrArg (x_istore 2) ((xe_aload 0).trans (congrArg (x_aload 0) ((xe_iload 1).trans (congrArg (x_iload 1) ((xe_iconst 0).trans (congrArg (x_iconst 0) xe_nil))))))))))))))))))))
theorem bk_X3_rotate_e_16 : ck_ fX3 none cX3_rotate 16 [.aload 0, .tableswitch 0 3 11 #[], .iload 1, .iconst 6, .imul, .aload 0, .tableswitch 0 3 10 #[], .iload 1, .iaload, .iadd, .iconst 1, .isub, .iload 2, .iastore, .return_] 36 = true := qck_r (nn_ _) (by decide +kernel)
theorem bs_X3_rotate_e_16 {P : Zt → Option Zv → Prop} (K : Int → Zl → List Zv → Zt → Prop) : sx_ K P [.aload 0, .tableswitch 0 3 11 #[], .iload 1, .iconst 6, .imul, .aload 0, .tableswitch 0 3 10 #[], .iload 1, .iaload, .iadd, .iconst 1, .isub, .iload 2, .iastore, .return_] 36 = x_aload 0 (x_g2 103 471 (x_iload 1 (x_iconst 6 (x_imul (x_aload 0 (x_g2 103 470 (x_iload 1 (x_iaload (x_iadd (x_iconst 1 (x_isub (x_iload 2 (x_iastore (x_return_ P)))))))))))))) := ((xe_aload 0).trans (congrArg (x_aload 0) ((xe_g2 (kk := 103) rfl tl_3_11).trans (congrArg (x_g2 103 471) ((xe_iload 1).trans (congrArg (x_iload 1) ((xe_iconst 6).trans (congrArg (x_iconst 6) ((xe_imul).trans (congrArg (x_imul) ((xe_aload 0).trans (congrArg (x_aload 0) ((xe_g2 (kk := 103) rfl tl_3_10).trans (congrArg (x_g2 103 470) ((xe_iload 1).trans (congrArg (x_iload 1) ((xe_iaload).trans (congrArg (x_iaload) ((xe_iadd).trans (congrArg (x_iadd) ((xe_iconst 1).trans (congrArg (x_iconst 1) ((xe_isub).trans (congrArg (x_isub) ((xe_iload 2).trans (congrArg (x_iload 2) ((xe_iastore).trans (congrArg (x_iastore) (xe_return_)))))))))))))))))))))))))))))
abbrev po_X3_rotate_e (T : Zt) (p : Int) (ru : Int → Int) (s : Int) : Zt → Option Zv → Prop := fun T' r => r = none ∧ fr_ [(471, [])] T T' ∧ (oi_ T T' p ∧ (0 = (0 : Int)) ∧ rs9_ T' p = rt9_ (rs9_ T p) s)
set_option maxHeartbeats 4000000 in
theorem ct_X3_rotate_e {T : Zt} {p : Int} {ru : Int → Int} {s : Int} (hr : RLP_ T p ru) (hs : 0 ≤ s ∧ s ≤ 1) (h1 : 1 ≤ T 470 p s) : Ct_ yX3_rotate zX3_rotate T [vR 103 p, vI s] (po_X3_rotate_e T p ru s) := by
  refine ct_of pn_3 rfl rfl (Nat.le_of_ble_eq_true rfl) (fun hT hav => ?_)
  have hr_s : -2147483648 ≤ s ∧ s ≤ 2147483647 := hav (vI s) (List.mem_cons_of_mem _ List.mem_cons_self)
  have hz : zX3_rotate.2.2.2.1 = some .boolean → ∀ (T' : Zt) (x : Int), po_X3_rotate_e T p ru s T' (some (vI x)) → 0 ≤ x ∧ x ≤ 1 := fun h => by cases h
  have hfd : 0 ≤ T 470 p s ∧ T 470 p s ≤ 6 := bd_a hT 470 (by decide +kernel : ta_ 470 = some (1, some 2, 0, 6)) p (by omega)
  show J_ zX3_rotate T (po_X3_rotate_e T p ru s) 0 0 0 [some (vR 103 p), some (vI s), none] [] T
  refine j_blx (F := fX3) tb_X3 (nn_ _) bk_X3_rotate_e_0 bs_X3_rotate_e_0 hz (fun K hK => ?_)
  refine rg_i (by omega) ?_
  refine ix_i (by omega) ?_
  intro b1 b1b
  refine hK 13 [some (vR 103 p), some (vI s), some (vI (T 471 p (s * 6)))] [vI 0, vI s, vR 103 p] T ?_
  refine j_callV (y := yX3_closeGap) (Yc := zX3_closeGap) (rest := []) [vI s, vI 0] (ct_X3_closeGap_e (T := T) (ru := ru) (by exact hr) (by omega) (by omega)) cl_X3_119 (qd_c (by decide +kernel)) (nn_ _) rfl (rf_of rfl) (Nat.le_of_ble_eq_true rfl) (Nat.le_of_ble_eq_true rfl) (Nat.le_of_ble_eq_true rfl) rfl ?_
  rintro U2 _ ⟨rfl, fU2, qU2o, qU2, qU2e⟩
  show J_ zX3_rotate T (po_X3_rotate_e T p ru s) 0 0 16 _ [] U2
  refine j_blx (F := fX3) tb_X3 (nn_ _) bk_X3_rotate_e_16 bs_X3_rotate_e_16 hz (fun K hK => ?_)
  refine rg_i (by omega) ?_
  refine ix_i (by omega) ?_
  intro b3 b3b
  have e4 : U2 470 p s = T 470 p s := fU2 470 p s rfl
  rw [e4] at b3 b3b ⊢
  refine rg_i (by omega) ?_
  refine rg_i (by omega) ?_
  refine iy_i (by omega) (by omega) ?_
  refine x_nm (fun U5 hU5 => ?_)
  have e6 := up_f hU5
  refine (show po_X3_rotate_e T p ru s U5 (none) from ?_)
  have rU2 : rs9_ U2 p = cg9_ (rs9_ T p) s 0 := qU2e
  have rU5 : rs9_ U5 p = u2_ (cg9_ (rs9_ T p) s 0) 471 (((s * 6) + (T 470 p s)) - 1) (T 471 p (s * 6)) := by rw [rs_u hU5 rfl, rU2]
  exact ⟨rfl, fr_u (fr_t (fr_0 _ _) (fr_s fU2 rfl)) hU5 rfl, oi_u (oi_t (oi_r) qU2o) hU5, by rfl, rU5⟩
theorem bk_X3_sendOff_e_0 : ck_ fX3 none cX3_sendOff 0 [.iload 2, .iconst (-1), .if_icmp .ne 6, .return_] 6 = true := qck_r (nn_ _) (by decide +kernel)
theorem bs_X3_sendOff_e_0 {P : Zt → Option Zv → Prop} (K : Int → Zl → List Zv → Zt → Prop) : sx_ K P [.iload 2, .iconst (-1), .if_icmp .ne 6, .return_] 6 = x_iload 2 (x_iconst (-1) (x_if_icmp .ne 6 K (x_return_ P))) := ((xe_iload 2).trans (congrArg (x_iload 2) ((xe_iconst (-1)).trans (congrArg (x_iconst (-1)) ((xe_if_icmp .ne 6).trans (congrArg (x_if_icmp .ne 6 K) (xe_return_)))))))
theorem bk_X3_sendOff_e_6 : ck_ fX3 none cX3_sendOff 6 [.aload 0, .tableswitch 0 3 12 #[], .aload 0, .tableswitch 0 3 11 #[], .iload 1, .iconst 6, .imul, .iload 2, .iadd, .iaload, .iconst 3, .iastore, .aload 0, .iload 1, .iload 2] 26 = true := qck_r (nn_ _) (by decide +kernel)
theorem bs_X3_sendOff_e_6 {P : Zt → Option Zv → Prop} (K : Int → Zl → List Zv → Zt → Prop) : sx_ K P [.aload 0, .tableswitch 0 3 12 #[], .aload 0, .tableswitch 0 3 11 #[], .iload 1, .iconst 6, .imul, .iload 2, .iadd, .iaload, .iconst 3, .iastore, .aload 0, .iload 1, .iload 2] 26 = x_aload 0 (x_g2 103 472 (x_aload 0 (x_g2 103 471 (x_iload 1 (x_iconst 6 (x_imul (x_iload 2 (x_iadd (x_iaload (x_iconst 3 (x_iastore (x_aload 0 (x_iload 1 (x_iload 2 (K 26))))))))))))))) := ((xe_aload 0).trans (congrArg (x_aload 0) ((xe_g2 (kk := 103) rfl tl_3_12).trans (congrArg (x_g2 103 472) ((xe_aload 0).trans (congrArg (x_aload 0) ((xe_g2 (kk := 103) rfl tl_3_11).trans (congrArg (x_g2 103 471) ((xe_iload 1).trans (congrArg (x_iload 1) ((xe_iconst 6).trans (congrArg (x_iconst 6) ((xe_imul).trans (congrArg (x_imul) ((xe_iload 2).trans (congrArg (x_iload 2) ((xe_iadd).trans (congrArg (x_iadd) ((xe_iaload).trans (congrArg (x_iaload) ((xe_iconst 3).trans (congrArg (x_iconst 3) ((xe_iastore).trans (congrArg (x_iastore) ((xe_aload 0).trans (congrArg (x_aload 0) ((xe_iload 1).trans (congrArg (x_iload 1) ((xe_iload 2).trans (congrArg (x_iload 2) xe_nil))))))))))))))))))))))))))))))
theorem bk_X3_sendOff_e_29 : ck_ fX3 none cX3_sendOff 29 [.aload 0, .tableswitch 0 3 10 #[], .iload 1, .dup2, .iaload, .iconst 1, .isub, .iastore, .iconst 2, .aload 0, .tableswitch 0 3 10 #[], .iload 1, .iaload, .imul, .aload 0, .tableswitch 0 3 0 #[], .iconst 9, .iaload, .if_icmp .ge 84, .aload 0, .iconst 1, .tableswitch 1 3 3 #[], .aload 0, .tableswitch 0 3 8 #[], .iload 1, .iconst 0, .iastore, .aload 0, .tableswitch 0 3 8 #[], .iconst 1, .iload 1, .isub, .aload 0, .tableswitch 0 3 0 #[], .iconst 12, .iaload, .iastore, .return_] 85 = true := qck_r (nn_ _) (by decide +kernel)
theorem bs_X3_sendOff_e_29 {P : Zt → Option Zv → Prop} (K : Int → Zl → List Zv → Zt → Prop) : sx_ K P [.aload 0, .tableswitch 0 3 10 #[], .iload 1, .dup2, .iaload, .iconst 1, .isub, .iastore, .iconst 2, .aload 0, .tableswitch 0 3 10 #[], .iload 1, .iaload, .imul, .aload 0, .tableswitch 0 3 0 #[], .iconst 9, .iaload, .if_icmp .ge 84, .aload 0, .iconst 1, .tableswitch 1 3 3 #[], .aload 0, .tableswitch 0 3 8 #[], .iload 1, .iconst 0, .iastore, .aload 0, .tableswitch 0 3 8 #[], .iconst 1, .iload 1, .isub, .aload 0, .tableswitch 0 3 0 #[], .iconst 12, .iaload, .iastore, .return_] 85 = x_aload 0 (x_g2 103 470 (x_iload 1 (x_dup2 (x_iaload (x_iconst 1 (x_isub (x_iastore (x_iconst 2 (x_aload 0 (x_g2 103 470 (x_iload 1 (x_iaload (x_imul (x_aload 0 (x_g3 103 401 0 (x_iconst 9 (x_iaload (x_if_icmp .ge 84 K (x_aload 0 (x_iconst 1 (x_p 103 3 0 1 (x_aload 0 (x_g2 103 468 (x_iload 1 (x_iconst 0 (x_iastore (x_aload 0 (x_g2 103 468 (x_iconst 1 (x_iload 1 (x_isub (x_aload 0 (x_g3 103 401 0 (x_iconst 12 (x_iaload (x_iastore (x_return_ P))))))))))))))))))))))))))))))))))))) := ((xe_aload 0).trans (congrArg (x_aload 0) ((xe_g2 (kk := 103) rfl tl_3_10).trans (congrArg (x_g2 103 470) ((xe_iload 1).trans (congrArg (x_iload 1) ((xe_dup2).trans (congrArg (x_dup2) ((xe_iaload).trans (congrArg (x_iaload) ((xe_iconst 1).trans (congrArg (x_iconst 1) ((xe_isub).trans (congrArg (x_isub) ((xe_iastore).trans (congrArg (x_iastore) ((xe_iconst 2).trans (congrArg (x_iconst 2) ((xe_aload 0).trans (congrArg (x_aload 0) ((xe_g2 (kk := 103) rfl tl_3_10).trans (congrArg (x_g2 103 470) ((xe_iload 1).trans (congrArg (x_iload 1) ((xe_iaload).trans (congrArg (x_iaload) ((xe_imul).trans (congrArg (x_imul) ((xe_aload 0).trans (congrArg (x_aload 0) ((xe_g3 (kk := 103) rfl tl_3_0).trans (congrArg (x_g3 103 401 0) ((xe_iconst 9).trans (congrArg (x_iconst 9) ((xe_iaload).trans (congrArg (x_iaload) ((xe_if_icmp .ge 84).trans (congrArg (x_if_icmp .ge 84 K) ((xe_aload 0).trans (congrArg (x_aload 0) ((xe_iconst 1).trans (congrArg (x_iconst 1) ((xe_p (kk := 103) rfl tl_3_3).trans (congrArg (x_p 103 3 0 1) ((xe_aload 0).trans (congrArg (x_aload 0) ((xe_g2 (kk := 103) rfl tl_3_8).trans (congrArg (x_g2 103 468) ((xe_iload 1).trans (congrArg (x_iload 1) ((xe_iconst 0).trans (congrArg (x_iconst 0) ((xe_iastore).trans (congrArg (x_iastore) ((xe_aload 0).trans (congrArg (x_aload 0) ((xe_g2 (kk := 103) rfl tl_3_8).trans (congrArg (x_g2 103 468) ((xe_iconst 1).trans (congrArg (x_iconst 1) ((xe_iload 1).trans (congrArg (x_iload 1) ((xe_isub).trans (congrArg (x_isub) ((xe_aload 0).trans (congrArg (x_aload 0) ((xe_g3 (kk := 103) rfl tl_3_0).trans (congrArg (x_g3 103 401 0) ((xe_iconst 12).trans (congrArg (x_iconst 12) ((xe_iaload).trans (congrArg (x_iaload) ((xe_iastore).trans (congrArg (x_iastore) (xe_return_)))))))))))))))))))))))))))))))))))))))))))))))))))))))))))))))))))))))))))
theorem bk_X3_sendOff_e_84 : ck_ fX3 none cX3_sendOff 84 [.return_] 85 = true := qck_r (nn_ _) (by decide +kernel)
theorem bs_X3_sendOff_e_84 {P : Zt → Option Zv → Prop} (K : Int → Zl → List Zv → Zt → Prop) : sx_ K P [.return_] 85 = x_return_ P := (xe_return_)
abbrev po_X3_sendOff_e (T : Zt) (p : Int) (ru : Int → Int) (s k : Int) : Zt → Option Zv → Prop := fun T' r => r = none ∧ fr_ [(472, []), (471, []), (470, []), (103, [3]), (468, [])] T T' ∧ (oi_ T T' p ∧ (T' 103 p 3 = 0 → 1 ≤ T' 470 p 0 ∧ 1 ≤ T' 470 p 1) ∧ rs9_ T' p = so9_ ru (rs9_ T p) s k)
set_option maxHeartbeats 4000000 in
theorem ct_X3_sendOff_e {T : Zt} {p : Int} {ru : Int → Int} {s k : Int} (hr : RLP_ T p ru) (hs : 0 ≤ s ∧ s ≤ 1) (hk : k = -1 ∨ (0 ≤ k ∧ k < T 470 p s)) (hf : 1 ≤ T 401 (T 103 p 0) 9 ∧ T 401 (T 103 p 0) 9 ≤ 6) (hfd : 1 ≤ T 470 p 0 ∧ 1 ≤ T 470 p 1) : Ct_ yX3_sendOff zX3_sendOff T [vR 103 p, vI s, vI k] (po_X3_sendOff_e T p ru s k) := by
  refine ct_of pn_3 rfl rfl (Nat.le_of_ble_eq_true rfl) (fun hT hav => ?_)
  have hr_s : -2147483648 ≤ s ∧ s ≤ 2147483647 := hav (vI s) (List.mem_cons_of_mem _ List.mem_cons_self)
  have hr_k : -2147483648 ≤ k ∧ k ≤ 2147483647 := hav (vI k) (List.mem_cons_of_mem _ (List.mem_cons_of_mem _ List.mem_cons_self))
  have hz : zX3_sendOff.2.2.2.1 = some .boolean → ∀ (T' : Zt) (x : Int), po_X3_sendOff_e T p ru s k T' (some (vI x)) → 0 ≤ x ∧ x ≤ 1 := fun h => by cases h
  have hr0 := hr 0 (by decide) (by decide)
  have hr9 := hr 9 (by decide) (by decide)
  have hr10 := hr 10 (by decide) (by decide)
  have hr11 := hr 11 (by decide) (by decide)
  have hr12 := hr 12 (by decide) (by decide)
  have hfs : 0 ≤ T 470 p s ∧ T 470 p s ≤ 6 := bd_a hT 470 (by decide +kernel : ta_ 470 = some (1, some 2, 0, 6)) p (by omega)
  show J_ zX3_sendOff T (po_X3_sendOff_e T p ru s k) 0 0 0 [some (vR 103 p), some (vI s), some (vI k)] [] T
  refine j_blx (F := fX3) tb_X3 (nn_ _) bk_X3_sendOff_e_0 bs_X3_sendOff_e_0 hz (fun K hK => ?_)
  refine And.intro (fun c1 => ?_) (fun c1 => ?_)
  · refine hK 6 _ [] T ?_
    refine j_blx (F := fX3) tb_X3 (nn_ _) bk_X3_sendOff_e_6 bs_X3_sendOff_e_6 hz (fun K hK => ?_)
    refine rg_i (by omega) ?_
    refine rg_i (by omega) ?_
    refine ix_i (by omega) ?_
    intro b2 b2b
    refine iy_i (by omega) (by omega) ?_
    refine x_nm (fun U3 hU3 => ?_)
    have e4 := up_f hU3
    refine hK 26 _ [vI k, vI s, vR 103 p] U3 ?_
    refine j_callV (y := yX3_closeGap) (Yc := zX3_closeGap) (rest := []) [vI s, vI k] (ct_X3_closeGap_e (T := U3) (ru := ru) (by exact rl_f (ws := [(472, [])]) hr (fr_u (fr_0 _ _) hU3 rfl) rfl (fun _ => rfl)) (by omega) (by omega)) cl_X3_119 (qd_c (by decide +kernel)) (nn_ _) rfl (rf_of rfl) (Nat.le_of_ble_eq_true rfl) (Nat.le_of_ble_eq_true rfl) (Nat.le_of_ble_eq_true rfl) rfl ?_
    rintro U5 _ ⟨rfl, fU5, qU5o, qU5, qU5e⟩
    show J_ zX3_sendOff T (po_X3_sendOff_e T p ru s k) 0 0 29 _ [] U5
    refine j_blx (F := fX3) tb_X3 (nn_ _) bk_X3_sendOff_e_29 bs_X3_sendOff_e_29 hz (fun K hK => ?_)
    refine ix_i (by omega) ?_
    intro b6 b6b
    have e7 : U5 470 p s = T 470 p s := (fU5 470 p s rfl).trans (up_k hU3 (by exact Nat.ne_of_beq_eq_false rfl) p s)
    rw [e7] at b6 b6b ⊢
    refine rg_i (by omega) ?_
    refine iy_i (by omega) (by omega) ?_
    refine x_nm (fun U8 hU8 => ?_)
    have e9 := up_f hU8
    refine ix_i (by omega) ?_
    intro b10 b10b
    have e11 : U8 470 p s = (T 470 p s) - 1 := up_f hU8
    rw [e11] at b10 b10b ⊢
    refine rg_i (by omega) ?_
    have e13 : U8 103 p 0 = T 103 p 0 := (up_k hU8 (by exact Nat.ne_of_beq_eq_false rfl) p 0).trans ((fU5 103 p 0 rfl).trans (up_k hU3 (by exact Nat.ne_of_beq_eq_false rfl) p 0))
    refine ix_i (by omega) ?_
    intro b14 b14b
    have e15 : U8 401 (T 103 p 0) 9 = T 401 (T 103 p 0) 9 := (up_k hU8 (by exact Nat.ne_of_beq_eq_false rfl) (T 103 p 0) 9).trans ((fU5 401 (T 103 p 0) 9 rfl).trans (up_k hU3 (by exact Nat.ne_of_beq_eq_false rfl) (T 103 p 0) 9))
    have e16 : U8 401 (U8 103 p 0) 9 = T 401 (T 103 p 0) 9 := by rw [e13]; exact e15
    rw [e16] at b14 b14b ⊢
    refine And.intro (fun c17 => ?_) (fun c17 => ?_)
    · refine hK 84 _ [] U8 ?_
      refine j_blx (F := fX3) tb_X3 (nn_ _) bk_X3_sendOff_e_84 bs_X3_sendOff_e_84 hz (fun K hK => ?_)
      refine (show po_X3_sendOff_e T p ru s k U8 (none) from ?_)
      have e18 : U8 103 p 3 = T 103 p 3 := (up_k hU8 (by exact Nat.ne_of_beq_eq_false rfl) p 3).trans ((fU5 103 p 3 rfl).trans (up_k hU3 (by exact Nat.ne_of_beq_eq_false rfl) p 3))
      have e19 : U8 103 p 3 = T 103 p 3 := (up_k hU8 (by exact Nat.ne_of_beq_eq_false rfl) p 3).trans ((fU5 103 p 3 rfl).trans (up_k hU3 (by exact Nat.ne_of_beq_eq_false rfl) p 3))
      have g20 := fd_u hU8 hs
      have g21 : U5 470 p 0 = T 470 p 0 := (fU5 470 p 0 rfl).trans (up_k hU3 (by exact Nat.ne_of_beq_eq_false rfl) p 0)
      have g22 : U5 470 p 1 = T 470 p 1 := (fU5 470 p 1 rfl).trans (up_k hU3 (by exact Nat.ne_of_beq_eq_false rfl) p 1)
      have rU3 : rs9_ U3 p = u2_ (rs9_ T p) 472 (T 471 p ((s * 6) + k)) 3 := rs_u hU3 rfl
      have rU5 : rs9_ U5 p = cg9_ (u2_ (rs9_ T p) 472 (T 471 p ((s * 6) + k)) 3) s k := by rw [qU5e, rU3]
      have rU8 : rs9_ U8 p = u2_ (cg9_ (u2_ (rs9_ T p) 472 (T 471 p ((s * 6) + k)) 3) s k) 470 s ((T 470 p s) - 1) := by rw [rs_u hU8 rfl, rU5]
      exact ⟨rfl, fr_u (fr_t (fr_u (fr_0 _ _) hU3 rfl) (fr_s fU5 rfl)) hU8 rfl, oi_u (oi_t (oi_u (oi_r) hU3) qU5o) hU8, by exact fun z9 => by omega, Eq.trans rU8 (so9__3 (r := ru) (a := (rs9_ T p)) (s := s) (k := k) (show ¬ (k = -1) by omega) (show ¬ (2 * (T 470 p s - 1) < ru 9) by omega)).symm⟩
    · refine bd_i (by omega) ?_
      refine x_nm (fun U23 hU23 => ?_)
      have e24 := up_f hU23
      refine iy_i (by omega) (by omega) ?_
      refine x_nm (fun U25 hU25 => ?_)
      have e26 := up_f hU25
      refine rg_i (by omega) ?_
      have e28 : U25 103 p 0 = T 103 p 0 := (up_k hU25 (by exact Nat.ne_of_beq_eq_false rfl) p 0).trans ((up_j hU23 (by decide) 103 p).trans ((up_k hU8 (by exact Nat.ne_of_beq_eq_false rfl) p 0).trans ((fU5 103 p 0 rfl).trans (up_k hU3 (by exact Nat.ne_of_beq_eq_false rfl) p 0))))
      refine ix_i (by omega) ?_
      intro b29 b29b
      have e30 : U25 401 (T 103 p 0) 12 = T 401 (T 103 p 0) 12 := (up_k hU25 (by exact Nat.ne_of_beq_eq_false rfl) (T 103 p 0) 12).trans ((up_k hU23 (by exact Nat.ne_of_beq_eq_false rfl) (T 103 p 0) 12).trans ((up_k hU8 (by exact Nat.ne_of_beq_eq_false rfl) (T 103 p 0) 12).trans ((fU5 401 (T 103 p 0) 12 rfl).trans (up_k hU3 (by exact Nat.ne_of_beq_eq_false rfl) (T 103 p 0) 12))))
      have e31 : U25 401 (U25 103 p 0) 12 = T 401 (T 103 p 0) 12 := by rw [e28]; exact e30
      rw [e31] at b29 b29b ⊢
      refine iy_i (by omega) (by omega) ?_
      refine x_nm (fun U32 hU32 => ?_)
      have e33 := up_f hU32
      refine (show po_X3_sendOff_e T p ru s k U32 (none) from ?_)
      have e34 : U32 103 p 3 = 1 := (up_k hU32 (by exact Nat.ne_of_beq_eq_false rfl) p 3).trans ((up_k hU25 (by exact Nat.ne_of_beq_eq_false rfl) p 3).trans (up_f hU23))
      have e35 : U32 470 p 0 = U8 470 p 0 := (up_k hU32 (by exact Nat.ne_of_beq_eq_false rfl) p 0).trans ((up_k hU25 (by exact Nat.ne_of_beq_eq_false rfl) p 0).trans (up_k hU23 (by exact Nat.ne_of_beq_eq_false rfl) p 0))
      have e36 : U32 470 p 1 = U8 470 p 1 := (up_k hU32 (by exact Nat.ne_of_beq_eq_false rfl) p 1).trans ((up_k hU25 (by exact Nat.ne_of_beq_eq_false rfl) p 1).trans (up_k hU23 (by exact Nat.ne_of_beq_eq_false rfl) p 1))
      have g37 : U32 470 p 0 = U8 470 p 0 := (up_k hU32 (by exact Nat.ne_of_beq_eq_false rfl) p 0).trans ((up_k hU25 (by exact Nat.ne_of_beq_eq_false rfl) p 0).trans (up_k hU23 (by exact Nat.ne_of_beq_eq_false rfl) p 0))
      have g38 : U32 470 p 1 = U8 470 p 1 := (up_k hU32 (by exact Nat.ne_of_beq_eq_false rfl) p 1).trans ((up_k hU25 (by exact Nat.ne_of_beq_eq_false rfl) p 1).trans (up_k hU23 (by exact Nat.ne_of_beq_eq_false rfl) p 1))
      have e39 : U32 103 p 3 = 1 := (up_k hU32 (by exact Nat.ne_of_beq_eq_false rfl) p 3).trans ((up_k hU25 (by exact Nat.ne_of_beq_eq_false rfl) p 3).trans (up_f hU23))
      have g40 := fd_u hU8 hs
      have g41 : U5 470 p 0 = T 470 p 0 := (fU5 470 p 0 rfl).trans (up_k hU3 (by exact Nat.ne_of_beq_eq_false rfl) p 0)
      have g42 : U5 470 p 1 = T 470 p 1 := (fU5 470 p 1 rfl).trans (up_k hU3 (by exact Nat.ne_of_beq_eq_false rfl) p 1)
      have rU3 : rs9_ U3 p = u2_ (rs9_ T p) 472 (T 471 p ((s * 6) + k)) 3 := rs_u hU3 rfl
      have rU5 : rs9_ U5 p = cg9_ (u2_ (rs9_ T p) 472 (T 471 p ((s * 6) + k)) 3) s k := by rw [qU5e, rU3]
      have rU8 : rs9_ U8 p = u2_ (cg9_ (u2_ (rs9_ T p) 472 (T 471 p ((s * 6) + k)) 3) s k) 470 s ((T 470 p s) - 1) := by rw [rs_u hU8 rfl, rU5]
      have rU23 : rs9_ U23 p = u2_ (u2_ (cg9_ (u2_ (rs9_ T p) 472 (T 471 p ((s * 6) + k)) 3) s k) 470 s ((T 470 p s) - 1)) 103 3 1 := by rw [rs_u hU23 rfl, rU8]
      have rU25 : rs9_ U25 p = u2_ (u2_ (u2_ (cg9_ (u2_ (rs9_ T p) 472 (T 471 p ((s * 6) + k)) 3) s k) 470 s ((T 470 p s) - 1)) 103 3 1) 468 s 0 := by rw [rs_u hU25 rfl, rU23]
      have rU32 : rs9_ U32 p = u2_ (u2_ (u2_ (u2_ (cg9_ (u2_ (rs9_ T p) 472 (T 471 p ((s * 6) + k)) 3) s k) 470 s ((T 470 p s) - 1)) 103 3 1) 468 s 0) 468 (1 - s) (ru 12) := by rw [rs_u hU32 rfl, rU25, hr12]
      exact ⟨rfl, fr_u (fr_u (fr_u (fr_u (fr_t (fr_u (fr_0 _ _) hU3 rfl) (fr_s fU5 rfl)) hU8 rfl) hU23 rfl) hU25 rfl) hU32 rfl, oi_u (oi_u (oi_u (oi_u (oi_t (oi_u (oi_r) hU3) qU5o) hU8) hU23) hU25) hU32, by exact fun z9 => by omega, Eq.trans rU32 (so9__2 (r := ru) (a := (rs9_ T p)) (s := s) (k := k) (show ¬ (k = -1) by omega) (show 2 * (T 470 p s - 1) < ru 9 by omega)).symm⟩
  · refine (show po_X3_sendOff_e T p ru s k T (none) from ?_)
    exact ⟨rfl, fr_0 _ _, oi_r, by exact fun _ => by omega, Eq.trans rfl (so9__1 (r := ru) (a := (rs9_ T p)) (s := s) (k := k) (show k = -1 by omega)).symm⟩
theorem bk_X3_showYellow_e_0 : ck_ fX3 none cX3_showYellow 0 [.iload 2, .iconst (-1), .if_icmp .ne 6, .return_] 6 = true := qck_r (nn_ _) (by decide +kernel)
theorem bs_X3_showYellow_e_0 {P : Zt → Option Zv → Prop} (K : Int → Zl → List Zv → Zt → Prop) : sx_ K P [.iload 2, .iconst (-1), .if_icmp .ne 6, .return_] 6 = x_iload 2 (x_iconst (-1) (x_if_icmp .ne 6 K (x_return_ P))) := ((xe_iload 2).trans (congrArg (x_iload 2) ((xe_iconst (-1)).trans (congrArg (x_iconst (-1)) ((xe_if_icmp .ne 6).trans (congrArg (x_if_icmp .ne 6 K) (xe_return_)))))))
theorem bk_X3_showYellow_e_6 : ck_ fX3 none cX3_showYellow 6 [.aload 0, .tableswitch 0 3 11 #[], .iload 1, .iconst 6, .imul, .iload 2, .iadd, .iaload, .istore 3, .aload 0, .tableswitch 0 3 13 #[], .iload 3, .dup2, .iaload, .iconst 1, .fadd, .iastore, .aload 0, .tableswitch 0 3 13 #[], .iload 3, .iaload, .iconst 2, .if_icmp .ne 44, .aload 0, .iload 1, .iload 2] 41 = true := qck_r (nn_ _) (by decide +kernel)
theorem bs_X3_showYellow_e_6 {P : Zt → Option Zv → Prop} (K : Int → Zl → List Zv → Zt → Prop) : sx_ K P [.aload 0, .tableswitch 0 3 11 #[], .iload 1, .iconst 6, .imul, .iload 2, .iadd, .iaload, .istore 3, .aload 0, .tableswitch 0 3 13 #[], .iload 3, .dup2, .iaload, .iconst 1, .fadd, .iastore, .aload 0, .tableswitch 0 3 13 #[], .iload 3, .iaload, .iconst 2, .if_icmp .ne 44, .aload 0, .iload 1, .iload 2] 41 = x_aload 0 (x_g2 103 471 (x_iload 1 (x_iconst 6 (x_imul (x_iload 2 (x_iadd (x_iaload (x_istore 3 (x_aload 0 (x_g2 103 473 (x_iload 3 (x_dup2 (x_iaload (x_iconst 1 (x_fadd (x_iastore (x_aload 0 (x_g2 103 473 (x_iload 3 (x_iaload (x_iconst 2 (x_if_icmp .ne 44 K (x_aload 0 (x_iload 1 (x_iload 2 (K 41)))))))))))))))))))))))))) := ((xe_aload 0).trans (congrArg (x_aload 0) ((xe_g2 (kk := 103) rfl tl_3_11).trans (congrArg (x_g2 103 471) ((xe_iload 1).trans (congrArg (x_iload 1) ((xe_iconst 6).trans (congrArg (x_iconst 6) ((xe_imul).trans (congrArg (x_imul) ((xe_iload 2).trans (congrArg (x_iload 2) ((xe_iadd).trans (congrArg (x_iadd) ((xe_iaload).trans (congrArg (x_iaload) ((xe_istore 3).trans (congrArg (x_istore 3) ((xe_aload 0).trans (congrArg (x_aload 0) ((xe_g2 (kk := 103) rfl tl_3_13).trans (congrArg (x_g2 103 473) ((xe_iload 3).trans (congrArg (x_iload 3) ((xe_dup2).trans (congrArg (x_dup2) ((xe_iaload).trans (congrArg (x_iaload) ((xe_iconst 1).trans (congrArg (x_iconst 1) ((xe_fadd).trans (congrArg (x_fadd) ((xe_iastore).trans (congrArg (x_iastore) ((xe_aload 0).trans (congrArg (x_aload 0) ((xe_g2 (kk := 103) rfl tl_3_13).trans (congrArg (x_g2 103 473) ((xe_iload 3).trans (congrArg (x_iload 3) ((xe_iaload).trans (congrArg (x_iaload) ((xe_iconst 2).trans (congrArg (x_iconst 2) ((xe_if_icmp .ne 44).trans (congrArg (x_if_icmp .ne 44 K) ((xe_aload 0).trans (congrArg (x_aload 0) ((xe_iload 1).trans (congrArg (x_iload 1) ((xe_iload 2).trans (congrArg (x_iload 2) xe_nil))))))))))))))))))))))))))))))))))))))))))))))))))))
theorem bk_X3_showYellow_e_44 : ck_ fX3 none cX3_showYellow 44 [.return_] 45 = true := qck_r (nn_ _) (by decide +kernel)
theorem bs_X3_showYellow_e_44 {P : Zt → Option Zv → Prop} (K : Int → Zl → List Zv → Zt → Prop) : sx_ K P [.return_] 45 = x_return_ P := (xe_return_)
abbrev po_X3_showYellow_e (T : Zt) (p : Int) (ru : Int → Int) (s k : Int) : Zt → Option Zv → Prop := fun T' r => r = none ∧ fr_ [(472, []), (471, []), (470, []), (103, [3]), (468, []), (473, [])] T T' ∧ (oi_ T T' p ∧ (T' 103 p 3 = 0 → 1 ≤ T' 470 p 0 ∧ 1 ≤ T' 470 p 1) ∧ rs9_ T' p = yl9_ ru (rs9_ T p) s k)
set_option maxHeartbeats 4000000 in
theorem ct_X3_showYellow_e {T : Zt} {p : Int} {ru : Int → Int} {s k : Int} (hr : RLP_ T p ru) (hs : 0 ≤ s ∧ s ≤ 1) (hk : k = -1 ∨ (0 ≤ k ∧ k < T 470 p s)) (hf : 1 ≤ T 401 (T 103 p 0) 9 ∧ T 401 (T 103 p 0) 9 ≤ 6) (hfd : 1 ≤ T 470 p 0 ∧ 1 ≤ T 470 p 1) : Ct_ yX3_showYellow zX3_showYellow T [vR 103 p, vI s, vI k] (po_X3_showYellow_e T p ru s k) := by
  refine ct_of pn_3 rfl rfl (Nat.le_of_ble_eq_true rfl) (fun hT hav => ?_)
  have hr_s : -2147483648 ≤ s ∧ s ≤ 2147483647 := hav (vI s) (List.mem_cons_of_mem _ List.mem_cons_self)
  have hr_k : -2147483648 ≤ k ∧ k ≤ 2147483647 := hav (vI k) (List.mem_cons_of_mem _ (List.mem_cons_of_mem _ List.mem_cons_self))
  have hz : zX3_showYellow.2.2.2.1 = some .boolean → ∀ (T' : Zt) (x : Int), po_X3_showYellow_e T p ru s k T' (some (vI x)) → 0 ≤ x ∧ x ≤ 1 := fun h => by cases h
  have hr0 := hr 0 (by decide) (by decide)
  have hr9 := hr 9 (by decide) (by decide)
  have hr10 := hr 10 (by decide) (by decide)
  have hr11 := hr 11 (by decide) (by decide)
  have hr12 := hr 12 (by decide) (by decide)
  have hfs : 0 ≤ T 470 p s ∧ T 470 p s ≤ 6 := bd_a hT 470 (by decide +kernel : ta_ 470 = some (1, some 2, 0, 6)) p (by omega)
  show J_ zX3_showYellow T (po_X3_showYellow_e T p ru s k) 0 0 0 [some (vR 103 p), some (vI s), some (vI k), none] [] T
  refine j_blx (F := fX3) tb_X3 (nn_ _) bk_X3_showYellow_e_0 bs_X3_showYellow_e_0 hz (fun K hK => ?_)
  refine And.intro (fun c1 => ?_) (fun c1 => ?_)
  · refine hK 6 _ [] T ?_
    refine j_blx (F := fX3) tb_X3 (nn_ _) bk_X3_showYellow_e_6 bs_X3_showYellow_e_6 hz (fun K hK => ?_)
    refine rg_i (by omega) ?_
    refine rg_i (by omega) ?_
    refine ix_i (by omega) ?_
    intro b2 b2b
    refine ix_i (by omega) ?_
    intro b3 b3b
    intro w4 w4b
    refine iy_i (by omega) (by omega) ?_
    refine x_nm (fun U5 hU5 => ?_)
    have e6 := up_f hU5
    refine ix_i (by omega) ?_
    intro b7 b7b
    have e8 : U5 473 p (T 471 p ((s * 6) + k)) = wr_ ((T 473 p (T 471 p ((s * 6) + k))) + 1) := up_f hU5
    rw [e8] at b7 b7b ⊢
    refine And.intro (fun c9 => ?_) (fun c9 => ?_)
    · refine hK 44 [some (vR 103 p), some (vI s), some (vI k), some (vI (T 471 p ((s * 6) + k)))] [] U5 ?_
      refine j_blx (F := fX3) tb_X3 (nn_ _) bk_X3_showYellow_e_44 bs_X3_showYellow_e_44 hz (fun K hK => ?_)
      refine (show po_X3_showYellow_e T p ru s k U5 (none) from ?_)
      have e10 : U5 103 p 3 = T 103 p 3 := up_k hU5 (by exact Nat.ne_of_beq_eq_false rfl) p 3
      have e11 : U5 470 p 0 = T 470 p 0 := up_k hU5 (by exact Nat.ne_of_beq_eq_false rfl) p 0
      have e12 : U5 470 p 1 = T 470 p 1 := up_k hU5 (by exact Nat.ne_of_beq_eq_false rfl) p 1
      have g13 : U5 470 p 0 = T 470 p 0 := up_k hU5 (by exact Nat.ne_of_beq_eq_false rfl) p 0
      have g14 : U5 470 p 1 = T 470 p 1 := up_k hU5 (by exact Nat.ne_of_beq_eq_false rfl) p 1
      have e15 : U5 103 p 3 = T 103 p 3 := up_k hU5 (by exact Nat.ne_of_beq_eq_false rfl) p 3
      have rU5 : rs9_ U5 p = u2_ (rs9_ T p) 473 (T 471 p ((s * 6) + k)) (wr_ ((T 473 p (T 471 p ((s * 6) + k))) + 1)) := rs_u hU5 rfl
      exact ⟨rfl, fr_u (fr_0 _ _) hU5 rfl, oi_u (oi_r) hU5, by exact fun _ => by omega, Eq.trans rU5 (yl9__3 (r := ru) (a := (rs9_ T p)) (s := s) (k := k) (show ¬ (k = -1) by omega) (show ¬ (wr_ (T 473 p (T 471 p (s * 6 + k)) + 1) = 2) by omega)).symm⟩
    · refine hK 41 _ [vI k, vI s, vR 103 p] U5 ?_
      have e16 : U5 103 p 0 = T 103 p 0 := up_k hU5 (by exact Nat.ne_of_beq_eq_false rfl) p 0
      have e17 : U5 401 (T 103 p 0) 9 = T 401 (T 103 p 0) 9 := up_k hU5 (by exact Nat.ne_of_beq_eq_false rfl) (T 103 p 0) 9
      have r18 : U5 401 (U5 103 p 0) 9 = T 401 (T 103 p 0) 9 := by rw [e16]; exact e17
      have e19 : U5 103 p 0 = T 103 p 0 := up_k hU5 (by exact Nat.ne_of_beq_eq_false rfl) p 0
      have e20 : U5 401 (T 103 p 0) 9 = T 401 (T 103 p 0) 9 := up_k hU5 (by exact Nat.ne_of_beq_eq_false rfl) (T 103 p 0) 9
      have r21 : U5 401 (U5 103 p 0) 9 = T 401 (T 103 p 0) 9 := by rw [e19]; exact e20
      have e22 : U5 470 p s = T 470 p s := up_k hU5 (by exact Nat.ne_of_beq_eq_false rfl) p s
      have e23 : U5 103 p 0 = T 103 p 0 := up_k hU5 (by exact Nat.ne_of_beq_eq_false rfl) p 0
      have e24 : U5 470 p 0 = T 470 p 0 := up_k hU5 (by exact Nat.ne_of_beq_eq_false rfl) p 0
      have e25 : U5 470 p 1 = T 470 p 1 := up_k hU5 (by exact Nat.ne_of_beq_eq_false rfl) p 1
      refine j_callV (y := yX3_sendOff) (Yc := zX3_sendOff) (rest := []) [vI s, vI k] (ct_X3_sendOff_e (T := U5) (ru := ru) (by exact rl_f (ws := [(473, [])]) hr (fr_u (fr_0 _ _) hU5 rfl) rfl (fun _ => rfl)) (by omega) (by (have y9 : U5 470 p s = T 470 p s := up_k hU5 (by exact Nat.ne_of_beq_eq_false rfl) p s); omega) (by omega) (by omega)) cl_X3_116 (qd_c (by decide +kernel)) (nn_ _) rfl (rf_of rfl) (Nat.le_of_ble_eq_true rfl) (Nat.le_of_ble_eq_true rfl) (Nat.le_of_ble_eq_true rfl) rfl ?_
      rintro U26 _ ⟨rfl, fU26, qU26o, qU26, qU26e⟩
      show J_ zX3_showYellow T (po_X3_showYellow_e T p ru s k) 0 0 44 _ [] U26
      refine j_blx (F := fX3) tb_X3 (nn_ _) bk_X3_showYellow_e_44 bs_X3_showYellow_e_44 hz (fun K hK => ?_)
      refine (show po_X3_showYellow_e T p ru s k U26 (none) from ?_)
      have rU5 : rs9_ U5 p = u2_ (rs9_ T p) 473 (T 471 p ((s * 6) + k)) (wr_ ((T 473 p (T 471 p ((s * 6) + k))) + 1)) := rs_u hU5 rfl
      have rU26 : rs9_ U26 p = so9_ ru (u2_ (rs9_ T p) 473 (T 471 p ((s * 6) + k)) (wr_ ((T 473 p (T 471 p ((s * 6) + k))) + 1))) s k := by rw [qU26e, rU5]
      exact ⟨rfl, fr_t (fr_u (fr_0 _ _) hU5 rfl) (fr_s fU26 rfl), oi_t (oi_u (oi_r) hU5) qU26o, by exact fun z9 => by have y9 := qU26; omega, Eq.trans rU26 (yl9__2 (r := ru) (a := (rs9_ T p)) (s := s) (k := k) (show ¬ (k = -1) by omega) (show wr_ (T 473 p (T 471 p (s * 6 + k)) + 1) = 2 by omega)).symm⟩
  · refine (show po_X3_showYellow_e T p ru s k T (none) from ?_)
    exact ⟨rfl, fr_0 _ _, oi_r, by exact fun _ => by omega, Eq.trans rfl (yl9__1 (r := ru) (a := (rs9_ T p)) (s := s) (k := k) (show k = -1 by omega)).symm⟩
theorem bk_X3_substitute_e_0 : ck_ fX3 none cX3_substitute 0 [.aload 0, .iload 1, .iload 2] 3 = true := qck_r (nn_ _) (by decide +kernel)
theorem bs_X3_substitute_e_0 {P : Zt → Option Zv → Prop} (K : Int → Zl → List Zv → Zt → Prop) : sx_ K P [.aload 0, .iload 1, .iload 2] 3 = x_aload 0 (x_iload 1 (x_iload 2 (K 3))) := ((xe_aload 0).trans (congrArg (x_aload 0) ((xe_iload 1).trans (congrArg (x_iload 1) ((xe_iload 2).trans (congrArg (x_iload 2) xe_nil))))))
theorem bk_X3_substitute_e_6 : ck_ fX3 none cX3_substitute 6 [.istore 4, .aload 0, .iload 1, .iload 3] 11 = true := qck_r (nn_ _) (by decide +kernel)
theorem bs_X3_substitute_e_6 {P : Zt → Option Zv → Prop} (K : Int → Zl → List Zv → Zt → Prop) : sx_ K P [.istore 4, .aload 0, .iload 1, .iload 3] 11 = x_istore 4 (x_aload 0 (x_iload 1 (x_iload 3 (K 11)))) := ((xe_istore 4).trans (congrArg (x_istore 4) ((xe_aload 0).trans (congrArg (x_aload 0) ((xe_iload 1).trans (congrArg (x_iload 1) ((xe_iload 3).trans (congrArg (x_iload 3) xe_nil))))))))
theorem bk_X3_substitute_e_14 : ck_ fX3 none cX3_substitute 14 [.istore 5, .iload 4, .iconst (-1), .if_icmp .eq 28, .iload 5, .iconst (-1), .if_icmp .ne 29, .return_] 29 = true := qck_r (nn_ _) (by decide +kernel)
theorem bs_X3_substitute_e_14 {P : Zt → Option Zv → Prop} (K : Int → Zl → List Zv → Zt → Prop) : sx_ K P [.istore 5, .iload 4, .iconst (-1), .if_icmp .eq 28, .iload 5, .iconst (-1), .if_icmp .ne 29, .return_] 29 = x_istore 5 (x_iload 4 (x_iconst (-1) (x_if_icmp .eq 28 K (x_iload 5 (x_iconst (-1) (x_if_icmp .ne 29 K (x_return_ P))))))) := ((xe_istore 5).trans (congrArg (x_istore 5) ((xe_iload 4).trans (congrArg (x_iload 4) ((xe_iconst (-1)).trans (congrArg (x_iconst (-1)) ((xe_if_icmp .eq 28).trans (congrArg (x_if_icmp .eq 28 K) ((xe_iload 5).trans (congrArg (x_iload 5) ((xe_iconst (-1)).trans (congrArg (x_iconst (-1)) ((xe_if_icmp .ne 29).trans (congrArg (x_if_icmp .ne 29 K) (xe_return_)))))))))))))))
theorem bk_X3_substitute_e_28 : ck_ fX3 none cX3_substitute 28 [.return_] 29 = true := qck_r (nn_ _) (by decide +kernel)
theorem bs_X3_substitute_e_28 {P : Zt → Option Zv → Prop} (K : Int → Zl → List Zv → Zt → Prop) : sx_ K P [.return_] 29 = x_return_ P := (xe_return_)
theorem bk_X3_substitute_e_29 : ck_ fX3 none cX3_substitute 29 [.aload 0, .tableswitch 0 3 12 #[], .aload 0, .tableswitch 0 3 11 #[], .iload 1, .iconst 6, .imul, .iload 4, .iadd, .iaload, .iconst 2, .iastore, .aload 0, .tableswitch 0 3 12 #[], .iload 5, .iconst 1, .iastore, .aload 0, .tableswitch 0 3 11 #[], .iload 1, .iconst 6, .imul, .iload 4, .iadd, .iload 5, .iastore, .aload 0, .tableswitch 0 3 9 #[], .iload 1, .dup2, .iaload, .iconst 1, .fadd, .iastore, .return_] 80 = true := qck_r (nn_ _) (by decide +kernel)
theorem bs_X3_substitute_e_29 {P : Zt → Option Zv → Prop} (K : Int → Zl → List Zv → Zt → Prop) : sx_ K P [.aload 0, .tableswitch 0 3 12 #[], .aload 0, .tableswitch 0 3 11 #[], .iload 1, .iconst 6, .imul, .iload 4, .iadd, .iaload, .iconst 2, .iastore, .aload 0, .tableswitch 0 3 12 #[], .iload 5, .iconst 1, .iastore, .aload 0, .tableswitch 0 3 11 #[], .iload 1, .iconst 6, .imul, .iload 4, .iadd, .iload 5, .iastore, .aload 0, .tableswitch 0 3 9 #[], .iload 1, .dup2, .iaload, .iconst 1, .fadd, .iastore, .return_] 80 = x_aload 0 (x_g2 103 472 (x_aload 0 (x_g2 103 471 (x_iload 1 (x_iconst 6 (x_imul (x_iload 4 (x_iadd (x_iaload (x_iconst 2 (x_iastore (x_aload 0 (x_g2 103 472 (x_iload 5 (x_iconst 1 (x_iastore (x_aload 0 (x_g2 103 471 (x_iload 1 (x_iconst 6 (x_imul (x_iload 4 (x_iadd (x_iload 5 (x_iastore (x_aload 0 (x_g2 103 469 (x_iload 1 (x_dup2 (x_iaload (x_iconst 1 (x_fadd (x_iastore (x_return_ P)))))))))))))))))))))))))))))))))) := ((xe_aload 0).trans (congrArg (x_aload 0) ((xe_g2 (kk := 103) rfl tl_3_12).trans (congrArg (x_g2 103 472) ((xe_aload 0).trans (congrArg (x_aload 0) ((xe_g2 (kk := 103) rfl tl_3_11).trans (congrArg (x_g2 103 471) ((xe_iload 1).trans (congrArg (x_iload 1) ((xe_iconst 6).trans (congrArg (x_iconst 6) ((xe_imul).trans (congrArg (x_imul) ((xe_iload 4).trans (congrArg (x_iload 4) ((xe_iadd).trans (congrArg (x_iadd) ((xe_iaload).trans (congrArg (x_iaload) ((xe_iconst 2).trans (congrArg (x_iconst 2) ((xe_iastore).trans (congrArg (x_iastore) ((xe_aload 0).trans (congrArg (x_aload 0) ((xe_g2 (kk := 103) rfl tl_3_12).trans (congrArg (x_g2 103 472) ((xe_iload 5).trans (congrArg (x_iload 5) ((xe_iconst 1).trans (congrArg (x_iconst 1) ((xe_iastore).trans (congrArg (x_iastore) ((xe_aload 0).trans (congrArg (x_aload 0) ((xe_g2 (kk := 103) rfl tl_3_11).trans (congrArg (x_g2 103 471) ((xe_iload 1).trans (congrArg (x_iload 1) ((xe_iconst 6).trans (congrArg (x_iconst 6) ((xe_imul).trans (congrArg (x_imul) ((xe_iload 4).trans (congrArg (x_iload 4) ((xe_iadd).trans (congrArg (x_iadd) ((xe_iload 5).trans (congrArg (x_iload 5) ((xe_iastore).trans (congrArg (x_iastore) ((xe_aload 0).trans (congrArg (x_aload 0) ((xe_g2 (kk := 103) rfl tl_3_9).trans (congrArg (x_g2 103 469) ((xe_iload 1).trans (congrArg (x_iload 1) ((xe_dup2).trans (congrArg (x_dup2) ((xe_iaload).trans (congrArg (x_iaload) ((xe_iconst 1).trans (congrArg (x_iconst 1) ((xe_fadd).trans (congrArg (x_fadd) ((xe_iastore).trans (congrArg (x_iastore) (xe_return_)))))))))))))))))))))))))))))))))))))))))))))))))))))))))))))))))))))
abbrev po_X3_substitute_e (T : Zt) (p : Int) (ru : Int → Int) (s q o : Int) : Zt → Option Zv → Prop := fun T' r => r = none ∧ fr_ [(472, []), (471, []), (469, [])] T T' ∧ (oi_ T T' p ∧ (0 = (0 : Int)) ∧ rs9_ T' p = su9_ ru (rs9_ T p) s q o)
set_option maxHeartbeats 4000000 in
theorem ct_X3_substitute_e {T : Zt} {p : Int} {ru : Int → Int} {s q o : Int} (hr : RLP_ T p ru) (hs : 0 ≤ s ∧ s ≤ 1) : Ct_ yX3_substitute zX3_substitute T [vR 103 p, vI s, vI q, vI o] (po_X3_substitute_e T p ru s q o) := by
  refine ct_of pn_3 rfl rfl (Nat.le_of_ble_eq_true rfl) (fun hT hav => ?_)
  have hr_s : -2147483648 ≤ s ∧ s ≤ 2147483647 := hav (vI s) (List.mem_cons_of_mem _ List.mem_cons_self)
  have hr_q : -2147483648 ≤ q ∧ q ≤ 2147483647 := hav (vI q) (List.mem_cons_of_mem _ (List.mem_cons_of_mem _ List.mem_cons_self))
  have hr_o : -2147483648 ≤ o ∧ o ≤ 2147483647 := hav (vI o) (List.mem_cons_of_mem _ (List.mem_cons_of_mem _ (List.mem_cons_of_mem _ List.mem_cons_self)))
  have hz : zX3_substitute.2.2.2.1 = some .boolean → ∀ (T' : Zt) (x : Int), po_X3_substitute_e T p ru s q o T' (some (vI x)) → 0 ≤ x ∧ x ≤ 1 := fun h => by cases h
  have hfs : 0 ≤ T 470 p s ∧ T 470 p s ≤ 6 := bd_a hT 470 (by decide +kernel : ta_ 470 = some (1, some 2, 0, 6)) p (by omega)
  have hls : 0 ≤ T 449 p s ∧ T 449 p s ≤ 10 := bd_a hT 449 (by decide +kernel : ta_ 449 = some (1, some 2, 0, 10)) p (by omega)
  show J_ zX3_substitute T (po_X3_substitute_e T p ru s q o) 0 0 0 [some (vR 103 p), some (vI s), some (vI q), some (vI o), none, none] [] T
  refine j_blx (F := fX3) tb_X3 (nn_ _) bk_X3_substitute_e_0 bs_X3_substitute_e_0 hz (fun K hK => ?_)
  refine hK 3 _ [vI q, vI s, vR 103 p] T ?_
  refine j_callV (y := yX3_fieldPlace) (Yc := zX3_fieldPlace) (rest := []) [vI s, vI q] (ct_X3_fieldPlace_e (T := T) (by omega)) cl_X3_79 (qd_c (by decide +kernel)) (nn_ _) rfl (rf_of rfl) (Nat.le_of_ble_eq_true rfl) (Nat.le_of_ble_eq_true rfl) (Nat.le_of_ble_eq_true rfl) rfl ?_
  rintro _ _ ⟨rfl, rfl⟩
  have n1 : fp9_ (rs9_ T p) s q = -1 ∨ (0 ≤ fp9_ (rs9_ T p) s q ∧ fp9_ (rs9_ T p) s q < T 470 p s ∧ T 448 p (T 471 p (s * 6 + fp9_ (rs9_ T p) s q)) = q) := fp9_b
  show J_ zX3_substitute T (po_X3_substitute_e T p ru s q o) 0 0 6 _ [vI (fp9_ (rs9_ T p) s q)] T
  refine j_blx (F := fX3) tb_X3 (nn_ _) bk_X3_substitute_e_6 bs_X3_substitute_e_6 hz (fun K hK => ?_)
  refine hK 11 [some (vR 103 p), some (vI s), some (vI q), some (vI o), some (vI (fp9_ (rs9_ T p) s q)), none] [vI o, vI s, vR 103 p] T ?_
  refine j_callV (y := yX3_benchPlace) (Yc := zX3_benchPlace) (rest := []) [vI s, vI o] (ct_X3_benchPlace_e (T := T) (by omega)) cl_X3_83 (qd_c (by decide +kernel)) (nn_ _) rfl (rf_of rfl) (Nat.le_of_ble_eq_true rfl) (Nat.le_of_ble_eq_true rfl) (Nat.le_of_ble_eq_true rfl) rfl ?_
  rintro _ _ ⟨rfl, rfl⟩
  have n2 : bq9_ (rs9_ T p) s o = -1 ∨ (s * 10 ≤ bq9_ (rs9_ T p) s o ∧ bq9_ (rs9_ T p) s o < s * 10 + T 449 p s ∧ T 448 p (bq9_ (rs9_ T p) s o) = o ∧ T 472 p (bq9_ (rs9_ T p) s o) = 0) := bq9_b
  show J_ zX3_substitute T (po_X3_substitute_e T p ru s q o) 0 0 14 _ [vI (bq9_ (rs9_ T p) s o)] T
  refine j_blx (F := fX3) tb_X3 (nn_ _) bk_X3_substitute_e_14 bs_X3_substitute_e_14 hz (fun K hK => ?_)
  refine And.intro (fun c3 => ?_) (fun c3 => ?_)
  · refine hK 28 [some (vR 103 p), some (vI s), some (vI q), some (vI o), some (vI (fp9_ (rs9_ T p) s q)), some (vI (bq9_ (rs9_ T p) s o))] [] T ?_
    refine j_blx (F := fX3) tb_X3 (nn_ _) bk_X3_substitute_e_28 bs_X3_substitute_e_28 hz (fun K hK => ?_)
    refine (show po_X3_substitute_e T p ru s q o T (none) from ?_)
    exact ⟨rfl, fr_0 _ _, oi_r, by rfl, Eq.trans rfl (su9__1 (r := ru) (a := (rs9_ T p)) (s := s) (q := q) (o := o) (show fp9_ (rs9_ T p) s q = -1 ∨ bq9_ (rs9_ T p) s o = -1 by omega)).symm⟩
  · refine And.intro (fun c4 => ?_) (fun c4 => ?_)
    · refine hK 29 _ [] T ?_
      refine j_blx (F := fX3) tb_X3 (nn_ _) bk_X3_substitute_e_29 bs_X3_substitute_e_29 hz (fun K hK => ?_)
      refine rg_i (by omega) ?_
      refine rg_i (by omega) ?_
      refine ix_i (by omega) ?_
      intro b5 b5b
      refine iy_i (by omega) (by omega) ?_
      refine x_nm (fun U6 hU6 => ?_)
      have e7 := up_f hU6
      refine iy_i (by omega) (by omega) ?_
      refine x_nm (fun U8 hU8 => ?_)
      have e9 := up_f hU8
      refine rg_i (by omega) ?_
      refine rg_i (by omega) ?_
      refine iy_i (by omega) (by omega) ?_
      refine x_nm (fun U10 hU10 => ?_)
      have e11 := up_f hU10
      refine ix_i (by omega) ?_
      intro b12 b12b
      have e13 : U10 469 p s = T 469 p s := (up_k hU10 (by exact Nat.ne_of_beq_eq_false rfl) p s).trans ((up_k hU8 (by exact Nat.ne_of_beq_eq_false rfl) p s).trans (up_k hU6 (by exact Nat.ne_of_beq_eq_false rfl) p s))
      rw [e13] at b12 b12b ⊢
      intro w14 w14b
      refine iy_i (by omega) (by omega) ?_
      refine x_nm (fun U15 hU15 => ?_)
      have e16 := up_f hU15
      refine (show po_X3_substitute_e T p ru s q o U15 (none) from ?_)
      have rU6 : rs9_ U6 p = u2_ (rs9_ T p) 472 (T 471 p ((s * 6) + (fp9_ (rs9_ T p) s q))) 2 := rs_u hU6 rfl
      have rU8 : rs9_ U8 p = u2_ (u2_ (rs9_ T p) 472 (T 471 p ((s * 6) + (fp9_ (rs9_ T p) s q))) 2) 472 (bq9_ (rs9_ T p) s o) 1 := by rw [rs_u hU8 rfl, rU6]
      have rU10 : rs9_ U10 p = u2_ (u2_ (u2_ (rs9_ T p) 472 (T 471 p ((s * 6) + (fp9_ (rs9_ T p) s q))) 2) 472 (bq9_ (rs9_ T p) s o) 1) 471 ((s * 6) + (fp9_ (rs9_ T p) s q)) (bq9_ (rs9_ T p) s o) := by rw [rs_u hU10 rfl, rU8]
      have rU15 : rs9_ U15 p = u2_ (u2_ (u2_ (u2_ (rs9_ T p) 472 (T 471 p ((s * 6) + (fp9_ (rs9_ T p) s q))) 2) 472 (bq9_ (rs9_ T p) s o) 1) 471 ((s * 6) + (fp9_ (rs9_ T p) s q)) (bq9_ (rs9_ T p) s o)) 469 s (wr_ ((T 469 p s) + 1)) := by rw [rs_u hU15 rfl, rU10]
      exact ⟨rfl, fr_u (fr_u (fr_u (fr_u (fr_0 _ _) hU6 rfl) hU8 rfl) hU10 rfl) hU15 rfl, oi_u (oi_u (oi_u (oi_u (oi_r) hU6) hU8) hU10) hU15, by rfl, Eq.trans rU15 (su9__2 (r := ru) (a := (rs9_ T p)) (s := s) (q := q) (o := o) (show ¬ (fp9_ (rs9_ T p) s q = -1 ∨ bq9_ (rs9_ T p) s o = -1) by omega)).symm⟩
    · refine (show po_X3_substitute_e T p ru s q o T (none) from ?_)
      exact ⟨rfl, fr_0 _ _, oi_r, by rfl, Eq.trans rfl (su9__1 (r := ru) (a := (rs9_ T p)) (s := s) (q := q) (o := o) (show fp9_ (rs9_ T p) s q = -1 ∨ bq9_ (rs9_ T p) s o = -1 by omega)).symm⟩
theorem bk_X3_playFootball_e_0 : ck_ fX3 none cX3_playFootball 0 [.iload 1] 1 = true := qck_r (nn_ _) (by decide +kernel)
theorem bs_X3_playFootball_e_0 {P : Zt → Option Zv → Prop} (K : Int → Zl → List Zv → Zt → Prop) : sx_ K P [.iload 1] 1 = x_iload 1 (K 1) := ((xe_iload 1).trans (congrArg (x_iload 1) xe_nil))
theorem bk_X3_playFootball_e_32 : ck_ fX3 none cX3_playFootball 32 [.aload 0, .tableswitch 0 3 8 #[], .iload 2, .dup2, .iaload, .iconst 1, .fadd, .iastore, .goto 115] 45 = true := qck_r (nn_ _) (by decide +kernel)
theorem bs_X3_playFootball_e_32 {P : Zt → Option Zv → Prop} (K : Int → Zl → List Zv → Zt → Prop) : sx_ K P [.aload 0, .tableswitch 0 3 8 #[], .iload 2, .dup2, .iaload, .iconst 1, .fadd, .iastore, .goto 115] 45 = x_aload 0 (x_g2 103 468 (x_iload 2 (x_dup2 (x_iaload (x_iconst 1 (x_fadd (x_iastore (x_goto 115 K)))))))) := ((xe_aload 0).trans (congrArg (x_aload 0) ((xe_g2 (kk := 103) rfl tl_3_8).trans (congrArg (x_g2 103 468) ((xe_iload 2).trans (congrArg (x_iload 2) ((xe_dup2).trans (congrArg (x_dup2) ((xe_iaload).trans (congrArg (x_iaload) ((xe_iconst 1).trans (congrArg (x_iconst 1) ((xe_fadd).trans (congrArg (x_fadd) ((xe_iastore).trans (congrArg (x_iastore) (xe_goto 115)))))))))))))))))
theorem bk_X3_playFootball_e_115 : ck_ fX3 none cX3_playFootball 115 [.return_] 116 = true := qck_r (nn_ _) (by decide +kernel)
theorem bs_X3_playFootball_e_115 {P : Zt → Option Zv → Prop} (K : Int → Zl → List Zv → Zt → Prop) : sx_ K P [.return_] 116 = x_return_ P := (xe_return_)
theorem bk_X3_playFootball_e_45 : ck_ fX3 none cX3_playFootball 45 [.aload 0, .tableswitch 0 3 8 #[], .iconst 1, .iload 2, .isub, .dup2, .iaload, .iconst 1, .fadd, .iastore, .goto 115] 60 = true := qck_r (nn_ _) (by decide +kernel)
theorem bs_X3_playFootball_e_45 {P : Zt → Option Zv → Prop} (K : Int → Zl → List Zv → Zt → Prop) : sx_ K P [.aload 0, .tableswitch 0 3 8 #[], .iconst 1, .iload 2, .isub, .dup2, .iaload, .iconst 1, .fadd, .iastore, .goto 115] 60 = x_aload 0 (x_g2 103 468 (x_iconst 1 (x_iload 2 (x_isub (x_dup2 (x_iaload (x_iconst 1 (x_fadd (x_iastore (x_goto 115 K)))))))))) := ((xe_aload 0).trans (congrArg (x_aload 0) ((xe_g2 (kk := 103) rfl tl_3_8).trans (congrArg (x_g2 103 468) ((xe_iconst 1).trans (congrArg (x_iconst 1) ((xe_iload 2).trans (congrArg (x_iload 2) ((xe_isub).trans (congrArg (x_isub) ((xe_dup2).trans (congrArg (x_dup2) ((xe_iaload).trans (congrArg (x_iaload) ((xe_iconst 1).trans (congrArg (x_iconst 1) ((xe_fadd).trans (congrArg (x_fadd) ((xe_iastore).trans (congrArg (x_iastore) (xe_goto 115)))))))))))))))))))))
theorem bk_X3_playFootball_e_60 : ck_ fX3 none cX3_playFootball 60 [.aload 0, .iload 2, .aload 0, .iload 2, .iload 3] 65 = true := qck_r (nn_ _) (by decide +kernel)
theorem bs_X3_playFootball_e_60 {P : Zt → Option Zv → Prop} (K : Int → Zl → List Zv → Zt → Prop) : sx_ K P [.aload 0, .iload 2, .aload 0, .iload 2, .iload 3] 65 = x_aload 0 (x_iload 2 (x_aload 0 (x_iload 2 (x_iload 3 (K 65))))) := ((xe_aload 0).trans (congrArg (x_aload 0) ((xe_iload 2).trans (congrArg (x_iload 2) ((xe_aload 0).trans (congrArg (x_aload 0) ((xe_iload 2).trans (congrArg (x_iload 2) ((xe_iload 3).trans (congrArg (x_iload 3) xe_nil))))))))))
theorem bk_X3_playFootball_e_71 : ck_ fX3 none cX3_playFootball 71 [.goto 115] 74 = true := qck_r (nn_ _) (by decide +kernel)
theorem bs_X3_playFootball_e_71 {P : Zt → Option Zv → Prop} (K : Int → Zl → List Zv → Zt → Prop) : sx_ K P [.goto 115] 74 = x_goto 115 K := (xe_goto 115)
theorem bk_X3_playFootball_e_74 : ck_ fX3 none cX3_playFootball 74 [.aload 0, .iload 2, .aload 0, .iload 2, .iload 3] 79 = true := qck_r (nn_ _) (by decide +kernel)
theorem bs_X3_playFootball_e_74 {P : Zt → Option Zv → Prop} (K : Int → Zl → List Zv → Zt → Prop) : sx_ K P [.aload 0, .iload 2, .aload 0, .iload 2, .iload 3] 79 = x_aload 0 (x_iload 2 (x_aload 0 (x_iload 2 (x_iload 3 (K 79))))) := ((xe_aload 0).trans (congrArg (x_aload 0) ((xe_iload 2).trans (congrArg (x_iload 2) ((xe_aload 0).trans (congrArg (x_aload 0) ((xe_iload 2).trans (congrArg (x_iload 2) ((xe_iload 3).trans (congrArg (x_iload 3) xe_nil))))))))))
theorem bk_X3_playFootball_e_85 : ck_ fX3 none cX3_playFootball 85 [.goto 115] 88 = true := qck_r (nn_ _) (by decide +kernel)
theorem bs_X3_playFootball_e_85 {P : Zt → Option Zv → Prop} (K : Int → Zl → List Zv → Zt → Prop) : sx_ K P [.goto 115] 88 = x_goto 115 K := (xe_goto 115)
theorem bk_X3_playFootball_e_88 : ck_ fX3 none cX3_playFootball 88 [.aload 0, .dup, .tableswitch 0 3 4 #[], .iconst 1, .fadd, .tableswitch 1 3 4 #[], .aload 0, .aload 0, .tableswitch 0 3 4 #[], .iconst 3, .if_icmp .ne 111, .iconst 1, .goto 112] 111 = true := qck_r (nn_ _) (by decide +kernel)
theorem bs_X3_playFootball_e_88 {P : Zt → Option Zv → Prop} (K : Int → Zl → List Zv → Zt → Prop) : sx_ K P [.aload 0, .dup, .tableswitch 0 3 4 #[], .iconst 1, .fadd, .tableswitch 1 3 4 #[], .aload 0, .aload 0, .tableswitch 0 3 4 #[], .iconst 3, .if_icmp .ne 111, .iconst 1, .goto 112] 111 = x_aload 0 (x_dup (x_g0 103 4 (-2147483648) 2147483647 (x_iconst 1 (x_fadd (x_p 103 4 (-2147483648) 2147483647 (x_aload 0 (x_aload 0 (x_g0 103 4 (-2147483648) 2147483647 (x_iconst 3 (x_if_icmp .ne 111 K (x_iconst 1 (x_goto 112 K)))))))))))) := ((xe_aload 0).trans (congrArg (x_aload 0) ((xe_dup).trans (congrArg (x_dup) ((xe_g0 (kk := 103) rfl tl_3_4).trans (congrArg (x_g0 103 4 (-2147483648) 2147483647) ((xe_iconst 1).trans (congrArg (x_iconst 1) ((xe_fadd).trans (congrArg (x_fadd) ((xe_p (kk := 103) rfl tl_3_4).trans (congrArg (x_p 103 4 (-2147483648) 2147483647) ((xe_aload 0).trans (congrArg (x_aload 0) ((xe_aload 0).trans (congrArg (x_aload 0) ((xe_g0 (kk := 103) rfl tl_3_4).trans (congrArg (x_g0 103 4 (-2147483648) 2147483647) ((xe_iconst 3).trans (congrArg (x_iconst 3) ((xe_if_icmp .ne 111).trans (congrArg (x_if_icmp .ne 111 K) ((xe_iconst 1).trans (congrArg (x_iconst 1) (xe_goto 112)))))))))))))))))))))))))
theorem bk_X3_playFootball_e_111 : ck_ fX3 none cX3_playFootball 111 [.iconst 0, .tableswitch 1 3 3 #[], .return_] 116 = true := qck_r (nn_ _) (by decide +kernel)
theorem bs_X3_playFootball_e_111 {P : Zt → Option Zv → Prop} (K : Int → Zl → List Zv → Zt → Prop) : sx_ K P [.iconst 0, .tableswitch 1 3 3 #[], .return_] 116 = x_iconst 0 (x_p 103 3 0 1 (x_return_ P)) := ((xe_iconst 0).trans (congrArg (x_iconst 0) ((xe_p (kk := 103) rfl tl_3_3).trans (congrArg (x_p 103 3 0 1) (xe_return_)))))
theorem bk_X3_playFootball_e_112 : ck_ fX3 none cX3_playFootball 112 [.tableswitch 1 3 3 #[], .return_] 116 = true := qck_r (nn_ _) (by decide +kernel)
theorem bs_X3_playFootball_e_112 {P : Zt → Option Zv → Prop} (K : Int → Zl → List Zv → Zt → Prop) : sx_ K P [.tableswitch 1 3 3 #[], .return_] 116 = x_p 103 3 0 1 (x_return_ P) := ((xe_p (kk := 103) rfl tl_3_3).trans (congrArg (x_p 103 3 0 1) (xe_return_)))
abbrev po_X3_playFootball_e (T : Zt) (p : Int) (ru : Int → Int) (k s q : Int) : Zt → Option Zv → Prop := fun T' r => r = none ∧ fr_ [(472, []), (471, []), (470, []), (103, [3, 4]), (468, []), (473, [])] T T' ∧ (oi_ T T' p ∧ (T' 103 p 3 = 0 → 1 ≤ T' 470 p 0 ∧ 1 ≤ T' 470 p 1) ∧ rs9_ T' p = pf9_ ru (rs9_ T p) k s q)
set_option maxHeartbeats 4000000 in
theorem ct_X3_playFootball_e {T : Zt} {p : Int} {ru : Int → Int} {k s q : Int} (hr : RLP_ T p ru) (hs : k = 0 ∨ (0 ≤ s ∧ s ≤ 1)) (hk : 0 ≤ k ∧ k ≤ 4) (hf : 1 ≤ T 401 (T 103 p 0) 9 ∧ T 401 (T 103 p 0) 9 ≤ 6) (hfd : 1 ≤ T 470 p 0 ∧ 1 ≤ T 470 p 1) : Ct_ yX3_playFootball zX3_playFootball T [vR 103 p, vI k, vI s, vI q] (po_X3_playFootball_e T p ru k s q) := by
  refine ct_of pn_3 rfl rfl (Nat.le_of_ble_eq_true rfl) (fun hT hav => ?_)
  have hr_k : -2147483648 ≤ k ∧ k ≤ 2147483647 := hav (vI k) (List.mem_cons_of_mem _ List.mem_cons_self)
  have hr_s : -2147483648 ≤ s ∧ s ≤ 2147483647 := hav (vI s) (List.mem_cons_of_mem _ (List.mem_cons_of_mem _ List.mem_cons_self))
  have hr_q : -2147483648 ≤ q ∧ q ≤ 2147483647 := hav (vI q) (List.mem_cons_of_mem _ (List.mem_cons_of_mem _ (List.mem_cons_of_mem _ List.mem_cons_self)))
  have hz : zX3_playFootball.2.2.2.1 = some .boolean → ∀ (T' : Zt) (x : Int), po_X3_playFootball_e T p ru k s q T' (some (vI x)) → 0 ≤ x ∧ x ≤ 1 := fun h => by cases h
  have hr0 := hr 0 (by decide) (by decide)
  have hr9 := hr 9 (by decide) (by decide)
  have hr10 := hr 10 (by decide) (by decide)
  have hr11 := hr 11 (by decide) (by decide)
  have hr12 := hr 12 (by decide) (by decide)
  show J_ zX3_playFootball T (po_X3_playFootball_e T p ru k s q) 0 0 0 [some (vR 103 p), some (vI k), some (vI s), some (vI q)] [] T
  refine j_blx (F := fX3) tb_X3 (nn_ _) bk_X3_playFootball_e_0 bs_X3_playFootball_e_0 hz (fun K hK => ?_)
  refine hK 1 _ [vI k] T ?_
  by_cases z1_0 : k = 1
  · refine j_tsI (pc := 1) 0 (off := 31) (tgt := 32) (by decide) ds_X3_playFootball_1 (by omega) (by decide) rfl (by decide) (by decide) ?_
    refine j_blx (F := fX3) tb_X3 (nn_ _) bk_X3_playFootball_e_32 bs_X3_playFootball_e_32 hz (fun K hK => ?_)
    refine ix_i (by omega) ?_
    intro b2 b2b
    intro w3 w3b
    refine iy_i (by omega) (by omega) ?_
    refine x_nm (fun U4 hU4 => ?_)
    have e5 := up_f hU4
    refine hK 115 _ [] U4 ?_
    refine j_blx (F := fX3) tb_X3 (nn_ _) bk_X3_playFootball_e_115 bs_X3_playFootball_e_115 hz (fun K hK => ?_)
    refine (show po_X3_playFootball_e T p ru k s q U4 (none) from ?_)
    have e6 : U4 103 p 3 = T 103 p 3 := up_k hU4 (by exact Nat.ne_of_beq_eq_false rfl) p 3
    have e7 : U4 470 p 0 = T 470 p 0 := up_k hU4 (by exact Nat.ne_of_beq_eq_false rfl) p 0
    have e8 : U4 470 p 1 = T 470 p 1 := up_k hU4 (by exact Nat.ne_of_beq_eq_false rfl) p 1
    have g9 : U4 470 p 0 = T 470 p 0 := up_k hU4 (by exact Nat.ne_of_beq_eq_false rfl) p 0
    have g10 : U4 470 p 1 = T 470 p 1 := up_k hU4 (by exact Nat.ne_of_beq_eq_false rfl) p 1
    have e11 : U4 103 p 3 = T 103 p 3 := up_k hU4 (by exact Nat.ne_of_beq_eq_false rfl) p 3
    have rU4 : rs9_ U4 p = u2_ (rs9_ T p) 468 s (wr_ ((T 468 p s) + 1)) := rs_u hU4 rfl
    exact ⟨rfl, fr_u (fr_0 _ _) hU4 rfl, oi_u (oi_r) hU4, by exact fun _ => by omega, Eq.trans rU4 (pf9__1 (r := ru) (a := (rs9_ T p)) (k := k) (s := s) (q := q) (show k = 1 by omega)).symm⟩
  by_cases z1_1 : k = 2
  · refine j_tsI (pc := 1) 1 (off := 44) (tgt := 45) (by decide) ds_X3_playFootball_1 (by omega) (by decide) rfl (by decide) (by decide) ?_
    refine j_blx (F := fX3) tb_X3 (nn_ _) bk_X3_playFootball_e_45 bs_X3_playFootball_e_45 hz (fun K hK => ?_)
    refine rg_i (by omega) ?_
    refine ix_i (by omega) ?_
    intro b12 b12b
    intro w13 w13b
    refine iy_i (by omega) (by omega) ?_
    refine x_nm (fun U14 hU14 => ?_)
    have e15 := up_f hU14
    refine hK 115 _ [] U14 ?_
    refine j_blx (F := fX3) tb_X3 (nn_ _) bk_X3_playFootball_e_115 bs_X3_playFootball_e_115 hz (fun K hK => ?_)
    refine (show po_X3_playFootball_e T p ru k s q U14 (none) from ?_)
    have e16 : U14 103 p 3 = T 103 p 3 := up_k hU14 (by exact Nat.ne_of_beq_eq_false rfl) p 3
    have e17 : U14 470 p 0 = T 470 p 0 := up_k hU14 (by exact Nat.ne_of_beq_eq_false rfl) p 0
    have e18 : U14 470 p 1 = T 470 p 1 := up_k hU14 (by exact Nat.ne_of_beq_eq_false rfl) p 1
    have g19 : U14 470 p 0 = T 470 p 0 := up_k hU14 (by exact Nat.ne_of_beq_eq_false rfl) p 0
    have g20 : U14 470 p 1 = T 470 p 1 := up_k hU14 (by exact Nat.ne_of_beq_eq_false rfl) p 1
    have e21 : U14 103 p 3 = T 103 p 3 := up_k hU14 (by exact Nat.ne_of_beq_eq_false rfl) p 3
    have rU14 : rs9_ U14 p = u2_ (rs9_ T p) 468 (1 - s) (wr_ ((T 468 p (1 - s)) + 1)) := rs_u hU14 rfl
    exact ⟨rfl, fr_u (fr_0 _ _) hU14 rfl, oi_u (oi_r) hU14, by exact fun _ => by omega, Eq.trans rU14 (pf9__2 (r := ru) (a := (rs9_ T p)) (k := k) (s := s) (q := q) (show ¬ (k = 1) by omega) (show k = 2 by omega)).symm⟩
  by_cases z1_2 : k = 3
  · refine j_tsI (pc := 1) 2 (off := 59) (tgt := 60) (by decide) ds_X3_playFootball_1 (by omega) (by decide) rfl (by decide) (by decide) ?_
    refine j_blx (F := fX3) tb_X3 (nn_ _) bk_X3_playFootball_e_60 bs_X3_playFootball_e_60 hz (fun K hK => ?_)
    refine hK 65 _ [vI q, vI s, vR 103 p, vI s, vR 103 p] T ?_
    refine j_callV (y := yX3_fieldPlace) (Yc := zX3_fieldPlace) (rest := [vI s, vR 103 p]) [vI s, vI q] (ct_X3_fieldPlace_e (T := T) (by omega)) cl_X3_79 (qd_c (by decide +kernel)) (nn_ _) rfl (rf_of rfl) (Nat.le_of_ble_eq_true rfl) (Nat.le_of_ble_eq_true rfl) (Nat.le_of_ble_eq_true rfl) rfl ?_
    rintro _ _ ⟨rfl, rfl⟩
    have n22 : fp9_ (rs9_ T p) s q = -1 ∨ (0 ≤ fp9_ (rs9_ T p) s q ∧ fp9_ (rs9_ T p) s q < T 470 p s ∧ T 448 p (T 471 p (s * 6 + fp9_ (rs9_ T p) s q)) = q) := fp9_b
    show J_ zX3_playFootball T (po_X3_playFootball_e T p ru k s q) 0 0 68 _ [vI (fp9_ (rs9_ T p) s q), vI s, vR 103 p] T
    refine j_callV (y := yX3_showYellow) (Yc := zX3_showYellow) (rest := []) [vI s, vI (fp9_ (rs9_ T p) s q)] (ct_X3_showYellow_e (T := T) (ru := ru) (by exact hr) (by omega) (by omega) (by omega) (by omega)) cl_X3_113 (qd_c (by decide +kernel)) (nn_ _) rfl (rf_of rfl) (Nat.le_of_ble_eq_true rfl) (Nat.le_of_ble_eq_true rfl) (Nat.le_of_ble_eq_true rfl) rfl ?_
    rintro U23 _ ⟨rfl, fU23, qU23o, qU23, qU23e⟩
    show J_ zX3_playFootball T (po_X3_playFootball_e T p ru k s q) 0 0 71 _ [] U23
    refine j_blx (F := fX3) tb_X3 (nn_ _) bk_X3_playFootball_e_71 bs_X3_playFootball_e_71 hz (fun K hK => ?_)
    refine hK 115 _ [] U23 ?_
    refine j_blx (F := fX3) tb_X3 (nn_ _) bk_X3_playFootball_e_115 bs_X3_playFootball_e_115 hz (fun K hK => ?_)
    refine (show po_X3_playFootball_e T p ru k s q U23 (none) from ?_)
    have rU23 : rs9_ U23 p = yl9_ ru (rs9_ T p) s (fp9_ (rs9_ T p) s q) := qU23e
    exact ⟨rfl, fr_t (fr_0 _ _) (fr_s fU23 rfl), oi_t (oi_r) qU23o, by exact fun z9 => by have y9 := qU23; omega, Eq.trans rU23 (pf9__3 (r := ru) (a := (rs9_ T p)) (k := k) (s := s) (q := q) (show ¬ (k = 1) by omega) (show ¬ (k = 2) by omega) (show k = 3 by omega)).symm⟩
  by_cases z1_3 : k = 4
  · refine j_tsI (pc := 1) 3 (off := 73) (tgt := 74) (by decide) ds_X3_playFootball_1 (by omega) (by decide) rfl (by decide) (by decide) ?_
    refine j_blx (F := fX3) tb_X3 (nn_ _) bk_X3_playFootball_e_74 bs_X3_playFootball_e_74 hz (fun K hK => ?_)
    refine hK 79 _ [vI q, vI s, vR 103 p, vI s, vR 103 p] T ?_
    refine j_callV (y := yX3_fieldPlace) (Yc := zX3_fieldPlace) (rest := [vI s, vR 103 p]) [vI s, vI q] (ct_X3_fieldPlace_e (T := T) (by omega)) cl_X3_79 (qd_c (by decide +kernel)) (nn_ _) rfl (rf_of rfl) (Nat.le_of_ble_eq_true rfl) (Nat.le_of_ble_eq_true rfl) (Nat.le_of_ble_eq_true rfl) rfl ?_
    rintro _ _ ⟨rfl, rfl⟩
    have n24 : fp9_ (rs9_ T p) s q = -1 ∨ (0 ≤ fp9_ (rs9_ T p) s q ∧ fp9_ (rs9_ T p) s q < T 470 p s ∧ T 448 p (T 471 p (s * 6 + fp9_ (rs9_ T p) s q)) = q) := fp9_b
    show J_ zX3_playFootball T (po_X3_playFootball_e T p ru k s q) 0 0 82 _ [vI (fp9_ (rs9_ T p) s q), vI s, vR 103 p] T
    refine j_callV (y := yX3_sendOff) (Yc := zX3_sendOff) (rest := []) [vI s, vI (fp9_ (rs9_ T p) s q)] (ct_X3_sendOff_e (T := T) (ru := ru) (by exact hr) (by omega) (by omega) (by omega) (by omega)) cl_X3_116 (qd_c (by decide +kernel)) (nn_ _) rfl (rf_of rfl) (Nat.le_of_ble_eq_true rfl) (Nat.le_of_ble_eq_true rfl) (Nat.le_of_ble_eq_true rfl) rfl ?_
    rintro U25 _ ⟨rfl, fU25, qU25o, qU25, qU25e⟩
    show J_ zX3_playFootball T (po_X3_playFootball_e T p ru k s q) 0 0 85 _ [] U25
    refine j_blx (F := fX3) tb_X3 (nn_ _) bk_X3_playFootball_e_85 bs_X3_playFootball_e_85 hz (fun K hK => ?_)
    refine hK 115 _ [] U25 ?_
    refine j_blx (F := fX3) tb_X3 (nn_ _) bk_X3_playFootball_e_115 bs_X3_playFootball_e_115 hz (fun K hK => ?_)
    refine (show po_X3_playFootball_e T p ru k s q U25 (none) from ?_)
    have rU25 : rs9_ U25 p = so9_ ru (rs9_ T p) s (fp9_ (rs9_ T p) s q) := qU25e
    exact ⟨rfl, fr_t (fr_0 _ _) (fr_s fU25 rfl), oi_t (oi_r) qU25o, by exact fun z9 => by have y9 := qU25; omega, Eq.trans rU25 (pf9__4 (r := ru) (a := (rs9_ T p)) (k := k) (s := s) (q := q) (show ¬ (k = 1) by omega) (show ¬ (k = 2) by omega) (show ¬ (k = 3) by omega) (show k = 4 by omega)).symm⟩
  refine j_tsO (pc := 1) (tgt := 88) (by decide) ds_X3_playFootball_1 (by omega) (by decide) (by decide) ?_
  refine j_blx (F := fX3) tb_X3 (nn_ _) bk_X3_playFootball_e_88 bs_X3_playFootball_e_88 hz (fun K hK => ?_)
  intro b26 b26b
  intro w27 w27b
  refine bd_i (by omega) ?_
  refine x_nm (fun U28 hU28 => ?_)
  have e29 := up_f hU28
  intro b30 b30b
  have e31 : U28 103 p 4 = wr_ ((T 103 p 4) + 1) := up_f hU28
  rw [e31] at b30 b30b ⊢
  refine And.intro (fun c32 => ?_) (fun c32 => ?_)
  · refine hK 111 _ [vR 103 p] U28 ?_
    refine j_blx (F := fX3) tb_X3 (nn_ _) bk_X3_playFootball_e_111 bs_X3_playFootball_e_111 hz (fun K hK => ?_)
    refine bd_i (by omega) ?_
    refine x_nm (fun U33 hU33 => ?_)
    have e34 := up_f hU33
    refine (show po_X3_playFootball_e T p ru k s q U33 (none) from ?_)
    have e35 : U33 103 p 3 = 0 := up_f hU33
    have e36 : U33 470 p 0 = T 470 p 0 := (up_k hU33 (by exact Nat.ne_of_beq_eq_false rfl) p 0).trans (up_k hU28 (by exact Nat.ne_of_beq_eq_false rfl) p 0)
    have e37 : U33 470 p 1 = T 470 p 1 := (up_k hU33 (by exact Nat.ne_of_beq_eq_false rfl) p 1).trans (up_k hU28 (by exact Nat.ne_of_beq_eq_false rfl) p 1)
    have g38 : U33 470 p 0 = T 470 p 0 := (up_k hU33 (by exact Nat.ne_of_beq_eq_false rfl) p 0).trans (up_k hU28 (by exact Nat.ne_of_beq_eq_false rfl) p 0)
    have g39 : U33 470 p 1 = T 470 p 1 := (up_k hU33 (by exact Nat.ne_of_beq_eq_false rfl) p 1).trans (up_k hU28 (by exact Nat.ne_of_beq_eq_false rfl) p 1)
    have e40 : U33 103 p 3 = 0 := up_f hU33
    have rU28 : rs9_ U28 p = u2_ (rs9_ T p) 103 4 (wr_ ((T 103 p 4) + 1)) := rs_u hU28 rfl
    have rU33 : rs9_ U33 p = u2_ (u2_ (rs9_ T p) 103 4 (wr_ ((T 103 p 4) + 1))) 103 3 0 := by rw [rs_u hU33 rfl, rU28]
    exact ⟨rfl, fr_u (fr_u (fr_0 _ _) hU28 rfl) hU33 rfl, oi_u (oi_u (oi_r) hU28) hU33, by exact fun _ => by omega, Eq.trans rU33 (pf9__6 (r := ru) (a := (rs9_ T p)) (k := k) (s := s) (q := q) (show ¬ (k = 1) by omega) (show ¬ (k = 2) by omega) (show ¬ (k = 3) by omega) (show ¬ (k = 4) by omega) (show ¬ (wr_ (T 103 p 4 + 1) = 3) by omega)).symm⟩
  · refine hK 112 _ [vI 1, vR 103 p] U28 ?_
    refine j_blx (F := fX3) tb_X3 (nn_ _) bk_X3_playFootball_e_112 bs_X3_playFootball_e_112 hz (fun K hK => ?_)
    refine bd_i (by omega) ?_
    refine x_nm (fun U41 hU41 => ?_)
    have e42 := up_f hU41
    refine (show po_X3_playFootball_e T p ru k s q U41 (none) from ?_)
    have e43 : U41 103 p 3 = 1 := up_f hU41
    have e44 : U41 470 p 0 = T 470 p 0 := (up_k hU41 (by exact Nat.ne_of_beq_eq_false rfl) p 0).trans (up_k hU28 (by exact Nat.ne_of_beq_eq_false rfl) p 0)
    have e45 : U41 470 p 1 = T 470 p 1 := (up_k hU41 (by exact Nat.ne_of_beq_eq_false rfl) p 1).trans (up_k hU28 (by exact Nat.ne_of_beq_eq_false rfl) p 1)
    have g46 : U41 470 p 0 = T 470 p 0 := (up_k hU41 (by exact Nat.ne_of_beq_eq_false rfl) p 0).trans (up_k hU28 (by exact Nat.ne_of_beq_eq_false rfl) p 0)
    have g47 : U41 470 p 1 = T 470 p 1 := (up_k hU41 (by exact Nat.ne_of_beq_eq_false rfl) p 1).trans (up_k hU28 (by exact Nat.ne_of_beq_eq_false rfl) p 1)
    have e48 : U41 103 p 3 = 1 := up_f hU41
    have rU28 : rs9_ U28 p = u2_ (rs9_ T p) 103 4 (wr_ ((T 103 p 4) + 1)) := rs_u hU28 rfl
    have rU41 : rs9_ U41 p = u2_ (u2_ (rs9_ T p) 103 4 (wr_ ((T 103 p 4) + 1))) 103 3 1 := by rw [rs_u hU41 rfl, rU28]
    exact ⟨rfl, fr_u (fr_u (fr_0 _ _) hU28 rfl) hU41 rfl, oi_u (oi_u (oi_r) hU28) hU41, by exact fun _ => by omega, Eq.trans rU41 (pf9__5 (r := ru) (a := (rs9_ T p)) (k := k) (s := s) (q := q) (show ¬ (k = 1) by omega) (show ¬ (k = 2) by omega) (show ¬ (k = 3) by omega) (show ¬ (k = 4) by omega) (show wr_ (T 103 p 4 + 1) = 3 by omega)).symm⟩
theorem bk_X3_playVolleyball_e_0 : ck_ fX3 none cX3_playVolleyball 0 [.aload 0, .tableswitch 0 3 5 #[], .iload 1, .if_icmp .eq 13, .aload 0, .iload 1] 10 = true := qck_r (nn_ _) (by decide +kernel)
theorem bs_X3_playVolleyball_e_0 {P : Zt → Option Zv → Prop} (K : Int → Zl → List Zv → Zt → Prop) : sx_ K P [.aload 0, .tableswitch 0 3 5 #[], .iload 1, .if_icmp .eq 13, .aload 0, .iload 1] 10 = x_aload 0 (x_g0 103 5 0 1 (x_iload 1 (x_if_icmp .eq 13 K (x_aload 0 (x_iload 1 (K 10)))))) := ((xe_aload 0).trans (congrArg (x_aload 0) ((xe_g0 (kk := 103) rfl tl_3_5).trans (congrArg (x_g0 103 5 0 1) ((xe_iload 1).trans (congrArg (x_iload 1) ((xe_if_icmp .eq 13).trans (congrArg (x_if_icmp .eq 13 K) ((xe_aload 0).trans (congrArg (x_aload 0) ((xe_iload 1).trans (congrArg (x_iload 1) xe_nil))))))))))))
theorem bk_X3_playVolleyball_e_13 : ck_ fX3 none cX3_playVolleyball 13 [.aload 0, .iload 1, .tableswitch 1 3 5 #[], .aload 0, .tableswitch 0 3 6 #[], .iload 1, .dup2, .iaload, .iconst 1, .fadd, .iastore, .aload 0, .tableswitch 0 3 4 #[], .iconst 4, .if_icmp .ne 52, .iconst 3, .aload 0, .tableswitch 0 3 0 #[], .iconst 11, .iaload, .imul, .iconst 4, .iadd, .iconst 5, .idiv, .goto 59] 52 = true := qck_r (nn_ _) (by decide +kernel)
theorem bs_X3_playVolleyball_e_13 {P : Zt → Option Zv → Prop} (K : Int → Zl → List Zv → Zt → Prop) : sx_ K P [.aload 0, .iload 1, .tableswitch 1 3 5 #[], .aload 0, .tableswitch 0 3 6 #[], .iload 1, .dup2, .iaload, .iconst 1, .fadd, .iastore, .aload 0, .tableswitch 0 3 4 #[], .iconst 4, .if_icmp .ne 52, .iconst 3, .aload 0, .tableswitch 0 3 0 #[], .iconst 11, .iaload, .imul, .iconst 4, .iadd, .iconst 5, .idiv, .goto 59] 52 = x_aload 0 (x_iload 1 (x_p 103 5 0 1 (x_aload 0 (x_g2 103 466 (x_iload 1 (x_dup2 (x_iaload (x_iconst 1 (x_fadd (x_iastore (x_aload 0 (x_g0 103 4 (-2147483648) 2147483647 (x_iconst 4 (x_if_icmp .ne 52 K (x_iconst 3 (x_aload 0 (x_g3 103 401 0 (x_iconst 11 (x_iaload (x_imul (x_iconst 4 (x_iadd (x_iconst 5 (x_idiv (x_goto 59 K))))))))))))))))))))))))) := ((xe_aload 0).trans (congrArg (x_aload 0) ((xe_iload 1).trans (congrArg (x_iload 1) ((xe_p (kk := 103) rfl tl_3_5).trans (congrArg (x_p 103 5 0 1) ((xe_aload 0).trans (congrArg (x_aload 0) ((xe_g2 (kk := 103) rfl tl_3_6).trans (congrArg (x_g2 103 466) ((xe_iload 1).trans (congrArg (x_iload 1) ((xe_dup2).trans (congrArg (x_dup2) ((xe_iaload).trans (congrArg (x_iaload) ((xe_iconst 1).trans (congrArg (x_iconst 1) ((xe_fadd).trans (congrArg (x_fadd) ((xe_iastore).trans (congrArg (x_iastore) ((xe_aload 0).trans (congrArg (x_aload 0) ((xe_g0 (kk := 103) rfl tl_3_4).trans (congrArg (x_g0 103 4 (-2147483648) 2147483647) ((xe_iconst 4).trans (congrArg (x_iconst 4) ((xe_if_icmp .ne 52).trans (congrArg (x_if_icmp .ne 52 K) ((xe_iconst 3).trans (congrArg (x_iconst 3) ((xe_aload 0).trans (congrArg (x_aload 0) ((xe_g3 (kk := 103) rfl tl_3_0).trans (congrArg (x_g3 103 401 0) ((xe_iconst 11).trans (congrArg (x_iconst 11) ((xe_iaload).trans (congrArg (x_iaload) ((xe_imul).trans (congrArg (x_imul) ((xe_iconst 4).trans (congrArg (x_iconst 4) ((xe_iadd).trans (congrArg (x_iadd) ((xe_iconst 5).trans (congrArg (x_iconst 5) ((xe_idiv).trans (congrArg (x_idiv) (xe_goto 59)))))))))))))))))))))))))))))))))))))))))))))))))))
theorem bk_X3_playVolleyball_e_52 : ck_ fX3 none cX3_playVolleyball 52 [.aload 0, .tableswitch 0 3 0 #[], .iconst 11, .iaload, .istore 2, .aload 0, .tableswitch 0 3 6 #[], .iload 1, .iload 2] 66 = true := qck_r (nn_ _) (by decide +kernel)
theorem bs_X3_playVolleyball_e_52 {P : Zt → Option Zv → Prop} (K : Int → Zl → List Zv → Zt → Prop) : sx_ K P [.aload 0, .tableswitch 0 3 0 #[], .iconst 11, .iaload, .istore 2, .aload 0, .tableswitch 0 3 6 #[], .iload 1, .iload 2] 66 = x_aload 0 (x_g3 103 401 0 (x_iconst 11 (x_iaload (x_istore 2 (x_aload 0 (x_g2 103 466 (x_iload 1 (x_iload 2 (K 66))))))))) := ((xe_aload 0).trans (congrArg (x_aload 0) ((xe_g3 (kk := 103) rfl tl_3_0).trans (congrArg (x_g3 103 401 0) ((xe_iconst 11).trans (congrArg (x_iconst 11) ((xe_iaload).trans (congrArg (x_iaload) ((xe_istore 2).trans (congrArg (x_istore 2) ((xe_aload 0).trans (congrArg (x_aload 0) ((xe_g2 (kk := 103) rfl tl_3_6).trans (congrArg (x_g2 103 466) ((xe_iload 1).trans (congrArg (x_iload 1) ((xe_iload 2).trans (congrArg (x_iload 2) xe_nil))))))))))))))))))
theorem bk_X3_playVolleyball_e_69 : ck_ fX3 none cX3_playVolleyball 69 [.ifCond .ne 73, .return_] 73 = true := qck_r (nn_ _) (by decide +kernel)
theorem bs_X3_playVolleyball_e_69 {P : Zt → Option Zv → Prop} (K : Int → Zl → List Zv → Zt → Prop) : sx_ K P [.ifCond .ne 73, .return_] 73 = x_ifCond .ne 73 K (x_return_ P) := ((xe_ifCond .ne 73).trans (congrArg (x_ifCond .ne 73 K) (xe_return_)))
theorem bk_X3_playVolleyball_e_73 : ck_ fX3 none cX3_playVolleyball 73 [.aload 0, .tableswitch 0 3 6 #[], .iconst 0] 78 = true := qck_r (nn_ _) (by decide +kernel)
theorem bs_X3_playVolleyball_e_73 {P : Zt → Option Zv → Prop} (K : Int → Zl → List Zv → Zt → Prop) : sx_ K P [.aload 0, .tableswitch 0 3 6 #[], .iconst 0] 78 = x_aload 0 (x_g2 103 466 (x_iconst 0 (K 78))) := ((xe_aload 0).trans (congrArg (x_aload 0) ((xe_g2 (kk := 103) rfl tl_3_6).trans (congrArg (x_g2 103 466) ((xe_iconst 0).trans (congrArg (x_iconst 0) xe_nil))))))
theorem bk_X3_playVolleyball_e_81 : ck_ fX3 none cX3_playVolleyball 81 [.aload 0, .tableswitch 0 3 8 #[], .iload 1, .dup2, .iaload, .iconst 1, .fadd, .iastore, .aload 0, .tableswitch 0 3 8 #[], .iload 1, .iaload, .iconst 3, .if_icmp .ne 107, .aload 0, .iconst 1, .tableswitch 1 3 3 #[], .return_] 107 = true := qck_r (nn_ _) (by decide +kernel)
theorem bs_X3_playVolleyball_e_81 {P : Zt → Option Zv → Prop} (K : Int → Zl → List Zv → Zt → Prop) : sx_ K P [.aload 0, .tableswitch 0 3 8 #[], .iload 1, .dup2, .iaload, .iconst 1, .fadd, .iastore, .aload 0, .tableswitch 0 3 8 #[], .iload 1, .iaload, .iconst 3, .if_icmp .ne 107, .aload 0, .iconst 1, .tableswitch 1 3 3 #[], .return_] 107 = x_aload 0 (x_g2 103 468 (x_iload 1 (x_dup2 (x_iaload (x_iconst 1 (x_fadd (x_iastore (x_aload 0 (x_g2 103 468 (x_iload 1 (x_iaload (x_iconst 3 (x_if_icmp .ne 107 K (x_aload 0 (x_iconst 1 (x_p 103 3 0 1 (x_return_ P))))))))))))))))) := ((xe_aload 0).trans (congrArg (x_aload 0) ((xe_g2 (kk := 103) rfl tl_3_8).trans (congrArg (x_g2 103 468) ((xe_iload 1).trans (congrArg (x_iload 1) ((xe_dup2).trans (congrArg (x_dup2) ((xe_iaload).trans (congrArg (x_iaload) ((xe_iconst 1).trans (congrArg (x_iconst 1) ((xe_fadd).trans (congrArg (x_fadd) ((xe_iastore).trans (congrArg (x_iastore) ((xe_aload 0).trans (congrArg (x_aload 0) ((xe_g2 (kk := 103) rfl tl_3_8).trans (congrArg (x_g2 103 468) ((xe_iload 1).trans (congrArg (x_iload 1) ((xe_iaload).trans (congrArg (x_iaload) ((xe_iconst 3).trans (congrArg (x_iconst 3) ((xe_if_icmp .ne 107).trans (congrArg (x_if_icmp .ne 107 K) ((xe_aload 0).trans (congrArg (x_aload 0) ((xe_iconst 1).trans (congrArg (x_iconst 1) ((xe_p (kk := 103) rfl tl_3_3).trans (congrArg (x_p 103 3 0 1) (xe_return_)))))))))))))))))))))))))))))))))))
theorem bk_X3_playVolleyball_e_107 : ck_ fX3 none cX3_playVolleyball 107 [.aload 0, .dup, .tableswitch 0 3 4 #[], .iconst 1, .fadd, .tableswitch 1 3 4 #[], .aload 0, .aload 0, .tableswitch 0 3 4 #[], .iconst 1, .iand, .tableswitch 1 3 5 #[], .return_] 128 = true := qck_r (nn_ _) (by decide +kernel)
theorem bs_X3_playVolleyball_e_107 {P : Zt → Option Zv → Prop} (K : Int → Zl → List Zv → Zt → Prop) : sx_ K P [.aload 0, .dup, .tableswitch 0 3 4 #[], .iconst 1, .fadd, .tableswitch 1 3 4 #[], .aload 0, .aload 0, .tableswitch 0 3 4 #[], .iconst 1, .iand, .tableswitch 1 3 5 #[], .return_] 128 = x_aload 0 (x_dup (x_g0 103 4 (-2147483648) 2147483647 (x_iconst 1 (x_fadd (x_p 103 4 (-2147483648) 2147483647 (x_aload 0 (x_aload 0 (x_g0 103 4 (-2147483648) 2147483647 (x_iconst 1 (x_iand (x_p 103 5 0 1 (x_return_ P)))))))))))) := ((xe_aload 0).trans (congrArg (x_aload 0) ((xe_dup).trans (congrArg (x_dup) ((xe_g0 (kk := 103) rfl tl_3_4).trans (congrArg (x_g0 103 4 (-2147483648) 2147483647) ((xe_iconst 1).trans (congrArg (x_iconst 1) ((xe_fadd).trans (congrArg (x_fadd) ((xe_p (kk := 103) rfl tl_3_4).trans (congrArg (x_p 103 4 (-2147483648) 2147483647) ((xe_aload 0).trans (congrArg (x_aload 0) ((xe_aload 0).trans (congrArg (x_aload 0) ((xe_g0 (kk := 103) rfl tl_3_4).trans (congrArg (x_g0 103 4 (-2147483648) 2147483647) ((xe_iconst 1).trans (congrArg (x_iconst 1) ((xe_iand).trans (congrArg (x_iand) ((xe_p (kk := 103) rfl tl_3_5).trans (congrArg (x_p 103 5 0 1) (xe_return_)))))))))))))))))))))))))
theorem bk_X3_playVolleyball_e_59 : ck_ fX3 none cX3_playVolleyball 59 [.istore 2, .aload 0, .tableswitch 0 3 6 #[], .iload 1, .iload 2] 66 = true := qck_r (nn_ _) (by decide +kernel)
theorem bs_X3_playVolleyball_e_59 {P : Zt → Option Zv → Prop} (K : Int → Zl → List Zv → Zt → Prop) : sx_ K P [.istore 2, .aload 0, .tableswitch 0 3 6 #[], .iload 1, .iload 2] 66 = x_istore 2 (x_aload 0 (x_g2 103 466 (x_iload 1 (x_iload 2 (K 66))))) := ((xe_istore 2).trans (congrArg (x_istore 2) ((xe_aload 0).trans (congrArg (x_aload 0) ((xe_g2 (kk := 103) rfl tl_3_6).trans (congrArg (x_g2 103 466) ((xe_iload 1).trans (congrArg (x_iload 1) ((xe_iload 2).trans (congrArg (x_iload 2) xe_nil))))))))))
abbrev po_X3_playVolleyball_e (T : Zt) (p : Int) (ru : Int → Int) (s : Int) : Zt → Option Zv → Prop := fun T' r => r = none ∧ fr_ [(471, []), (103, [3, 4, 5]), (466, []), (468, [])] T T' ∧ (oi_ T T' p ∧ (T' 103 p 3 = 0 → 1 ≤ T' 470 p 0 ∧ 1 ≤ T' 470 p 1) ∧ rs9_ T' p = pv9_ ru (rs9_ T p) s)
set_option maxHeartbeats 4000000 in
theorem ct_X3_playVolleyball_e {T : Zt} {p : Int} {ru : Int → Int} {s : Int} (hr : RLP_ T p ru) (hs : 0 ≤ s ∧ s ≤ 1) (hfd : 1 ≤ T 470 p 0 ∧ 1 ≤ T 470 p 1) : Ct_ yX3_playVolleyball zX3_playVolleyball T [vR 103 p, vI s] (po_X3_playVolleyball_e T p ru s) := by
  refine ct_of pn_3 rfl rfl (Nat.le_of_ble_eq_true rfl) (fun hT hav => ?_)
  have hr_s : -2147483648 ≤ s ∧ s ≤ 2147483647 := hav (vI s) (List.mem_cons_of_mem _ List.mem_cons_self)
  have hz : zX3_playVolleyball.2.2.2.1 = some .boolean → ∀ (T' : Zt) (x : Int), po_X3_playVolleyball_e T p ru s T' (some (vI x)) → 0 ≤ x ∧ x ≤ 1 := fun h => by cases h
  have hr0 := hr 0 (by decide) (by decide)
  have hr9 := hr 9 (by decide) (by decide)
  have hr10 := hr 10 (by decide) (by decide)
  have hr11 := hr 11 (by decide) (by decide)
  have hr12 := hr 12 (by decide) (by decide)
  have hfx : 1 ≤ T 470 p s := by rcases (by omega : s = 0 ∨ s = 1) with z | z <;> rw [z] <;> omega
  show J_ zX3_playVolleyball T (po_X3_playVolleyball_e T p ru s) 0 0 0 [some (vR 103 p), some (vI s), none] [] T
  refine j_blx (F := fX3) tb_X3 (nn_ _) bk_X3_playVolleyball_e_0 bs_X3_playVolleyball_e_0 hz (fun K hK => ?_)
  intro b1 b1b
  refine And.intro (fun c2 => ?_) (fun c2 => ?_)
  · refine hK 13 _ [] T ?_
    refine j_blx (F := fX3) tb_X3 (nn_ _) bk_X3_playVolleyball_e_13 bs_X3_playVolleyball_e_13 hz (fun K hK => ?_)
    refine bd_i (by omega) ?_
    refine x_nm (fun U3 hU3 => ?_)
    have e4 := up_f hU3
    refine ix_i (by omega) ?_
    intro b5 b5b
    have e6 : U3 466 p s = T 466 p s := up_k hU3 (by exact Nat.ne_of_beq_eq_false rfl) p s
    rw [e6] at b5 b5b ⊢
    intro w7 w7b
    refine iy_i (by omega) (by omega) ?_
    refine x_nm (fun U8 hU8 => ?_)
    have e9 := up_f hU8
    intro b10 b10b
    have e11 : U8 103 p 4 = T 103 p 4 := (up_k hU8 (by exact Nat.ne_of_beq_eq_false rfl) p 4).trans (up_j hU3 (by decide) 103 p)
    rw [e11] at b10 b10b ⊢
    refine And.intro (fun c12 => ?_) (fun c12 => ?_)
    · refine hK 52 _ [] U8 ?_
      refine j_blx (F := fX3) tb_X3 (nn_ _) bk_X3_playVolleyball_e_52 bs_X3_playVolleyball_e_52 hz (fun K hK => ?_)
      have e14 : U8 103 p 0 = T 103 p 0 := (up_k hU8 (by exact Nat.ne_of_beq_eq_false rfl) p 0).trans (up_j hU3 (by decide) 103 p)
      refine ix_i (by omega) ?_
      intro b15 b15b
      have e16 : U8 401 (T 103 p 0) 11 = T 401 (T 103 p 0) 11 := (up_k hU8 (by exact Nat.ne_of_beq_eq_false rfl) (T 103 p 0) 11).trans (up_k hU3 (by exact Nat.ne_of_beq_eq_false rfl) (T 103 p 0) 11)
      have e17 : U8 401 (U8 103 p 0) 11 = T 401 (T 103 p 0) 11 := by rw [e14]; exact e16
      rw [e17] at b15 b15b ⊢
      refine hK 66 [some (vR 103 p), some (vI s), some (vI (T 401 (T 103 p 0) 11))] [vI (T 401 (T 103 p 0) 11), vI s, vR 466 p] U8 ?_
      have e18 : U8 466 p s = wr_ ((T 466 p s) + 1) := up_f hU8
      have e19 : U8 466 p (1 - s) = T 466 p (1 - s) := (up_g hU8 (by omega)).trans (up_k hU3 (by exact Nat.ne_of_beq_eq_false rfl) p (1 - s))
      refine j_callS (y := yX3_isWon) (Yc := zX3_isWon) (rest := []) [vR 466 p, vI s, vI (T 401 (T 103 p 0) 11)] (ct_X3_isWon_466_e (T := U8) (by omega)) cl_X3_125 (qd_c (by decide +kernel)) (nn_ _) rfl (rf_of rfl) (Nat.le_of_ble_eq_true rfl) (Nat.le_of_ble_eq_true rfl) (Nat.le_of_ble_eq_true rfl) rfl ?_
      rintro _ _ ⟨rfl, x20, rfl, hx20⟩
      rw [e18, e19] at hx20
      show J_ zX3_playVolleyball T (po_X3_playVolleyball_e T p ru s) 0 0 69 _ [vI x20] U8
      refine j_blx (F := fX3) tb_X3 (nn_ _) bk_X3_playVolleyball_e_69 bs_X3_playVolleyball_e_69 hz (fun K hK => ?_)
      refine And.intro (fun c21 => ?_) (fun c21 => ?_)
      · replace hx20 := hx20.resolve_right (fun z => c21 z.1)
        clear c21
        refine hK 73 _ [] U8 ?_
        refine j_blx (F := fX3) tb_X3 (nn_ _) bk_X3_playVolleyball_e_73 bs_X3_playVolleyball_e_73 hz (fun K hK => ?_)
        refine hK 78 _ [vI 0, vR 466 p] U8 ?_
        refine j_callS (y := yJ7_fill_53178) (Yc := zJ7_fill_53178) (rest := []) [vR 466 p, vI 0] (ct_J7_fill_466_e (T := U8) (by omega)) cl_X3_62 (qd_c (by decide +kernel)) (nn_ _) rfl (rf_of rfl) (Nat.le_of_ble_eq_true rfl) (Nat.le_of_ble_eq_true rfl) (Nat.le_of_ble_eq_true rfl) rfl ?_
        rintro U22 _ ⟨rfl, fU22, qU22o, qU22, qU22e⟩
        show J_ zX3_playVolleyball T (po_X3_playVolleyball_e T p ru s) 0 0 81 _ [] U22
        refine j_blx (F := fX3) tb_X3 (nn_ _) bk_X3_playVolleyball_e_81 bs_X3_playVolleyball_e_81 hz (fun K hK => ?_)
        refine ix_i (by omega) ?_
        intro b23 b23b
        have e24 : U22 468 p s = T 468 p s := (fU22 468 p s rfl).trans ((up_k hU8 (by exact Nat.ne_of_beq_eq_false rfl) p s).trans (up_k hU3 (by exact Nat.ne_of_beq_eq_false rfl) p s))
        rw [e24] at b23 b23b ⊢
        intro w25 w25b
        refine iy_i (by omega) (by omega) ?_
        refine x_nm (fun U26 hU26 => ?_)
        have e27 := up_f hU26
        refine ix_i (by omega) ?_
        intro b28 b28b
        have e29 : U26 468 p s = wr_ ((T 468 p s) + 1) := up_f hU26
        rw [e29] at b28 b28b ⊢
        refine And.intro (fun c30 => ?_) (fun c30 => ?_)
        · refine hK 107 _ [] U26 ?_
          refine j_blx (F := fX3) tb_X3 (nn_ _) bk_X3_playVolleyball_e_107 bs_X3_playVolleyball_e_107 hz (fun K hK => ?_)
          intro b31 b31b
          have e32 : U26 103 p 4 = T 103 p 4 := (up_k hU26 (by exact Nat.ne_of_beq_eq_false rfl) p 4).trans ((fU22 103 p 4 rfl).trans ((up_k hU8 (by exact Nat.ne_of_beq_eq_false rfl) p 4).trans (up_j hU3 (by decide) 103 p)))
          rw [e32] at b31 b31b ⊢
          intro w33 w33b
          refine bd_i (by omega) ?_
          refine x_nm (fun U34 hU34 => ?_)
          have e35 := up_f hU34
          intro b36 b36b
          have e37 : U34 103 p 4 = wr_ ((T 103 p 4) + 1) := up_f hU34
          rw [e37] at b36 b36b ⊢
          intro w38 w38b
          have n39 := an_1b (wr_ ((T 103 p 4) + 1))
          refine bd_i (by omega) ?_
          refine x_nm (fun U40 hU40 => ?_)
          have e41 := up_f hU40
          refine (show po_X3_playVolleyball_e T p ru s U40 (none) from ?_)
          have e42 : U40 103 p 3 = T 103 p 3 := (up_j hU40 (by decide) 103 p).trans ((up_j hU34 (by decide) 103 p).trans ((up_k hU26 (by exact Nat.ne_of_beq_eq_false rfl) p 3).trans ((fU22 103 p 3 rfl).trans ((up_k hU8 (by exact Nat.ne_of_beq_eq_false rfl) p 3).trans (up_j hU3 (by decide) 103 p)))))
          have e43 : U40 470 p 0 = T 470 p 0 := (up_k hU40 (by exact Nat.ne_of_beq_eq_false rfl) p 0).trans ((up_k hU34 (by exact Nat.ne_of_beq_eq_false rfl) p 0).trans ((up_k hU26 (by exact Nat.ne_of_beq_eq_false rfl) p 0).trans ((fU22 470 p 0 rfl).trans ((up_k hU8 (by exact Nat.ne_of_beq_eq_false rfl) p 0).trans (up_k hU3 (by exact Nat.ne_of_beq_eq_false rfl) p 0)))))
          have e44 : U40 470 p 1 = T 470 p 1 := (up_k hU40 (by exact Nat.ne_of_beq_eq_false rfl) p 1).trans ((up_k hU34 (by exact Nat.ne_of_beq_eq_false rfl) p 1).trans ((up_k hU26 (by exact Nat.ne_of_beq_eq_false rfl) p 1).trans ((fU22 470 p 1 rfl).trans ((up_k hU8 (by exact Nat.ne_of_beq_eq_false rfl) p 1).trans (up_k hU3 (by exact Nat.ne_of_beq_eq_false rfl) p 1)))))
          have g45 : U40 470 p 0 = T 470 p 0 := (up_k hU40 (by exact Nat.ne_of_beq_eq_false rfl) p 0).trans ((up_k hU34 (by exact Nat.ne_of_beq_eq_false rfl) p 0).trans ((up_k hU26 (by exact Nat.ne_of_beq_eq_false rfl) p 0).trans ((fU22 470 p 0 rfl).trans ((up_k hU8 (by exact Nat.ne_of_beq_eq_false rfl) p 0).trans (up_k hU3 (by exact Nat.ne_of_beq_eq_false rfl) p 0)))))
          have g46 : U40 470 p 1 = T 470 p 1 := (up_k hU40 (by exact Nat.ne_of_beq_eq_false rfl) p 1).trans ((up_k hU34 (by exact Nat.ne_of_beq_eq_false rfl) p 1).trans ((up_k hU26 (by exact Nat.ne_of_beq_eq_false rfl) p 1).trans ((fU22 470 p 1 rfl).trans ((up_k hU8 (by exact Nat.ne_of_beq_eq_false rfl) p 1).trans (up_k hU3 (by exact Nat.ne_of_beq_eq_false rfl) p 1)))))
          have e47 : U40 103 p 3 = T 103 p 3 := (up_j hU40 (by decide) 103 p).trans ((up_j hU34 (by decide) 103 p).trans ((up_k hU26 (by exact Nat.ne_of_beq_eq_false rfl) p 3).trans ((fU22 103 p 3 rfl).trans ((up_k hU8 (by exact Nat.ne_of_beq_eq_false rfl) p 3).trans (up_j hU3 (by decide) 103 p)))))
          have rU3 : rs9_ U3 p = u2_ (rs9_ T p) 103 5 s := rs_u hU3 rfl
          have rU8 : rs9_ U8 p = u2_ (u2_ (rs9_ T p) 103 5 s) 466 s (wr_ ((T 466 p s) + 1)) := by rw [rs_u hU8 rfl, rU3]
          have rU22 : rs9_ U22 p = fy2_ (u2_ (u2_ (rs9_ T p) 103 5 s) 466 s (wr_ ((T 466 p s) + 1))) 466 2 0 := by rw [qU22e, rU8]
          have rU26 : rs9_ U26 p = u2_ (fy2_ (u2_ (u2_ (rs9_ T p) 103 5 s) 466 s (wr_ ((T 466 p s) + 1))) 466 2 0) 468 s (wr_ ((T 468 p s) + 1)) := by rw [rs_u hU26 rfl, rU22]
          have rU34 : rs9_ U34 p = u2_ (u2_ (fy2_ (u2_ (u2_ (rs9_ T p) 103 5 s) 466 s (wr_ ((T 466 p s) + 1))) 466 2 0) 468 s (wr_ ((T 468 p s) + 1))) 103 4 (wr_ ((T 103 p 4) + 1)) := by rw [rs_u hU34 rfl, rU26]
          have rU40 : rs9_ U40 p = u2_ (u2_ (u2_ (fy2_ (u2_ (u2_ (rs9_ T p) 103 5 s) 466 s (wr_ ((T 466 p s) + 1))) 466 2 0) 468 s (wr_ ((T 468 p s) + 1))) 103 4 (wr_ ((T 103 p 4) + 1))) 103 5 (an_ (wr_ ((T 103 p 4) + 1)) 1) := by rw [rs_u hU40 rfl, rU34]
          exact ⟨rfl, fr_u (fr_u (fr_u (fr_t (fr_u (fr_u (fr_0 _ _) hU3 rfl) hU8 rfl) (fr_s fU22 rfl)) hU26 rfl) hU34 rfl) hU40 rfl, oi_u (oi_u (oi_u (oi_t (oi_u (oi_u (oi_r) hU3) hU8) qU22o) hU26) hU34) hU40, by exact fun _ => by omega, Eq.trans rU40 (pv9__5 (r := ru) (a := (rs9_ T p)) (s := s) (show T 103 p 5 = s by omega) (show ¬ (T 103 p 4 = 4) by omega) (show ru 11 ≤ wr_ (T 466 p s + 1) ∧ 2 ≤ wr_ (wr_ (T 466 p s + 1) - T 466 p (1 - s)) by omega) (show ¬ (wr_ (T 468 p s + 1) = 3) by omega)).symm⟩
        · refine bd_i (by omega) ?_
          refine x_nm (fun U48 hU48 => ?_)
          have e49 := up_f hU48
          refine (show po_X3_playVolleyball_e T p ru s U48 (none) from ?_)
          have e50 : U48 103 p 3 = 1 := up_f hU48
          have e51 : U48 470 p 0 = T 470 p 0 := (up_k hU48 (by exact Nat.ne_of_beq_eq_false rfl) p 0).trans ((up_k hU26 (by exact Nat.ne_of_beq_eq_false rfl) p 0).trans ((fU22 470 p 0 rfl).trans ((up_k hU8 (by exact Nat.ne_of_beq_eq_false rfl) p 0).trans (up_k hU3 (by exact Nat.ne_of_beq_eq_false rfl) p 0))))
          have e52 : U48 470 p 1 = T 470 p 1 := (up_k hU48 (by exact Nat.ne_of_beq_eq_false rfl) p 1).trans ((up_k hU26 (by exact Nat.ne_of_beq_eq_false rfl) p 1).trans ((fU22 470 p 1 rfl).trans ((up_k hU8 (by exact Nat.ne_of_beq_eq_false rfl) p 1).trans (up_k hU3 (by exact Nat.ne_of_beq_eq_false rfl) p 1))))
          have g53 : U48 470 p 0 = T 470 p 0 := (up_k hU48 (by exact Nat.ne_of_beq_eq_false rfl) p 0).trans ((up_k hU26 (by exact Nat.ne_of_beq_eq_false rfl) p 0).trans ((fU22 470 p 0 rfl).trans ((up_k hU8 (by exact Nat.ne_of_beq_eq_false rfl) p 0).trans (up_k hU3 (by exact Nat.ne_of_beq_eq_false rfl) p 0))))
          have g54 : U48 470 p 1 = T 470 p 1 := (up_k hU48 (by exact Nat.ne_of_beq_eq_false rfl) p 1).trans ((up_k hU26 (by exact Nat.ne_of_beq_eq_false rfl) p 1).trans ((fU22 470 p 1 rfl).trans ((up_k hU8 (by exact Nat.ne_of_beq_eq_false rfl) p 1).trans (up_k hU3 (by exact Nat.ne_of_beq_eq_false rfl) p 1))))
          have e55 : U48 103 p 3 = 1 := up_f hU48
          have rU3 : rs9_ U3 p = u2_ (rs9_ T p) 103 5 s := rs_u hU3 rfl
          have rU8 : rs9_ U8 p = u2_ (u2_ (rs9_ T p) 103 5 s) 466 s (wr_ ((T 466 p s) + 1)) := by rw [rs_u hU8 rfl, rU3]
          have rU22 : rs9_ U22 p = fy2_ (u2_ (u2_ (rs9_ T p) 103 5 s) 466 s (wr_ ((T 466 p s) + 1))) 466 2 0 := by rw [qU22e, rU8]
          have rU26 : rs9_ U26 p = u2_ (fy2_ (u2_ (u2_ (rs9_ T p) 103 5 s) 466 s (wr_ ((T 466 p s) + 1))) 466 2 0) 468 s (wr_ ((T 468 p s) + 1)) := by rw [rs_u hU26 rfl, rU22]
          have rU48 : rs9_ U48 p = u2_ (u2_ (fy2_ (u2_ (u2_ (rs9_ T p) 103 5 s) 466 s (wr_ ((T 466 p s) + 1))) 466 2 0) 468 s (wr_ ((T 468 p s) + 1))) 103 3 1 := by rw [rs_u hU48 rfl, rU26]
          exact ⟨rfl, fr_u (fr_u (fr_t (fr_u (fr_u (fr_0 _ _) hU3 rfl) hU8 rfl) (fr_s fU22 rfl)) hU26 rfl) hU48 rfl, oi_u (oi_u (oi_t (oi_u (oi_u (oi_r) hU3) hU8) qU22o) hU26) hU48, by exact fun _ => by omega, Eq.trans rU48 (pv9__4 (r := ru) (a := (rs9_ T p)) (s := s) (show T 103 p 5 = s by omega) (show ¬ (T 103 p 4 = 4) by omega) (show ru 11 ≤ wr_ (T 466 p s + 1) ∧ 2 ≤ wr_ (wr_ (T 466 p s + 1) - T 466 p (1 - s)) by omega) (show wr_ (T 468 p s + 1) = 3 by omega)).symm⟩
      · replace hx20 := hx20.resolve_left (fun z => absurd (c21.symm.trans z.1) (by decide))
        clear c21
        refine (show po_X3_playVolleyball_e T p ru s U8 (none) from ?_)
        have e56 : U8 103 p 3 = T 103 p 3 := (up_k hU8 (by exact Nat.ne_of_beq_eq_false rfl) p 3).trans (up_j hU3 (by decide) 103 p)
        have e57 : U8 470 p 0 = T 470 p 0 := (up_k hU8 (by exact Nat.ne_of_beq_eq_false rfl) p 0).trans (up_k hU3 (by exact Nat.ne_of_beq_eq_false rfl) p 0)
        have e58 : U8 470 p 1 = T 470 p 1 := (up_k hU8 (by exact Nat.ne_of_beq_eq_false rfl) p 1).trans (up_k hU3 (by exact Nat.ne_of_beq_eq_false rfl) p 1)
        have g59 : U8 470 p 0 = T 470 p 0 := (up_k hU8 (by exact Nat.ne_of_beq_eq_false rfl) p 0).trans (up_k hU3 (by exact Nat.ne_of_beq_eq_false rfl) p 0)
        have g60 : U8 470 p 1 = T 470 p 1 := (up_k hU8 (by exact Nat.ne_of_beq_eq_false rfl) p 1).trans (up_k hU3 (by exact Nat.ne_of_beq_eq_false rfl) p 1)
        have e61 : U8 103 p 3 = T 103 p 3 := (up_k hU8 (by exact Nat.ne_of_beq_eq_false rfl) p 3).trans (up_j hU3 (by decide) 103 p)
        have rU3 : rs9_ U3 p = u2_ (rs9_ T p) 103 5 s := rs_u hU3 rfl
        have rU8 : rs9_ U8 p = u2_ (u2_ (rs9_ T p) 103 5 s) 466 s (wr_ ((T 466 p s) + 1)) := by rw [rs_u hU8 rfl, rU3]
        exact ⟨rfl, fr_u (fr_u (fr_0 _ _) hU3 rfl) hU8 rfl, oi_u (oi_u (oi_r) hU3) hU8, by exact fun _ => by omega, Eq.trans rU8 (pv9__6 (r := ru) (a := (rs9_ T p)) (s := s) (show T 103 p 5 = s by omega) (show ¬ (T 103 p 4 = 4) by omega) (show ¬ (ru 11 ≤ wr_ (T 466 p s + 1) ∧ 2 ≤ wr_ (wr_ (T 466 p s + 1) - T 466 p (1 - s))) by omega)).symm⟩
    · have e63 : U8 103 p 0 = T 103 p 0 := (up_k hU8 (by exact Nat.ne_of_beq_eq_false rfl) p 0).trans (up_j hU3 (by decide) 103 p)
      refine ix_i (by omega) ?_
      intro b64 b64b
      have e65 : U8 401 (T 103 p 0) 11 = T 401 (T 103 p 0) 11 := (up_k hU8 (by exact Nat.ne_of_beq_eq_false rfl) (T 103 p 0) 11).trans (up_k hU3 (by exact Nat.ne_of_beq_eq_false rfl) (T 103 p 0) 11)
      have e66 : U8 401 (U8 103 p 0) 11 = T 401 (T 103 p 0) 11 := by rw [e63]; exact e65
      rw [e66] at b64 b64b ⊢
      refine rg_i (by omega) ?_
      refine rg_i (by omega) ?_
      refine dv_i (by omega) ?_
      refine hK 59 [some (vR 103 p), some (vI s), none] [vI (((3 * (T 401 (T 103 p 0) 11)) + 4) / 5)] U8 ?_
      refine j_blx (F := fX3) tb_X3 (nn_ _) bk_X3_playVolleyball_e_59 bs_X3_playVolleyball_e_59 hz (fun K hK => ?_)
      refine hK 66 [some (vR 103 p), some (vI s), some (vI (((3 * (T 401 (T 103 p 0) 11)) + 4) / 5))] [vI (((3 * (T 401 (T 103 p 0) 11)) + 4) / 5), vI s, vR 466 p] U8 ?_
      have e67 : U8 466 p s = wr_ ((T 466 p s) + 1) := up_f hU8
      have e68 : U8 466 p (1 - s) = T 466 p (1 - s) := (up_g hU8 (by omega)).trans (up_k hU3 (by exact Nat.ne_of_beq_eq_false rfl) p (1 - s))
      refine j_callS (y := yX3_isWon) (Yc := zX3_isWon) (rest := []) [vR 466 p, vI s, vI (((3 * (T 401 (T 103 p 0) 11)) + 4) / 5)] (ct_X3_isWon_466_e (T := U8) (by omega)) cl_X3_125 (qd_c (by decide +kernel)) (nn_ _) rfl (rf_of rfl) (Nat.le_of_ble_eq_true rfl) (Nat.le_of_ble_eq_true rfl) (Nat.le_of_ble_eq_true rfl) rfl ?_
      rintro _ _ ⟨rfl, x69, rfl, hx69⟩
      rw [e67, e68] at hx69
      show J_ zX3_playVolleyball T (po_X3_playVolleyball_e T p ru s) 0 0 69 _ [vI x69] U8
      refine j_blx (F := fX3) tb_X3 (nn_ _) bk_X3_playVolleyball_e_69 bs_X3_playVolleyball_e_69 hz (fun K hK => ?_)
      refine And.intro (fun c70 => ?_) (fun c70 => ?_)
      · replace hx69 := hx69.resolve_right (fun z => c70 z.1)
        clear c70
        refine hK 73 _ [] U8 ?_
        refine j_blx (F := fX3) tb_X3 (nn_ _) bk_X3_playVolleyball_e_73 bs_X3_playVolleyball_e_73 hz (fun K hK => ?_)
        refine hK 78 _ [vI 0, vR 466 p] U8 ?_
        refine j_callS (y := yJ7_fill_53178) (Yc := zJ7_fill_53178) (rest := []) [vR 466 p, vI 0] (ct_J7_fill_466_e (T := U8) (by omega)) cl_X3_62 (qd_c (by decide +kernel)) (nn_ _) rfl (rf_of rfl) (Nat.le_of_ble_eq_true rfl) (Nat.le_of_ble_eq_true rfl) (Nat.le_of_ble_eq_true rfl) rfl ?_
        rintro U71 _ ⟨rfl, fU71, qU71o, qU71, qU71e⟩
        show J_ zX3_playVolleyball T (po_X3_playVolleyball_e T p ru s) 0 0 81 _ [] U71
        refine j_blx (F := fX3) tb_X3 (nn_ _) bk_X3_playVolleyball_e_81 bs_X3_playVolleyball_e_81 hz (fun K hK => ?_)
        refine ix_i (by omega) ?_
        intro b72 b72b
        have e73 : U71 468 p s = T 468 p s := (fU71 468 p s rfl).trans ((up_k hU8 (by exact Nat.ne_of_beq_eq_false rfl) p s).trans (up_k hU3 (by exact Nat.ne_of_beq_eq_false rfl) p s))
        rw [e73] at b72 b72b ⊢
        intro w74 w74b
        refine iy_i (by omega) (by omega) ?_
        refine x_nm (fun U75 hU75 => ?_)
        have e76 := up_f hU75
        refine ix_i (by omega) ?_
        intro b77 b77b
        have e78 : U75 468 p s = wr_ ((T 468 p s) + 1) := up_f hU75
        rw [e78] at b77 b77b ⊢
        refine And.intro (fun c79 => ?_) (fun c79 => ?_)
        · refine hK 107 _ [] U75 ?_
          refine j_blx (F := fX3) tb_X3 (nn_ _) bk_X3_playVolleyball_e_107 bs_X3_playVolleyball_e_107 hz (fun K hK => ?_)
          intro b80 b80b
          have e81 : U75 103 p 4 = T 103 p 4 := (up_k hU75 (by exact Nat.ne_of_beq_eq_false rfl) p 4).trans ((fU71 103 p 4 rfl).trans ((up_k hU8 (by exact Nat.ne_of_beq_eq_false rfl) p 4).trans (up_j hU3 (by decide) 103 p)))
          rw [e81] at b80 b80b ⊢
          intro w82 w82b
          refine bd_i (by omega) ?_
          refine x_nm (fun U83 hU83 => ?_)
          have e84 := up_f hU83
          intro b85 b85b
          have e86 : U83 103 p 4 = wr_ ((T 103 p 4) + 1) := up_f hU83
          rw [e86] at b85 b85b ⊢
          intro w87 w87b
          have n88 := an_1b (wr_ ((T 103 p 4) + 1))
          refine bd_i (by omega) ?_
          refine x_nm (fun U89 hU89 => ?_)
          have e90 := up_f hU89
          refine (show po_X3_playVolleyball_e T p ru s U89 (none) from ?_)
          have e91 : U89 103 p 3 = T 103 p 3 := (up_j hU89 (by decide) 103 p).trans ((up_j hU83 (by decide) 103 p).trans ((up_k hU75 (by exact Nat.ne_of_beq_eq_false rfl) p 3).trans ((fU71 103 p 3 rfl).trans ((up_k hU8 (by exact Nat.ne_of_beq_eq_false rfl) p 3).trans (up_j hU3 (by decide) 103 p)))))
          have e92 : U89 470 p 0 = T 470 p 0 := (up_k hU89 (by exact Nat.ne_of_beq_eq_false rfl) p 0).trans ((up_k hU83 (by exact Nat.ne_of_beq_eq_false rfl) p 0).trans ((up_k hU75 (by exact Nat.ne_of_beq_eq_false rfl) p 0).trans ((fU71 470 p 0 rfl).trans ((up_k hU8 (by exact Nat.ne_of_beq_eq_false rfl) p 0).trans (up_k hU3 (by exact Nat.ne_of_beq_eq_false rfl) p 0)))))
          have e93 : U89 470 p 1 = T 470 p 1 := (up_k hU89 (by exact Nat.ne_of_beq_eq_false rfl) p 1).trans ((up_k hU83 (by exact Nat.ne_of_beq_eq_false rfl) p 1).trans ((up_k hU75 (by exact Nat.ne_of_beq_eq_false rfl) p 1).trans ((fU71 470 p 1 rfl).trans ((up_k hU8 (by exact Nat.ne_of_beq_eq_false rfl) p 1).trans (up_k hU3 (by exact Nat.ne_of_beq_eq_false rfl) p 1)))))
          have g94 : U89 470 p 0 = T 470 p 0 := (up_k hU89 (by exact Nat.ne_of_beq_eq_false rfl) p 0).trans ((up_k hU83 (by exact Nat.ne_of_beq_eq_false rfl) p 0).trans ((up_k hU75 (by exact Nat.ne_of_beq_eq_false rfl) p 0).trans ((fU71 470 p 0 rfl).trans ((up_k hU8 (by exact Nat.ne_of_beq_eq_false rfl) p 0).trans (up_k hU3 (by exact Nat.ne_of_beq_eq_false rfl) p 0)))))
          have g95 : U89 470 p 1 = T 470 p 1 := (up_k hU89 (by exact Nat.ne_of_beq_eq_false rfl) p 1).trans ((up_k hU83 (by exact Nat.ne_of_beq_eq_false rfl) p 1).trans ((up_k hU75 (by exact Nat.ne_of_beq_eq_false rfl) p 1).trans ((fU71 470 p 1 rfl).trans ((up_k hU8 (by exact Nat.ne_of_beq_eq_false rfl) p 1).trans (up_k hU3 (by exact Nat.ne_of_beq_eq_false rfl) p 1)))))
          have e96 : U89 103 p 3 = T 103 p 3 := (up_j hU89 (by decide) 103 p).trans ((up_j hU83 (by decide) 103 p).trans ((up_k hU75 (by exact Nat.ne_of_beq_eq_false rfl) p 3).trans ((fU71 103 p 3 rfl).trans ((up_k hU8 (by exact Nat.ne_of_beq_eq_false rfl) p 3).trans (up_j hU3 (by decide) 103 p)))))
          have rU3 : rs9_ U3 p = u2_ (rs9_ T p) 103 5 s := rs_u hU3 rfl
          have rU8 : rs9_ U8 p = u2_ (u2_ (rs9_ T p) 103 5 s) 466 s (wr_ ((T 466 p s) + 1)) := by rw [rs_u hU8 rfl, rU3]
          have rU71 : rs9_ U71 p = fy2_ (u2_ (u2_ (rs9_ T p) 103 5 s) 466 s (wr_ ((T 466 p s) + 1))) 466 2 0 := by rw [qU71e, rU8]
          have rU75 : rs9_ U75 p = u2_ (fy2_ (u2_ (u2_ (rs9_ T p) 103 5 s) 466 s (wr_ ((T 466 p s) + 1))) 466 2 0) 468 s (wr_ ((T 468 p s) + 1)) := by rw [rs_u hU75 rfl, rU71]
          have rU83 : rs9_ U83 p = u2_ (u2_ (fy2_ (u2_ (u2_ (rs9_ T p) 103 5 s) 466 s (wr_ ((T 466 p s) + 1))) 466 2 0) 468 s (wr_ ((T 468 p s) + 1))) 103 4 (wr_ ((T 103 p 4) + 1)) := by rw [rs_u hU83 rfl, rU75]
          have rU89 : rs9_ U89 p = u2_ (u2_ (u2_ (fy2_ (u2_ (u2_ (rs9_ T p) 103 5 s) 466 s (wr_ ((T 466 p s) + 1))) 466 2 0) 468 s (wr_ ((T 468 p s) + 1))) 103 4 (wr_ ((T 103 p 4) + 1))) 103 5 (an_ (wr_ ((T 103 p 4) + 1)) 1) := by rw [rs_u hU89 rfl, rU83]
          exact ⟨rfl, fr_u (fr_u (fr_u (fr_t (fr_u (fr_u (fr_0 _ _) hU3 rfl) hU8 rfl) (fr_s fU71 rfl)) hU75 rfl) hU83 rfl) hU89 rfl, oi_u (oi_u (oi_u (oi_t (oi_u (oi_u (oi_r) hU3) hU8) qU71o) hU75) hU83) hU89, by exact fun _ => by omega, Eq.trans rU89 (pv9__2 (r := ru) (a := (rs9_ T p)) (s := s) (show T 103 p 5 = s by omega) (show T 103 p 4 = 4 by omega) (show (3 * ru 11 + 4) / 5 ≤ wr_ (T 466 p s + 1) ∧ 2 ≤ wr_ (wr_ (T 466 p s + 1) - T 466 p (1 - s)) by omega) (show ¬ (wr_ (T 468 p s + 1) = 3) by omega)).symm⟩
        · refine bd_i (by omega) ?_
          refine x_nm (fun U97 hU97 => ?_)
          have e98 := up_f hU97
          refine (show po_X3_playVolleyball_e T p ru s U97 (none) from ?_)
          have e99 : U97 103 p 3 = 1 := up_f hU97
          have e100 : U97 470 p 0 = T 470 p 0 := (up_k hU97 (by exact Nat.ne_of_beq_eq_false rfl) p 0).trans ((up_k hU75 (by exact Nat.ne_of_beq_eq_false rfl) p 0).trans ((fU71 470 p 0 rfl).trans ((up_k hU8 (by exact Nat.ne_of_beq_eq_false rfl) p 0).trans (up_k hU3 (by exact Nat.ne_of_beq_eq_false rfl) p 0))))
          have e101 : U97 470 p 1 = T 470 p 1 := (up_k hU97 (by exact Nat.ne_of_beq_eq_false rfl) p 1).trans ((up_k hU75 (by exact Nat.ne_of_beq_eq_false rfl) p 1).trans ((fU71 470 p 1 rfl).trans ((up_k hU8 (by exact Nat.ne_of_beq_eq_false rfl) p 1).trans (up_k hU3 (by exact Nat.ne_of_beq_eq_false rfl) p 1))))
          have g102 : U97 470 p 0 = T 470 p 0 := (up_k hU97 (by exact Nat.ne_of_beq_eq_false rfl) p 0).trans ((up_k hU75 (by exact Nat.ne_of_beq_eq_false rfl) p 0).trans ((fU71 470 p 0 rfl).trans ((up_k hU8 (by exact Nat.ne_of_beq_eq_false rfl) p 0).trans (up_k hU3 (by exact Nat.ne_of_beq_eq_false rfl) p 0))))
          have g103 : U97 470 p 1 = T 470 p 1 := (up_k hU97 (by exact Nat.ne_of_beq_eq_false rfl) p 1).trans ((up_k hU75 (by exact Nat.ne_of_beq_eq_false rfl) p 1).trans ((fU71 470 p 1 rfl).trans ((up_k hU8 (by exact Nat.ne_of_beq_eq_false rfl) p 1).trans (up_k hU3 (by exact Nat.ne_of_beq_eq_false rfl) p 1))))
          have e104 : U97 103 p 3 = 1 := up_f hU97
          have rU3 : rs9_ U3 p = u2_ (rs9_ T p) 103 5 s := rs_u hU3 rfl
          have rU8 : rs9_ U8 p = u2_ (u2_ (rs9_ T p) 103 5 s) 466 s (wr_ ((T 466 p s) + 1)) := by rw [rs_u hU8 rfl, rU3]
          have rU71 : rs9_ U71 p = fy2_ (u2_ (u2_ (rs9_ T p) 103 5 s) 466 s (wr_ ((T 466 p s) + 1))) 466 2 0 := by rw [qU71e, rU8]
          have rU75 : rs9_ U75 p = u2_ (fy2_ (u2_ (u2_ (rs9_ T p) 103 5 s) 466 s (wr_ ((T 466 p s) + 1))) 466 2 0) 468 s (wr_ ((T 468 p s) + 1)) := by rw [rs_u hU75 rfl, rU71]
          have rU97 : rs9_ U97 p = u2_ (u2_ (fy2_ (u2_ (u2_ (rs9_ T p) 103 5 s) 466 s (wr_ ((T 466 p s) + 1))) 466 2 0) 468 s (wr_ ((T 468 p s) + 1))) 103 3 1 := by rw [rs_u hU97 rfl, rU75]
          exact ⟨rfl, fr_u (fr_u (fr_t (fr_u (fr_u (fr_0 _ _) hU3 rfl) hU8 rfl) (fr_s fU71 rfl)) hU75 rfl) hU97 rfl, oi_u (oi_u (oi_t (oi_u (oi_u (oi_r) hU3) hU8) qU71o) hU75) hU97, by exact fun _ => by omega, Eq.trans rU97 (pv9__1 (r := ru) (a := (rs9_ T p)) (s := s) (show T 103 p 5 = s by omega) (show T 103 p 4 = 4 by omega) (show (3 * ru 11 + 4) / 5 ≤ wr_ (T 466 p s + 1) ∧ 2 ≤ wr_ (wr_ (T 466 p s + 1) - T 466 p (1 - s)) by omega) (show wr_ (T 468 p s + 1) = 3 by omega)).symm⟩
      · replace hx69 := hx69.resolve_left (fun z => absurd (c70.symm.trans z.1) (by decide))
        clear c70
        refine (show po_X3_playVolleyball_e T p ru s U8 (none) from ?_)
        have e105 : U8 103 p 3 = T 103 p 3 := (up_k hU8 (by exact Nat.ne_of_beq_eq_false rfl) p 3).trans (up_j hU3 (by decide) 103 p)
        have e106 : U8 470 p 0 = T 470 p 0 := (up_k hU8 (by exact Nat.ne_of_beq_eq_false rfl) p 0).trans (up_k hU3 (by exact Nat.ne_of_beq_eq_false rfl) p 0)
        have e107 : U8 470 p 1 = T 470 p 1 := (up_k hU8 (by exact Nat.ne_of_beq_eq_false rfl) p 1).trans (up_k hU3 (by exact Nat.ne_of_beq_eq_false rfl) p 1)
        have g108 : U8 470 p 0 = T 470 p 0 := (up_k hU8 (by exact Nat.ne_of_beq_eq_false rfl) p 0).trans (up_k hU3 (by exact Nat.ne_of_beq_eq_false rfl) p 0)
        have g109 : U8 470 p 1 = T 470 p 1 := (up_k hU8 (by exact Nat.ne_of_beq_eq_false rfl) p 1).trans (up_k hU3 (by exact Nat.ne_of_beq_eq_false rfl) p 1)
        have e110 : U8 103 p 3 = T 103 p 3 := (up_k hU8 (by exact Nat.ne_of_beq_eq_false rfl) p 3).trans (up_j hU3 (by decide) 103 p)
        have rU3 : rs9_ U3 p = u2_ (rs9_ T p) 103 5 s := rs_u hU3 rfl
        have rU8 : rs9_ U8 p = u2_ (u2_ (rs9_ T p) 103 5 s) 466 s (wr_ ((T 466 p s) + 1)) := by rw [rs_u hU8 rfl, rU3]
        exact ⟨rfl, fr_u (fr_u (fr_0 _ _) hU3 rfl) hU8 rfl, oi_u (oi_u (oi_r) hU3) hU8, by exact fun _ => by omega, Eq.trans rU8 (pv9__3 (r := ru) (a := (rs9_ T p)) (s := s) (show T 103 p 5 = s by omega) (show T 103 p 4 = 4 by omega) (show ¬ ((3 * ru 11 + 4) / 5 ≤ wr_ (T 466 p s + 1) ∧ 2 ≤ wr_ (wr_ (T 466 p s + 1) - T 466 p (1 - s))) by omega)).symm⟩
  · refine hK 10 _ [vI s, vR 103 p] T ?_
    refine j_callV (y := yX3_rotate) (Yc := zX3_rotate) (rest := []) [vI s] (ct_X3_rotate_e (T := T) (ru := ru) (by exact hr) (by omega) (by omega)) cl_X3_122 (qd_c (by decide +kernel)) (nn_ _) rfl (rf_of rfl) (Nat.le_of_ble_eq_true rfl) (Nat.le_of_ble_eq_true rfl) (Nat.le_of_ble_eq_true rfl) rfl ?_
    rintro U111 _ ⟨rfl, fU111, qU111o, qU111, qU111e⟩
    show J_ zX3_playVolleyball T (po_X3_playVolleyball_e T p ru s) 0 0 13 _ [] U111
    refine j_blx (F := fX3) tb_X3 (nn_ _) bk_X3_playVolleyball_e_13 bs_X3_playVolleyball_e_13 hz (fun K hK => ?_)
    refine bd_i (by omega) ?_
    refine x_nm (fun U112 hU112 => ?_)
    have e113 := up_f hU112
    refine ix_i (by omega) ?_
    intro b114 b114b
    have e115 : U112 466 p s = T 466 p s := (up_k hU112 (by exact Nat.ne_of_beq_eq_false rfl) p s).trans (fU111 466 p s rfl)
    rw [e115] at b114 b114b ⊢
    intro w116 w116b
    refine iy_i (by omega) (by omega) ?_
    refine x_nm (fun U117 hU117 => ?_)
    have e118 := up_f hU117
    intro b119 b119b
    have e120 : U117 103 p 4 = T 103 p 4 := (up_k hU117 (by exact Nat.ne_of_beq_eq_false rfl) p 4).trans ((up_j hU112 (by decide) 103 p).trans (fU111 103 p 4 rfl))
    rw [e120] at b119 b119b ⊢
    refine And.intro (fun c121 => ?_) (fun c121 => ?_)
    · refine hK 52 _ [] U117 ?_
      refine j_blx (F := fX3) tb_X3 (nn_ _) bk_X3_playVolleyball_e_52 bs_X3_playVolleyball_e_52 hz (fun K hK => ?_)
      have e123 : U117 103 p 0 = T 103 p 0 := (up_k hU117 (by exact Nat.ne_of_beq_eq_false rfl) p 0).trans ((up_j hU112 (by decide) 103 p).trans (fU111 103 p 0 rfl))
      refine ix_i (by omega) ?_
      intro b124 b124b
      have e125 : U117 401 (T 103 p 0) 11 = T 401 (T 103 p 0) 11 := (up_k hU117 (by exact Nat.ne_of_beq_eq_false rfl) (T 103 p 0) 11).trans ((up_k hU112 (by exact Nat.ne_of_beq_eq_false rfl) (T 103 p 0) 11).trans (fU111 401 (T 103 p 0) 11 rfl))
      have e126 : U117 401 (U117 103 p 0) 11 = T 401 (T 103 p 0) 11 := by rw [e123]; exact e125
      rw [e126] at b124 b124b ⊢
      refine hK 66 [some (vR 103 p), some (vI s), some (vI (T 401 (T 103 p 0) 11))] [vI (T 401 (T 103 p 0) 11), vI s, vR 466 p] U117 ?_
      have e127 : U117 466 p s = wr_ ((T 466 p s) + 1) := up_f hU117
      have e128 : U117 466 p (1 - s) = T 466 p (1 - s) := (up_g hU117 (by omega)).trans ((up_k hU112 (by exact Nat.ne_of_beq_eq_false rfl) p (1 - s)).trans (fU111 466 p (1 - s) rfl))
      refine j_callS (y := yX3_isWon) (Yc := zX3_isWon) (rest := []) [vR 466 p, vI s, vI (T 401 (T 103 p 0) 11)] (ct_X3_isWon_466_e (T := U117) (by omega)) cl_X3_125 (qd_c (by decide +kernel)) (nn_ _) rfl (rf_of rfl) (Nat.le_of_ble_eq_true rfl) (Nat.le_of_ble_eq_true rfl) (Nat.le_of_ble_eq_true rfl) rfl ?_
      rintro _ _ ⟨rfl, x129, rfl, hx129⟩
      rw [e127, e128] at hx129
      show J_ zX3_playVolleyball T (po_X3_playVolleyball_e T p ru s) 0 0 69 _ [vI x129] U117
      refine j_blx (F := fX3) tb_X3 (nn_ _) bk_X3_playVolleyball_e_69 bs_X3_playVolleyball_e_69 hz (fun K hK => ?_)
      refine And.intro (fun c130 => ?_) (fun c130 => ?_)
      · replace hx129 := hx129.resolve_right (fun z => c130 z.1)
        clear c130
        refine hK 73 _ [] U117 ?_
        refine j_blx (F := fX3) tb_X3 (nn_ _) bk_X3_playVolleyball_e_73 bs_X3_playVolleyball_e_73 hz (fun K hK => ?_)
        refine hK 78 _ [vI 0, vR 466 p] U117 ?_
        refine j_callS (y := yJ7_fill_53178) (Yc := zJ7_fill_53178) (rest := []) [vR 466 p, vI 0] (ct_J7_fill_466_e (T := U117) (by omega)) cl_X3_62 (qd_c (by decide +kernel)) (nn_ _) rfl (rf_of rfl) (Nat.le_of_ble_eq_true rfl) (Nat.le_of_ble_eq_true rfl) (Nat.le_of_ble_eq_true rfl) rfl ?_
        rintro U131 _ ⟨rfl, fU131, qU131o, qU131, qU131e⟩
        show J_ zX3_playVolleyball T (po_X3_playVolleyball_e T p ru s) 0 0 81 _ [] U131
        refine j_blx (F := fX3) tb_X3 (nn_ _) bk_X3_playVolleyball_e_81 bs_X3_playVolleyball_e_81 hz (fun K hK => ?_)
        refine ix_i (by omega) ?_
        intro b132 b132b
        have e133 : U131 468 p s = T 468 p s := (fU131 468 p s rfl).trans ((up_k hU117 (by exact Nat.ne_of_beq_eq_false rfl) p s).trans ((up_k hU112 (by exact Nat.ne_of_beq_eq_false rfl) p s).trans (fU111 468 p s rfl)))
        rw [e133] at b132 b132b ⊢
        intro w134 w134b
        refine iy_i (by omega) (by omega) ?_
        refine x_nm (fun U135 hU135 => ?_)
        have e136 := up_f hU135
        refine ix_i (by omega) ?_
        intro b137 b137b
        have e138 : U135 468 p s = wr_ ((T 468 p s) + 1) := up_f hU135
        rw [e138] at b137 b137b ⊢
        refine And.intro (fun c139 => ?_) (fun c139 => ?_)
        · refine hK 107 _ [] U135 ?_
          refine j_blx (F := fX3) tb_X3 (nn_ _) bk_X3_playVolleyball_e_107 bs_X3_playVolleyball_e_107 hz (fun K hK => ?_)
          intro b140 b140b
          have e141 : U135 103 p 4 = T 103 p 4 := (up_k hU135 (by exact Nat.ne_of_beq_eq_false rfl) p 4).trans ((fU131 103 p 4 rfl).trans ((up_k hU117 (by exact Nat.ne_of_beq_eq_false rfl) p 4).trans ((up_j hU112 (by decide) 103 p).trans (fU111 103 p 4 rfl))))
          rw [e141] at b140 b140b ⊢
          intro w142 w142b
          refine bd_i (by omega) ?_
          refine x_nm (fun U143 hU143 => ?_)
          have e144 := up_f hU143
          intro b145 b145b
          have e146 : U143 103 p 4 = wr_ ((T 103 p 4) + 1) := up_f hU143
          rw [e146] at b145 b145b ⊢
          intro w147 w147b
          have n148 := an_1b (wr_ ((T 103 p 4) + 1))
          refine bd_i (by omega) ?_
          refine x_nm (fun U149 hU149 => ?_)
          have e150 := up_f hU149
          refine (show po_X3_playVolleyball_e T p ru s U149 (none) from ?_)
          have e151 : U149 103 p 3 = T 103 p 3 := (up_j hU149 (by decide) 103 p).trans ((up_j hU143 (by decide) 103 p).trans ((up_k hU135 (by exact Nat.ne_of_beq_eq_false rfl) p 3).trans ((fU131 103 p 3 rfl).trans ((up_k hU117 (by exact Nat.ne_of_beq_eq_false rfl) p 3).trans ((up_j hU112 (by decide) 103 p).trans (fU111 103 p 3 rfl))))))
          have e152 : U149 470 p 0 = T 470 p 0 := (up_k hU149 (by exact Nat.ne_of_beq_eq_false rfl) p 0).trans ((up_k hU143 (by exact Nat.ne_of_beq_eq_false rfl) p 0).trans ((up_k hU135 (by exact Nat.ne_of_beq_eq_false rfl) p 0).trans ((fU131 470 p 0 rfl).trans ((up_k hU117 (by exact Nat.ne_of_beq_eq_false rfl) p 0).trans ((up_k hU112 (by exact Nat.ne_of_beq_eq_false rfl) p 0).trans (fU111 470 p 0 rfl))))))
          have e153 : U149 470 p 1 = T 470 p 1 := (up_k hU149 (by exact Nat.ne_of_beq_eq_false rfl) p 1).trans ((up_k hU143 (by exact Nat.ne_of_beq_eq_false rfl) p 1).trans ((up_k hU135 (by exact Nat.ne_of_beq_eq_false rfl) p 1).trans ((fU131 470 p 1 rfl).trans ((up_k hU117 (by exact Nat.ne_of_beq_eq_false rfl) p 1).trans ((up_k hU112 (by exact Nat.ne_of_beq_eq_false rfl) p 1).trans (fU111 470 p 1 rfl))))))
          have g154 : U149 470 p 0 = T 470 p 0 := (up_k hU149 (by exact Nat.ne_of_beq_eq_false rfl) p 0).trans ((up_k hU143 (by exact Nat.ne_of_beq_eq_false rfl) p 0).trans ((up_k hU135 (by exact Nat.ne_of_beq_eq_false rfl) p 0).trans ((fU131 470 p 0 rfl).trans ((up_k hU117 (by exact Nat.ne_of_beq_eq_false rfl) p 0).trans ((up_k hU112 (by exact Nat.ne_of_beq_eq_false rfl) p 0).trans (fU111 470 p 0 rfl))))))
          have g155 : U149 470 p 1 = T 470 p 1 := (up_k hU149 (by exact Nat.ne_of_beq_eq_false rfl) p 1).trans ((up_k hU143 (by exact Nat.ne_of_beq_eq_false rfl) p 1).trans ((up_k hU135 (by exact Nat.ne_of_beq_eq_false rfl) p 1).trans ((fU131 470 p 1 rfl).trans ((up_k hU117 (by exact Nat.ne_of_beq_eq_false rfl) p 1).trans ((up_k hU112 (by exact Nat.ne_of_beq_eq_false rfl) p 1).trans (fU111 470 p 1 rfl))))))
          have e156 : U149 103 p 3 = T 103 p 3 := (up_j hU149 (by decide) 103 p).trans ((up_j hU143 (by decide) 103 p).trans ((up_k hU135 (by exact Nat.ne_of_beq_eq_false rfl) p 3).trans ((fU131 103 p 3 rfl).trans ((up_k hU117 (by exact Nat.ne_of_beq_eq_false rfl) p 3).trans ((up_j hU112 (by decide) 103 p).trans (fU111 103 p 3 rfl))))))
          have rU111 : rs9_ U111 p = rt9_ (rs9_ T p) s := qU111e
          have rU112 : rs9_ U112 p = u2_ (rt9_ (rs9_ T p) s) 103 5 s := by rw [rs_u hU112 rfl, rU111]
          have rU117 : rs9_ U117 p = u2_ (u2_ (rt9_ (rs9_ T p) s) 103 5 s) 466 s (wr_ ((T 466 p s) + 1)) := by rw [rs_u hU117 rfl, rU112]
          have rU131 : rs9_ U131 p = fy2_ (u2_ (u2_ (rt9_ (rs9_ T p) s) 103 5 s) 466 s (wr_ ((T 466 p s) + 1))) 466 2 0 := by rw [qU131e, rU117]
          have rU135 : rs9_ U135 p = u2_ (fy2_ (u2_ (u2_ (rt9_ (rs9_ T p) s) 103 5 s) 466 s (wr_ ((T 466 p s) + 1))) 466 2 0) 468 s (wr_ ((T 468 p s) + 1)) := by rw [rs_u hU135 rfl, rU131]
          have rU143 : rs9_ U143 p = u2_ (u2_ (fy2_ (u2_ (u2_ (rt9_ (rs9_ T p) s) 103 5 s) 466 s (wr_ ((T 466 p s) + 1))) 466 2 0) 468 s (wr_ ((T 468 p s) + 1))) 103 4 (wr_ ((T 103 p 4) + 1)) := by rw [rs_u hU143 rfl, rU135]
          have rU149 : rs9_ U149 p = u2_ (u2_ (u2_ (fy2_ (u2_ (u2_ (rt9_ (rs9_ T p) s) 103 5 s) 466 s (wr_ ((T 466 p s) + 1))) 466 2 0) 468 s (wr_ ((T 468 p s) + 1))) 103 4 (wr_ ((T 103 p 4) + 1))) 103 5 (an_ (wr_ ((T 103 p 4) + 1)) 1) := by rw [rs_u hU149 rfl, rU143]
          exact ⟨rfl, fr_u (fr_u (fr_u (fr_t (fr_u (fr_u (fr_t (fr_0 _ _) (fr_s fU111 rfl)) hU112 rfl) hU117 rfl) (fr_s fU131 rfl)) hU135 rfl) hU143 rfl) hU149 rfl, oi_u (oi_u (oi_u (oi_t (oi_u (oi_u (oi_t (oi_r) qU111o) hU112) hU117) qU131o) hU135) hU143) hU149, by exact fun _ => by omega, Eq.trans rU149 (pv9__11 (r := ru) (a := (rs9_ T p)) (s := s) (show ¬ (T 103 p 5 = s) by omega) (show ¬ (T 103 p 4 = 4) by omega) (show ru 11 ≤ wr_ (T 466 p s + 1) ∧ 2 ≤ wr_ (wr_ (T 466 p s + 1) - T 466 p (1 - s)) by omega) (show ¬ (wr_ (T 468 p s + 1) = 3) by omega)).symm⟩
        · refine bd_i (by omega) ?_
          refine x_nm (fun U157 hU157 => ?_)
          have e158 := up_f hU157
          refine (show po_X3_playVolleyball_e T p ru s U157 (none) from ?_)
          have e159 : U157 103 p 3 = 1 := up_f hU157
          have e160 : U157 470 p 0 = T 470 p 0 := (up_k hU157 (by exact Nat.ne_of_beq_eq_false rfl) p 0).trans ((up_k hU135 (by exact Nat.ne_of_beq_eq_false rfl) p 0).trans ((fU131 470 p 0 rfl).trans ((up_k hU117 (by exact Nat.ne_of_beq_eq_false rfl) p 0).trans ((up_k hU112 (by exact Nat.ne_of_beq_eq_false rfl) p 0).trans (fU111 470 p 0 rfl)))))
          have e161 : U157 470 p 1 = T 470 p 1 := (up_k hU157 (by exact Nat.ne_of_beq_eq_false rfl) p 1).trans ((up_k hU135 (by exact Nat.ne_of_beq_eq_false rfl) p 1).trans ((fU131 470 p 1 rfl).trans ((up_k hU117 (by exact Nat.ne_of_beq_eq_false rfl) p 1).trans ((up_k hU112 (by exact Nat.ne_of_beq_eq_false rfl) p 1).trans (fU111 470 p 1 rfl)))))
          have g162 : U157 470 p 0 = T 470 p 0 := (up_k hU157 (by exact Nat.ne_of_beq_eq_false rfl) p 0).trans ((up_k hU135 (by exact Nat.ne_of_beq_eq_false rfl) p 0).trans ((fU131 470 p 0 rfl).trans ((up_k hU117 (by exact Nat.ne_of_beq_eq_false rfl) p 0).trans ((up_k hU112 (by exact Nat.ne_of_beq_eq_false rfl) p 0).trans (fU111 470 p 0 rfl)))))
          have g163 : U157 470 p 1 = T 470 p 1 := (up_k hU157 (by exact Nat.ne_of_beq_eq_false rfl) p 1).trans ((up_k hU135 (by exact Nat.ne_of_beq_eq_false rfl) p 1).trans ((fU131 470 p 1 rfl).trans ((up_k hU117 (by exact Nat.ne_of_beq_eq_false rfl) p 1).trans ((up_k hU112 (by exact Nat.ne_of_beq_eq_false rfl) p 1).trans (fU111 470 p 1 rfl)))))
          have e164 : U157 103 p 3 = 1 := up_f hU157
          have rU111 : rs9_ U111 p = rt9_ (rs9_ T p) s := qU111e
          have rU112 : rs9_ U112 p = u2_ (rt9_ (rs9_ T p) s) 103 5 s := by rw [rs_u hU112 rfl, rU111]
          have rU117 : rs9_ U117 p = u2_ (u2_ (rt9_ (rs9_ T p) s) 103 5 s) 466 s (wr_ ((T 466 p s) + 1)) := by rw [rs_u hU117 rfl, rU112]
          have rU131 : rs9_ U131 p = fy2_ (u2_ (u2_ (rt9_ (rs9_ T p) s) 103 5 s) 466 s (wr_ ((T 466 p s) + 1))) 466 2 0 := by rw [qU131e, rU117]
          have rU135 : rs9_ U135 p = u2_ (fy2_ (u2_ (u2_ (rt9_ (rs9_ T p) s) 103 5 s) 466 s (wr_ ((T 466 p s) + 1))) 466 2 0) 468 s (wr_ ((T 468 p s) + 1)) := by rw [rs_u hU135 rfl, rU131]
          have rU157 : rs9_ U157 p = u2_ (u2_ (fy2_ (u2_ (u2_ (rt9_ (rs9_ T p) s) 103 5 s) 466 s (wr_ ((T 466 p s) + 1))) 466 2 0) 468 s (wr_ ((T 468 p s) + 1))) 103 3 1 := by rw [rs_u hU157 rfl, rU135]
          exact ⟨rfl, fr_u (fr_u (fr_t (fr_u (fr_u (fr_t (fr_0 _ _) (fr_s fU111 rfl)) hU112 rfl) hU117 rfl) (fr_s fU131 rfl)) hU135 rfl) hU157 rfl, oi_u (oi_u (oi_t (oi_u (oi_u (oi_t (oi_r) qU111o) hU112) hU117) qU131o) hU135) hU157, by exact fun _ => by omega, Eq.trans rU157 (pv9__10 (r := ru) (a := (rs9_ T p)) (s := s) (show ¬ (T 103 p 5 = s) by omega) (show ¬ (T 103 p 4 = 4) by omega) (show ru 11 ≤ wr_ (T 466 p s + 1) ∧ 2 ≤ wr_ (wr_ (T 466 p s + 1) - T 466 p (1 - s)) by omega) (show wr_ (T 468 p s + 1) = 3 by omega)).symm⟩
      · replace hx129 := hx129.resolve_left (fun z => absurd (c130.symm.trans z.1) (by decide))
        clear c130
        refine (show po_X3_playVolleyball_e T p ru s U117 (none) from ?_)
        have e165 : U117 103 p 3 = T 103 p 3 := (up_k hU117 (by exact Nat.ne_of_beq_eq_false rfl) p 3).trans ((up_j hU112 (by decide) 103 p).trans (fU111 103 p 3 rfl))
        have e166 : U117 470 p 0 = T 470 p 0 := (up_k hU117 (by exact Nat.ne_of_beq_eq_false rfl) p 0).trans ((up_k hU112 (by exact Nat.ne_of_beq_eq_false rfl) p 0).trans (fU111 470 p 0 rfl))
        have e167 : U117 470 p 1 = T 470 p 1 := (up_k hU117 (by exact Nat.ne_of_beq_eq_false rfl) p 1).trans ((up_k hU112 (by exact Nat.ne_of_beq_eq_false rfl) p 1).trans (fU111 470 p 1 rfl))
        have g168 : U117 470 p 0 = T 470 p 0 := (up_k hU117 (by exact Nat.ne_of_beq_eq_false rfl) p 0).trans ((up_k hU112 (by exact Nat.ne_of_beq_eq_false rfl) p 0).trans (fU111 470 p 0 rfl))
        have g169 : U117 470 p 1 = T 470 p 1 := (up_k hU117 (by exact Nat.ne_of_beq_eq_false rfl) p 1).trans ((up_k hU112 (by exact Nat.ne_of_beq_eq_false rfl) p 1).trans (fU111 470 p 1 rfl))
        have e170 : U117 103 p 3 = T 103 p 3 := (up_k hU117 (by exact Nat.ne_of_beq_eq_false rfl) p 3).trans ((up_j hU112 (by decide) 103 p).trans (fU111 103 p 3 rfl))
        have rU111 : rs9_ U111 p = rt9_ (rs9_ T p) s := qU111e
        have rU112 : rs9_ U112 p = u2_ (rt9_ (rs9_ T p) s) 103 5 s := by rw [rs_u hU112 rfl, rU111]
        have rU117 : rs9_ U117 p = u2_ (u2_ (rt9_ (rs9_ T p) s) 103 5 s) 466 s (wr_ ((T 466 p s) + 1)) := by rw [rs_u hU117 rfl, rU112]
        exact ⟨rfl, fr_u (fr_u (fr_t (fr_0 _ _) (fr_s fU111 rfl)) hU112 rfl) hU117 rfl, oi_u (oi_u (oi_t (oi_r) qU111o) hU112) hU117, by exact fun _ => by omega, Eq.trans rU117 (pv9__12 (r := ru) (a := (rs9_ T p)) (s := s) (show ¬ (T 103 p 5 = s) by omega) (show ¬ (T 103 p 4 = 4) by omega) (show ¬ (ru 11 ≤ wr_ (T 466 p s + 1) ∧ 2 ≤ wr_ (wr_ (T 466 p s + 1) - T 466 p (1 - s))) by omega)).symm⟩
    · have e172 : U117 103 p 0 = T 103 p 0 := (up_k hU117 (by exact Nat.ne_of_beq_eq_false rfl) p 0).trans ((up_j hU112 (by decide) 103 p).trans (fU111 103 p 0 rfl))
      refine ix_i (by omega) ?_
      intro b173 b173b
      have e174 : U117 401 (T 103 p 0) 11 = T 401 (T 103 p 0) 11 := (up_k hU117 (by exact Nat.ne_of_beq_eq_false rfl) (T 103 p 0) 11).trans ((up_k hU112 (by exact Nat.ne_of_beq_eq_false rfl) (T 103 p 0) 11).trans (fU111 401 (T 103 p 0) 11 rfl))
      have e175 : U117 401 (U117 103 p 0) 11 = T 401 (T 103 p 0) 11 := by rw [e172]; exact e174
      rw [e175] at b173 b173b ⊢
      refine rg_i (by omega) ?_
      refine rg_i (by omega) ?_
      refine dv_i (by omega) ?_
      refine hK 59 [some (vR 103 p), some (vI s), none] [vI (((3 * (T 401 (T 103 p 0) 11)) + 4) / 5)] U117 ?_
      refine j_blx (F := fX3) tb_X3 (nn_ _) bk_X3_playVolleyball_e_59 bs_X3_playVolleyball_e_59 hz (fun K hK => ?_)
      refine hK 66 [some (vR 103 p), some (vI s), some (vI (((3 * (T 401 (T 103 p 0) 11)) + 4) / 5))] [vI (((3 * (T 401 (T 103 p 0) 11)) + 4) / 5), vI s, vR 466 p] U117 ?_
      have e176 : U117 466 p s = wr_ ((T 466 p s) + 1) := up_f hU117
      have e177 : U117 466 p (1 - s) = T 466 p (1 - s) := (up_g hU117 (by omega)).trans ((up_k hU112 (by exact Nat.ne_of_beq_eq_false rfl) p (1 - s)).trans (fU111 466 p (1 - s) rfl))
      refine j_callS (y := yX3_isWon) (Yc := zX3_isWon) (rest := []) [vR 466 p, vI s, vI (((3 * (T 401 (T 103 p 0) 11)) + 4) / 5)] (ct_X3_isWon_466_e (T := U117) (by omega)) cl_X3_125 (qd_c (by decide +kernel)) (nn_ _) rfl (rf_of rfl) (Nat.le_of_ble_eq_true rfl) (Nat.le_of_ble_eq_true rfl) (Nat.le_of_ble_eq_true rfl) rfl ?_
      rintro _ _ ⟨rfl, x178, rfl, hx178⟩
      rw [e176, e177] at hx178
      show J_ zX3_playVolleyball T (po_X3_playVolleyball_e T p ru s) 0 0 69 _ [vI x178] U117
      refine j_blx (F := fX3) tb_X3 (nn_ _) bk_X3_playVolleyball_e_69 bs_X3_playVolleyball_e_69 hz (fun K hK => ?_)
      refine And.intro (fun c179 => ?_) (fun c179 => ?_)
      · replace hx178 := hx178.resolve_right (fun z => c179 z.1)
        clear c179
        refine hK 73 _ [] U117 ?_
        refine j_blx (F := fX3) tb_X3 (nn_ _) bk_X3_playVolleyball_e_73 bs_X3_playVolleyball_e_73 hz (fun K hK => ?_)
        refine hK 78 _ [vI 0, vR 466 p] U117 ?_
        refine j_callS (y := yJ7_fill_53178) (Yc := zJ7_fill_53178) (rest := []) [vR 466 p, vI 0] (ct_J7_fill_466_e (T := U117) (by omega)) cl_X3_62 (qd_c (by decide +kernel)) (nn_ _) rfl (rf_of rfl) (Nat.le_of_ble_eq_true rfl) (Nat.le_of_ble_eq_true rfl) (Nat.le_of_ble_eq_true rfl) rfl ?_
        rintro U180 _ ⟨rfl, fU180, qU180o, qU180, qU180e⟩
        show J_ zX3_playVolleyball T (po_X3_playVolleyball_e T p ru s) 0 0 81 _ [] U180
        refine j_blx (F := fX3) tb_X3 (nn_ _) bk_X3_playVolleyball_e_81 bs_X3_playVolleyball_e_81 hz (fun K hK => ?_)
        refine ix_i (by omega) ?_
        intro b181 b181b
        have e182 : U180 468 p s = T 468 p s := (fU180 468 p s rfl).trans ((up_k hU117 (by exact Nat.ne_of_beq_eq_false rfl) p s).trans ((up_k hU112 (by exact Nat.ne_of_beq_eq_false rfl) p s).trans (fU111 468 p s rfl)))
        rw [e182] at b181 b181b ⊢
        intro w183 w183b
        refine iy_i (by omega) (by omega) ?_
        refine x_nm (fun U184 hU184 => ?_)
        have e185 := up_f hU184
        refine ix_i (by omega) ?_
        intro b186 b186b
        have e187 : U184 468 p s = wr_ ((T 468 p s) + 1) := up_f hU184
        rw [e187] at b186 b186b ⊢
        refine And.intro (fun c188 => ?_) (fun c188 => ?_)
        · refine hK 107 _ [] U184 ?_
          refine j_blx (F := fX3) tb_X3 (nn_ _) bk_X3_playVolleyball_e_107 bs_X3_playVolleyball_e_107 hz (fun K hK => ?_)
          intro b189 b189b
          have e190 : U184 103 p 4 = T 103 p 4 := (up_k hU184 (by exact Nat.ne_of_beq_eq_false rfl) p 4).trans ((fU180 103 p 4 rfl).trans ((up_k hU117 (by exact Nat.ne_of_beq_eq_false rfl) p 4).trans ((up_j hU112 (by decide) 103 p).trans (fU111 103 p 4 rfl))))
          rw [e190] at b189 b189b ⊢
          intro w191 w191b
          refine bd_i (by omega) ?_
          refine x_nm (fun U192 hU192 => ?_)
          have e193 := up_f hU192
          intro b194 b194b
          have e195 : U192 103 p 4 = wr_ ((T 103 p 4) + 1) := up_f hU192
          rw [e195] at b194 b194b ⊢
          intro w196 w196b
          have n197 := an_1b (wr_ ((T 103 p 4) + 1))
          refine bd_i (by omega) ?_
          refine x_nm (fun U198 hU198 => ?_)
          have e199 := up_f hU198
          refine (show po_X3_playVolleyball_e T p ru s U198 (none) from ?_)
          have e200 : U198 103 p 3 = T 103 p 3 := (up_j hU198 (by decide) 103 p).trans ((up_j hU192 (by decide) 103 p).trans ((up_k hU184 (by exact Nat.ne_of_beq_eq_false rfl) p 3).trans ((fU180 103 p 3 rfl).trans ((up_k hU117 (by exact Nat.ne_of_beq_eq_false rfl) p 3).trans ((up_j hU112 (by decide) 103 p).trans (fU111 103 p 3 rfl))))))
          have e201 : U198 470 p 0 = T 470 p 0 := (up_k hU198 (by exact Nat.ne_of_beq_eq_false rfl) p 0).trans ((up_k hU192 (by exact Nat.ne_of_beq_eq_false rfl) p 0).trans ((up_k hU184 (by exact Nat.ne_of_beq_eq_false rfl) p 0).trans ((fU180 470 p 0 rfl).trans ((up_k hU117 (by exact Nat.ne_of_beq_eq_false rfl) p 0).trans ((up_k hU112 (by exact Nat.ne_of_beq_eq_false rfl) p 0).trans (fU111 470 p 0 rfl))))))
          have e202 : U198 470 p 1 = T 470 p 1 := (up_k hU198 (by exact Nat.ne_of_beq_eq_false rfl) p 1).trans ((up_k hU192 (by exact Nat.ne_of_beq_eq_false rfl) p 1).trans ((up_k hU184 (by exact Nat.ne_of_beq_eq_false rfl) p 1).trans ((fU180 470 p 1 rfl).trans ((up_k hU117 (by exact Nat.ne_of_beq_eq_false rfl) p 1).trans ((up_k hU112 (by exact Nat.ne_of_beq_eq_false rfl) p 1).trans (fU111 470 p 1 rfl))))))
          have g203 : U198 470 p 0 = T 470 p 0 := (up_k hU198 (by exact Nat.ne_of_beq_eq_false rfl) p 0).trans ((up_k hU192 (by exact Nat.ne_of_beq_eq_false rfl) p 0).trans ((up_k hU184 (by exact Nat.ne_of_beq_eq_false rfl) p 0).trans ((fU180 470 p 0 rfl).trans ((up_k hU117 (by exact Nat.ne_of_beq_eq_false rfl) p 0).trans ((up_k hU112 (by exact Nat.ne_of_beq_eq_false rfl) p 0).trans (fU111 470 p 0 rfl))))))
          have g204 : U198 470 p 1 = T 470 p 1 := (up_k hU198 (by exact Nat.ne_of_beq_eq_false rfl) p 1).trans ((up_k hU192 (by exact Nat.ne_of_beq_eq_false rfl) p 1).trans ((up_k hU184 (by exact Nat.ne_of_beq_eq_false rfl) p 1).trans ((fU180 470 p 1 rfl).trans ((up_k hU117 (by exact Nat.ne_of_beq_eq_false rfl) p 1).trans ((up_k hU112 (by exact Nat.ne_of_beq_eq_false rfl) p 1).trans (fU111 470 p 1 rfl))))))
          have e205 : U198 103 p 3 = T 103 p 3 := (up_j hU198 (by decide) 103 p).trans ((up_j hU192 (by decide) 103 p).trans ((up_k hU184 (by exact Nat.ne_of_beq_eq_false rfl) p 3).trans ((fU180 103 p 3 rfl).trans ((up_k hU117 (by exact Nat.ne_of_beq_eq_false rfl) p 3).trans ((up_j hU112 (by decide) 103 p).trans (fU111 103 p 3 rfl))))))
          have rU111 : rs9_ U111 p = rt9_ (rs9_ T p) s := qU111e
          have rU112 : rs9_ U112 p = u2_ (rt9_ (rs9_ T p) s) 103 5 s := by rw [rs_u hU112 rfl, rU111]
          have rU117 : rs9_ U117 p = u2_ (u2_ (rt9_ (rs9_ T p) s) 103 5 s) 466 s (wr_ ((T 466 p s) + 1)) := by rw [rs_u hU117 rfl, rU112]
          have rU180 : rs9_ U180 p = fy2_ (u2_ (u2_ (rt9_ (rs9_ T p) s) 103 5 s) 466 s (wr_ ((T 466 p s) + 1))) 466 2 0 := by rw [qU180e, rU117]
          have rU184 : rs9_ U184 p = u2_ (fy2_ (u2_ (u2_ (rt9_ (rs9_ T p) s) 103 5 s) 466 s (wr_ ((T 466 p s) + 1))) 466 2 0) 468 s (wr_ ((T 468 p s) + 1)) := by rw [rs_u hU184 rfl, rU180]
          have rU192 : rs9_ U192 p = u2_ (u2_ (fy2_ (u2_ (u2_ (rt9_ (rs9_ T p) s) 103 5 s) 466 s (wr_ ((T 466 p s) + 1))) 466 2 0) 468 s (wr_ ((T 468 p s) + 1))) 103 4 (wr_ ((T 103 p 4) + 1)) := by rw [rs_u hU192 rfl, rU184]
          have rU198 : rs9_ U198 p = u2_ (u2_ (u2_ (fy2_ (u2_ (u2_ (rt9_ (rs9_ T p) s) 103 5 s) 466 s (wr_ ((T 466 p s) + 1))) 466 2 0) 468 s (wr_ ((T 468 p s) + 1))) 103 4 (wr_ ((T 103 p 4) + 1))) 103 5 (an_ (wr_ ((T 103 p 4) + 1)) 1) := by rw [rs_u hU198 rfl, rU192]
          exact ⟨rfl, fr_u (fr_u (fr_u (fr_t (fr_u (fr_u (fr_t (fr_0 _ _) (fr_s fU111 rfl)) hU112 rfl) hU117 rfl) (fr_s fU180 rfl)) hU184 rfl) hU192 rfl) hU198 rfl, oi_u (oi_u (oi_u (oi_t (oi_u (oi_u (oi_t (oi_r) qU111o) hU112) hU117) qU180o) hU184) hU192) hU198, by exact fun _ => by omega, Eq.trans rU198 (pv9__8 (r := ru) (a := (rs9_ T p)) (s := s) (show ¬ (T 103 p 5 = s) by omega) (show T 103 p 4 = 4 by omega) (show (3 * ru 11 + 4) / 5 ≤ wr_ (T 466 p s + 1) ∧ 2 ≤ wr_ (wr_ (T 466 p s + 1) - T 466 p (1 - s)) by omega) (show ¬ (wr_ (T 468 p s + 1) = 3) by omega)).symm⟩
        · refine bd_i (by omega) ?_
          refine x_nm (fun U206 hU206 => ?_)
          have e207 := up_f hU206
          refine (show po_X3_playVolleyball_e T p ru s U206 (none) from ?_)
          have e208 : U206 103 p 3 = 1 := up_f hU206
          have e209 : U206 470 p 0 = T 470 p 0 := (up_k hU206 (by exact Nat.ne_of_beq_eq_false rfl) p 0).trans ((up_k hU184 (by exact Nat.ne_of_beq_eq_false rfl) p 0).trans ((fU180 470 p 0 rfl).trans ((up_k hU117 (by exact Nat.ne_of_beq_eq_false rfl) p 0).trans ((up_k hU112 (by exact Nat.ne_of_beq_eq_false rfl) p 0).trans (fU111 470 p 0 rfl)))))
          have e210 : U206 470 p 1 = T 470 p 1 := (up_k hU206 (by exact Nat.ne_of_beq_eq_false rfl) p 1).trans ((up_k hU184 (by exact Nat.ne_of_beq_eq_false rfl) p 1).trans ((fU180 470 p 1 rfl).trans ((up_k hU117 (by exact Nat.ne_of_beq_eq_false rfl) p 1).trans ((up_k hU112 (by exact Nat.ne_of_beq_eq_false rfl) p 1).trans (fU111 470 p 1 rfl)))))
          have g211 : U206 470 p 0 = T 470 p 0 := (up_k hU206 (by exact Nat.ne_of_beq_eq_false rfl) p 0).trans ((up_k hU184 (by exact Nat.ne_of_beq_eq_false rfl) p 0).trans ((fU180 470 p 0 rfl).trans ((up_k hU117 (by exact Nat.ne_of_beq_eq_false rfl) p 0).trans ((up_k hU112 (by exact Nat.ne_of_beq_eq_false rfl) p 0).trans (fU111 470 p 0 rfl)))))
          have g212 : U206 470 p 1 = T 470 p 1 := (up_k hU206 (by exact Nat.ne_of_beq_eq_false rfl) p 1).trans ((up_k hU184 (by exact Nat.ne_of_beq_eq_false rfl) p 1).trans ((fU180 470 p 1 rfl).trans ((up_k hU117 (by exact Nat.ne_of_beq_eq_false rfl) p 1).trans ((up_k hU112 (by exact Nat.ne_of_beq_eq_false rfl) p 1).trans (fU111 470 p 1 rfl)))))
          have e213 : U206 103 p 3 = 1 := up_f hU206
          have rU111 : rs9_ U111 p = rt9_ (rs9_ T p) s := qU111e
          have rU112 : rs9_ U112 p = u2_ (rt9_ (rs9_ T p) s) 103 5 s := by rw [rs_u hU112 rfl, rU111]
          have rU117 : rs9_ U117 p = u2_ (u2_ (rt9_ (rs9_ T p) s) 103 5 s) 466 s (wr_ ((T 466 p s) + 1)) := by rw [rs_u hU117 rfl, rU112]
          have rU180 : rs9_ U180 p = fy2_ (u2_ (u2_ (rt9_ (rs9_ T p) s) 103 5 s) 466 s (wr_ ((T 466 p s) + 1))) 466 2 0 := by rw [qU180e, rU117]
          have rU184 : rs9_ U184 p = u2_ (fy2_ (u2_ (u2_ (rt9_ (rs9_ T p) s) 103 5 s) 466 s (wr_ ((T 466 p s) + 1))) 466 2 0) 468 s (wr_ ((T 468 p s) + 1)) := by rw [rs_u hU184 rfl, rU180]
          have rU206 : rs9_ U206 p = u2_ (u2_ (fy2_ (u2_ (u2_ (rt9_ (rs9_ T p) s) 103 5 s) 466 s (wr_ ((T 466 p s) + 1))) 466 2 0) 468 s (wr_ ((T 468 p s) + 1))) 103 3 1 := by rw [rs_u hU206 rfl, rU184]
          exact ⟨rfl, fr_u (fr_u (fr_t (fr_u (fr_u (fr_t (fr_0 _ _) (fr_s fU111 rfl)) hU112 rfl) hU117 rfl) (fr_s fU180 rfl)) hU184 rfl) hU206 rfl, oi_u (oi_u (oi_t (oi_u (oi_u (oi_t (oi_r) qU111o) hU112) hU117) qU180o) hU184) hU206, by exact fun _ => by omega, Eq.trans rU206 (pv9__7 (r := ru) (a := (rs9_ T p)) (s := s) (show ¬ (T 103 p 5 = s) by omega) (show T 103 p 4 = 4 by omega) (show (3 * ru 11 + 4) / 5 ≤ wr_ (T 466 p s + 1) ∧ 2 ≤ wr_ (wr_ (T 466 p s + 1) - T 466 p (1 - s)) by omega) (show wr_ (T 468 p s + 1) = 3 by omega)).symm⟩
      · replace hx178 := hx178.resolve_left (fun z => absurd (c179.symm.trans z.1) (by decide))
        clear c179
        refine (show po_X3_playVolleyball_e T p ru s U117 (none) from ?_)
        have e214 : U117 103 p 3 = T 103 p 3 := (up_k hU117 (by exact Nat.ne_of_beq_eq_false rfl) p 3).trans ((up_j hU112 (by decide) 103 p).trans (fU111 103 p 3 rfl))
        have e215 : U117 470 p 0 = T 470 p 0 := (up_k hU117 (by exact Nat.ne_of_beq_eq_false rfl) p 0).trans ((up_k hU112 (by exact Nat.ne_of_beq_eq_false rfl) p 0).trans (fU111 470 p 0 rfl))
        have e216 : U117 470 p 1 = T 470 p 1 := (up_k hU117 (by exact Nat.ne_of_beq_eq_false rfl) p 1).trans ((up_k hU112 (by exact Nat.ne_of_beq_eq_false rfl) p 1).trans (fU111 470 p 1 rfl))
        have g217 : U117 470 p 0 = T 470 p 0 := (up_k hU117 (by exact Nat.ne_of_beq_eq_false rfl) p 0).trans ((up_k hU112 (by exact Nat.ne_of_beq_eq_false rfl) p 0).trans (fU111 470 p 0 rfl))
        have g218 : U117 470 p 1 = T 470 p 1 := (up_k hU117 (by exact Nat.ne_of_beq_eq_false rfl) p 1).trans ((up_k hU112 (by exact Nat.ne_of_beq_eq_false rfl) p 1).trans (fU111 470 p 1 rfl))
        have e219 : U117 103 p 3 = T 103 p 3 := (up_k hU117 (by exact Nat.ne_of_beq_eq_false rfl) p 3).trans ((up_j hU112 (by decide) 103 p).trans (fU111 103 p 3 rfl))
        have rU111 : rs9_ U111 p = rt9_ (rs9_ T p) s := qU111e
        have rU112 : rs9_ U112 p = u2_ (rt9_ (rs9_ T p) s) 103 5 s := by rw [rs_u hU112 rfl, rU111]
        have rU117 : rs9_ U117 p = u2_ (u2_ (rt9_ (rs9_ T p) s) 103 5 s) 466 s (wr_ ((T 466 p s) + 1)) := by rw [rs_u hU117 rfl, rU112]
        exact ⟨rfl, fr_u (fr_u (fr_t (fr_0 _ _) (fr_s fU111 rfl)) hU112 rfl) hU117 rfl, oi_u (oi_u (oi_t (oi_r) qU111o) hU112) hU117, by exact fun _ => by omega, Eq.trans rU117 (pv9__9 (r := ru) (a := (rs9_ T p)) (s := s) (show ¬ (T 103 p 5 = s) by omega) (show T 103 p 4 = 4 by omega) (show ¬ ((3 * ru 11 + 4) / 5 ≤ wr_ (T 466 p s + 1) ∧ 2 ≤ wr_ (wr_ (T 466 p s + 1) - T 466 p (1 - s))) by omega)).symm⟩
theorem bk_X3_playTennis_e_0 : ck_ fX3 none cX3_playTennis 0 [.iload 1, .iconst 6, .if_icmp .ne 21, .aload 0, .tableswitch 0 3 8 #[], .iconst 1, .iload 2, .isub, .iconst 2, .iastore, .aload 0, .iconst 1, .tableswitch 1 3 3 #[], .return_] 21 = true := qck_r (nn_ _) (by decide +kernel)
theorem bs_X3_playTennis_e_0 {P : Zt → Option Zv → Prop} (K : Int → Zl → List Zv → Zt → Prop) : sx_ K P [.iload 1, .iconst 6, .if_icmp .ne 21, .aload 0, .tableswitch 0 3 8 #[], .iconst 1, .iload 2, .isub, .iconst 2, .iastore, .aload 0, .iconst 1, .tableswitch 1 3 3 #[], .return_] 21 = x_iload 1 (x_iconst 6 (x_if_icmp .ne 21 K (x_aload 0 (x_g2 103 468 (x_iconst 1 (x_iload 2 (x_isub (x_iconst 2 (x_iastore (x_aload 0 (x_iconst 1 (x_p 103 3 0 1 (x_return_ P))))))))))))) := ((xe_iload 1).trans (congrArg (x_iload 1) ((xe_iconst 6).trans (congrArg (x_iconst 6) ((xe_if_icmp .ne 21).trans (congrArg (x_if_icmp .ne 21 K) ((xe_aload 0).trans (congrArg (x_aload 0) ((xe_g2 (kk := 103) rfl tl_3_8).trans (congrArg (x_g2 103 468) ((xe_iconst 1).trans (congrArg (x_iconst 1) ((xe_iload 2).trans (congrArg (x_iload 2) ((xe_isub).trans (congrArg (x_isub) ((xe_iconst 2).trans (congrArg (x_iconst 2) ((xe_iastore).trans (congrArg (x_iastore) ((xe_aload 0).trans (congrArg (x_aload 0) ((xe_iconst 1).trans (congrArg (x_iconst 1) ((xe_p (kk := 103) rfl tl_3_3).trans (congrArg (x_p 103 3 0 1) (xe_return_)))))))))))))))))))))))))))
theorem bk_X3_playTennis_e_21 : ck_ fX3 none cX3_playTennis 21 [.aload 0, .tableswitch 0 3 0 #[], .iconst 11, .iaload, .istore 3, .aload 0, .tableswitch 0 3 6 #[], .iload 2, .dup2, .iaload, .iconst 1, .fadd, .iastore, .aload 0, .tableswitch 0 3 7 #[], .iconst 0, .iaload, .iload 3, .if_icmp .ne 64, .aload 0, .tableswitch 0 3 7 #[], .iconst 1, .iaload, .iload 3, .if_icmp .ne 64, .iconst 7, .goto 65] 64 = true := qck_r (nn_ _) (by decide +kernel)
theorem bs_X3_playTennis_e_21 {P : Zt → Option Zv → Prop} (K : Int → Zl → List Zv → Zt → Prop) : sx_ K P [.aload 0, .tableswitch 0 3 0 #[], .iconst 11, .iaload, .istore 3, .aload 0, .tableswitch 0 3 6 #[], .iload 2, .dup2, .iaload, .iconst 1, .fadd, .iastore, .aload 0, .tableswitch 0 3 7 #[], .iconst 0, .iaload, .iload 3, .if_icmp .ne 64, .aload 0, .tableswitch 0 3 7 #[], .iconst 1, .iaload, .iload 3, .if_icmp .ne 64, .iconst 7, .goto 65] 64 = x_aload 0 (x_g3 103 401 0 (x_iconst 11 (x_iaload (x_istore 3 (x_aload 0 (x_g2 103 466 (x_iload 2 (x_dup2 (x_iaload (x_iconst 1 (x_fadd (x_iastore (x_aload 0 (x_g2 103 467 (x_iconst 0 (x_iaload (x_iload 3 (x_if_icmp .ne 64 K (x_aload 0 (x_g2 103 467 (x_iconst 1 (x_iaload (x_iload 3 (x_if_icmp .ne 64 K (x_iconst 7 (x_goto 65 K)))))))))))))))))))))))))) := ((xe_aload 0).trans (congrArg (x_aload 0) ((xe_g3 (kk := 103) rfl tl_3_0).trans (congrArg (x_g3 103 401 0) ((xe_iconst 11).trans (congrArg (x_iconst 11) ((xe_iaload).trans (congrArg (x_iaload) ((xe_istore 3).trans (congrArg (x_istore 3) ((xe_aload 0).trans (congrArg (x_aload 0) ((xe_g2 (kk := 103) rfl tl_3_6).trans (congrArg (x_g2 103 466) ((xe_iload 2).trans (congrArg (x_iload 2) ((xe_dup2).trans (congrArg (x_dup2) ((xe_iaload).trans (congrArg (x_iaload) ((xe_iconst 1).trans (congrArg (x_iconst 1) ((xe_fadd).trans (congrArg (x_fadd) ((xe_iastore).trans (congrArg (x_iastore) ((xe_aload 0).trans (congrArg (x_aload 0) ((xe_g2 (kk := 103) rfl tl_3_7).trans (congrArg (x_g2 103 467) ((xe_iconst 0).trans (congrArg (x_iconst 0) ((xe_iaload).trans (congrArg (x_iaload) ((xe_iload 3).trans (congrArg (x_iload 3) ((xe_if_icmp .ne 64).trans (congrArg (x_if_icmp .ne 64 K) ((xe_aload 0).trans (congrArg (x_aload 0) ((xe_g2 (kk := 103) rfl tl_3_7).trans (congrArg (x_g2 103 467) ((xe_iconst 1).trans (congrArg (x_iconst 1) ((xe_iaload).trans (congrArg (x_iaload) ((xe_iload 3).trans (congrArg (x_iload 3) ((xe_if_icmp .ne 64).trans (congrArg (x_if_icmp .ne 64 K) ((xe_iconst 7).trans (congrArg (x_iconst 7) (xe_goto 65)))))))))))))))))))))))))))))))))))))))))))))))))))))
theorem bk_X3_playTennis_e_64 : ck_ fX3 none cX3_playTennis 64 [.iconst 4, .istore 4, .aload 0, .tableswitch 0 3 6 #[], .iload 2, .iload 4] 74 = true := qck_r (nn_ _) (by decide +kernel)
theorem bs_X3_playTennis_e_64 {P : Zt → Option Zv → Prop} (K : Int → Zl → List Zv → Zt → Prop) : sx_ K P [.iconst 4, .istore 4, .aload 0, .tableswitch 0 3 6 #[], .iload 2, .iload 4] 74 = x_iconst 4 (x_istore 4 (x_aload 0 (x_g2 103 466 (x_iload 2 (x_iload 4 (K 74)))))) := ((xe_iconst 4).trans (congrArg (x_iconst 4) ((xe_istore 4).trans (congrArg (x_istore 4) ((xe_aload 0).trans (congrArg (x_aload 0) ((xe_g2 (kk := 103) rfl tl_3_6).trans (congrArg (x_g2 103 466) ((xe_iload 2).trans (congrArg (x_iload 2) ((xe_iload 4).trans (congrArg (x_iload 4) xe_nil))))))))))))
theorem bk_X3_playTennis_e_77 : ck_ fX3 none cX3_playTennis 77 [.ifCond .ne 81, .return_] 81 = true := qck_r (nn_ _) (by decide +kernel)
theorem bs_X3_playTennis_e_77 {P : Zt → Option Zv → Prop} (K : Int → Zl → List Zv → Zt → Prop) : sx_ K P [.ifCond .ne 81, .return_] 81 = x_ifCond .ne 81 K (x_return_ P) := ((xe_ifCond .ne 81).trans (congrArg (x_ifCond .ne 81 K) (xe_return_)))
theorem bk_X3_playTennis_e_81 : ck_ fX3 none cX3_playTennis 81 [.aload 0, .tableswitch 0 3 6 #[], .iconst 0] 86 = true := qck_r (nn_ _) (by decide +kernel)
theorem bs_X3_playTennis_e_81 {P : Zt → Option Zv → Prop} (K : Int → Zl → List Zv → Zt → Prop) : sx_ K P [.aload 0, .tableswitch 0 3 6 #[], .iconst 0] 86 = x_aload 0 (x_g2 103 466 (x_iconst 0 (K 86))) := ((xe_aload 0).trans (congrArg (x_aload 0) ((xe_g2 (kk := 103) rfl tl_3_6).trans (congrArg (x_g2 103 466) ((xe_iconst 0).trans (congrArg (x_iconst 0) xe_nil))))))
theorem bk_X3_playTennis_e_89 : ck_ fX3 none cX3_playTennis 89 [.aload 0, .tableswitch 0 3 7 #[], .iload 2, .dup2, .iaload, .iconst 1, .fadd, .iastore, .aload 0, .tableswitch 0 3 7 #[], .iload 2, .iload 3] 105 = true := qck_r (nn_ _) (by decide +kernel)
theorem bs_X3_playTennis_e_89 {P : Zt → Option Zv → Prop} (K : Int → Zl → List Zv → Zt → Prop) : sx_ K P [.aload 0, .tableswitch 0 3 7 #[], .iload 2, .dup2, .iaload, .iconst 1, .fadd, .iastore, .aload 0, .tableswitch 0 3 7 #[], .iload 2, .iload 3] 105 = x_aload 0 (x_g2 103 467 (x_iload 2 (x_dup2 (x_iaload (x_iconst 1 (x_fadd (x_iastore (x_aload 0 (x_g2 103 467 (x_iload 2 (x_iload 3 (K 105)))))))))))) := ((xe_aload 0).trans (congrArg (x_aload 0) ((xe_g2 (kk := 103) rfl tl_3_7).trans (congrArg (x_g2 103 467) ((xe_iload 2).trans (congrArg (x_iload 2) ((xe_dup2).trans (congrArg (x_dup2) ((xe_iaload).trans (congrArg (x_iaload) ((xe_iconst 1).trans (congrArg (x_iconst 1) ((xe_fadd).trans (congrArg (x_fadd) ((xe_iastore).trans (congrArg (x_iastore) ((xe_aload 0).trans (congrArg (x_aload 0) ((xe_g2 (kk := 103) rfl tl_3_7).trans (congrArg (x_g2 103 467) ((xe_iload 2).trans (congrArg (x_iload 2) ((xe_iload 3).trans (congrArg (x_iload 3) xe_nil))))))))))))))))))))))))
theorem bk_X3_playTennis_e_108 : ck_ fX3 none cX3_playTennis 108 [.ifCond .ne 121, .aload 0, .tableswitch 0 3 7 #[], .iload 2, .iaload, .iload 3, .if_icmp .le 165, .aload 0, .tableswitch 0 3 7 #[], .iconst 0] 126 = true := qck_r (nn_ _) (by decide +kernel)
theorem bs_X3_playTennis_e_108 {P : Zt → Option Zv → Prop} (K : Int → Zl → List Zv → Zt → Prop) : sx_ K P [.ifCond .ne 121, .aload 0, .tableswitch 0 3 7 #[], .iload 2, .iaload, .iload 3, .if_icmp .le 165, .aload 0, .tableswitch 0 3 7 #[], .iconst 0] 126 = x_ifCond .ne 121 K (x_aload 0 (x_g2 103 467 (x_iload 2 (x_iaload (x_iload 3 (x_if_icmp .le 165 K (x_aload 0 (x_g2 103 467 (x_iconst 0 (K 126)))))))))) := ((xe_ifCond .ne 121).trans (congrArg (x_ifCond .ne 121 K) ((xe_aload 0).trans (congrArg (x_aload 0) ((xe_g2 (kk := 103) rfl tl_3_7).trans (congrArg (x_g2 103 467) ((xe_iload 2).trans (congrArg (x_iload 2) ((xe_iaload).trans (congrArg (x_iaload) ((xe_iload 3).trans (congrArg (x_iload 3) ((xe_if_icmp .le 165).trans (congrArg (x_if_icmp .le 165 K) ((xe_aload 0).trans (congrArg (x_aload 0) ((xe_g2 (kk := 103) rfl tl_3_7).trans (congrArg (x_g2 103 467) ((xe_iconst 0).trans (congrArg (x_iconst 0) xe_nil))))))))))))))))))))
theorem bk_X3_playTennis_e_121 : ck_ fX3 none cX3_playTennis 121 [.aload 0, .tableswitch 0 3 7 #[], .iconst 0] 126 = true := qck_r (nn_ _) (by decide +kernel)
theorem bs_X3_playTennis_e_121 {P : Zt → Option Zv → Prop} (K : Int → Zl → List Zv → Zt → Prop) : sx_ K P [.aload 0, .tableswitch 0 3 7 #[], .iconst 0] 126 = x_aload 0 (x_g2 103 467 (x_iconst 0 (K 126))) := ((xe_aload 0).trans (congrArg (x_aload 0) ((xe_g2 (kk := 103) rfl tl_3_7).trans (congrArg (x_g2 103 467) ((xe_iconst 0).trans (congrArg (x_iconst 0) xe_nil))))))
theorem bk_X3_playTennis_e_129 : ck_ fX3 none cX3_playTennis 129 [.aload 0, .tableswitch 0 3 8 #[], .iload 2, .dup2, .iaload, .iconst 1, .fadd, .iastore, .aload 0, .tableswitch 0 3 8 #[], .iload 2, .iaload, .iconst 2, .if_icmp .ne 155, .aload 0, .iconst 1, .tableswitch 1 3 3 #[], .return_] 155 = true := qck_r (nn_ _) (by decide +kernel)
theorem bs_X3_playTennis_e_129 {P : Zt → Option Zv → Prop} (K : Int → Zl → List Zv → Zt → Prop) : sx_ K P [.aload 0, .tableswitch 0 3 8 #[], .iload 2, .dup2, .iaload, .iconst 1, .fadd, .iastore, .aload 0, .tableswitch 0 3 8 #[], .iload 2, .iaload, .iconst 2, .if_icmp .ne 155, .aload 0, .iconst 1, .tableswitch 1 3 3 #[], .return_] 155 = x_aload 0 (x_g2 103 468 (x_iload 2 (x_dup2 (x_iaload (x_iconst 1 (x_fadd (x_iastore (x_aload 0 (x_g2 103 468 (x_iload 2 (x_iaload (x_iconst 2 (x_if_icmp .ne 155 K (x_aload 0 (x_iconst 1 (x_p 103 3 0 1 (x_return_ P))))))))))))))))) := ((xe_aload 0).trans (congrArg (x_aload 0) ((xe_g2 (kk := 103) rfl tl_3_8).trans (congrArg (x_g2 103 468) ((xe_iload 2).trans (congrArg (x_iload 2) ((xe_dup2).trans (congrArg (x_dup2) ((xe_iaload).trans (congrArg (x_iaload) ((xe_iconst 1).trans (congrArg (x_iconst 1) ((xe_fadd).trans (congrArg (x_fadd) ((xe_iastore).trans (congrArg (x_iastore) ((xe_aload 0).trans (congrArg (x_aload 0) ((xe_g2 (kk := 103) rfl tl_3_8).trans (congrArg (x_g2 103 468) ((xe_iload 2).trans (congrArg (x_iload 2) ((xe_iaload).trans (congrArg (x_iaload) ((xe_iconst 2).trans (congrArg (x_iconst 2) ((xe_if_icmp .ne 155).trans (congrArg (x_if_icmp .ne 155 K) ((xe_aload 0).trans (congrArg (x_aload 0) ((xe_iconst 1).trans (congrArg (x_iconst 1) ((xe_p (kk := 103) rfl tl_3_3).trans (congrArg (x_p 103 3 0 1) (xe_return_)))))))))))))))))))))))))))))))))))
theorem bk_X3_playTennis_e_155 : ck_ fX3 none cX3_playTennis 155 [.aload 0, .dup, .tableswitch 0 3 4 #[], .iconst 1, .fadd, .tableswitch 1 3 4 #[], .aload 0, .iconst 1, .aload 0, .tableswitch 0 3 5 #[], .isub, .tableswitch 1 3 5 #[], .return_] 176 = true := qck_r (nn_ _) (by decide +kernel)
theorem bs_X3_playTennis_e_155 {P : Zt → Option Zv → Prop} (K : Int → Zl → List Zv → Zt → Prop) : sx_ K P [.aload 0, .dup, .tableswitch 0 3 4 #[], .iconst 1, .fadd, .tableswitch 1 3 4 #[], .aload 0, .iconst 1, .aload 0, .tableswitch 0 3 5 #[], .isub, .tableswitch 1 3 5 #[], .return_] 176 = x_aload 0 (x_dup (x_g0 103 4 (-2147483648) 2147483647 (x_iconst 1 (x_fadd (x_p 103 4 (-2147483648) 2147483647 (x_aload 0 (x_iconst 1 (x_aload 0 (x_g0 103 5 0 1 (x_isub (x_p 103 5 0 1 (x_return_ P)))))))))))) := ((xe_aload 0).trans (congrArg (x_aload 0) ((xe_dup).trans (congrArg (x_dup) ((xe_g0 (kk := 103) rfl tl_3_4).trans (congrArg (x_g0 103 4 (-2147483648) 2147483647) ((xe_iconst 1).trans (congrArg (x_iconst 1) ((xe_fadd).trans (congrArg (x_fadd) ((xe_p (kk := 103) rfl tl_3_4).trans (congrArg (x_p 103 4 (-2147483648) 2147483647) ((xe_aload 0).trans (congrArg (x_aload 0) ((xe_iconst 1).trans (congrArg (x_iconst 1) ((xe_aload 0).trans (congrArg (x_aload 0) ((xe_g0 (kk := 103) rfl tl_3_5).trans (congrArg (x_g0 103 5 0 1) ((xe_isub).trans (congrArg (x_isub) ((xe_p (kk := 103) rfl tl_3_5).trans (congrArg (x_p 103 5 0 1) (xe_return_)))))))))))))))))))))))))
theorem bk_X3_playTennis_e_165 : ck_ fX3 none cX3_playTennis 165 [.aload 0, .iconst 1, .aload 0, .tableswitch 0 3 5 #[], .isub, .tableswitch 1 3 5 #[], .return_] 176 = true := qck_r (nn_ _) (by decide +kernel)
theorem bs_X3_playTennis_e_165 {P : Zt → Option Zv → Prop} (K : Int → Zl → List Zv → Zt → Prop) : sx_ K P [.aload 0, .iconst 1, .aload 0, .tableswitch 0 3 5 #[], .isub, .tableswitch 1 3 5 #[], .return_] 176 = x_aload 0 (x_iconst 1 (x_aload 0 (x_g0 103 5 0 1 (x_isub (x_p 103 5 0 1 (x_return_ P)))))) := ((xe_aload 0).trans (congrArg (x_aload 0) ((xe_iconst 1).trans (congrArg (x_iconst 1) ((xe_aload 0).trans (congrArg (x_aload 0) ((xe_g0 (kk := 103) rfl tl_3_5).trans (congrArg (x_g0 103 5 0 1) ((xe_isub).trans (congrArg (x_isub) ((xe_p (kk := 103) rfl tl_3_5).trans (congrArg (x_p 103 5 0 1) (xe_return_)))))))))))))
theorem bk_X3_playTennis_e_65 : ck_ fX3 none cX3_playTennis 65 [.istore 4, .aload 0, .tableswitch 0 3 6 #[], .iload 2, .iload 4] 74 = true := qck_r (nn_ _) (by decide +kernel)
theorem bs_X3_playTennis_e_65 {P : Zt → Option Zv → Prop} (K : Int → Zl → List Zv → Zt → Prop) : sx_ K P [.istore 4, .aload 0, .tableswitch 0 3 6 #[], .iload 2, .iload 4] 74 = x_istore 4 (x_aload 0 (x_g2 103 466 (x_iload 2 (x_iload 4 (K 74))))) := ((xe_istore 4).trans (congrArg (x_istore 4) ((xe_aload 0).trans (congrArg (x_aload 0) ((xe_g2 (kk := 103) rfl tl_3_6).trans (congrArg (x_g2 103 466) ((xe_iload 2).trans (congrArg (x_iload 2) ((xe_iload 4).trans (congrArg (x_iload 4) xe_nil))))))))))
abbrev po_X3_playTennis_e (T : Zt) (p : Int) (ru : Int → Int) (k s : Int) : Zt → Option Zv → Prop := fun T' r => r = none ∧ fr_ [(103, [3, 4, 5]), (466, []), (467, []), (468, [])] T T' ∧ (oi_ T T' p ∧ (T' 103 p 3 = 0 → 1 ≤ T' 470 p 0 ∧ 1 ≤ T' 470 p 1) ∧ rs9_ T' p = pt9_ ru (rs9_ T p) k s)
set_option maxHeartbeats 4000000 in
theorem ct_X3_playTennis_e {T : Zt} {p : Int} {ru : Int → Int} {k s : Int} (hr : RLP_ T p ru) (hs : 0 ≤ s ∧ s ≤ 1) (hfd : 1 ≤ T 470 p 0 ∧ 1 ≤ T 470 p 1) : Ct_ yX3_playTennis zX3_playTennis T [vR 103 p, vI k, vI s] (po_X3_playTennis_e T p ru k s) := by
  refine ct_of pn_3 rfl rfl (Nat.le_of_ble_eq_true rfl) (fun hT hav => ?_)
  have hr_k : -2147483648 ≤ k ∧ k ≤ 2147483647 := hav (vI k) (List.mem_cons_of_mem _ List.mem_cons_self)
  have hr_s : -2147483648 ≤ s ∧ s ≤ 2147483647 := hav (vI s) (List.mem_cons_of_mem _ (List.mem_cons_of_mem _ List.mem_cons_self))
  have hz : zX3_playTennis.2.2.2.1 = some .boolean → ∀ (T' : Zt) (x : Int), po_X3_playTennis_e T p ru k s T' (some (vI x)) → 0 ≤ x ∧ x ≤ 1 := fun h => by cases h
  have hr0 := hr 0 (by decide) (by decide)
  have hr9 := hr 9 (by decide) (by decide)
  have hr10 := hr 10 (by decide) (by decide)
  have hr11 := hr 11 (by decide) (by decide)
  have hr12 := hr 12 (by decide) (by decide)
  show J_ zX3_playTennis T (po_X3_playTennis_e T p ru k s) 0 0 0 [some (vR 103 p), some (vI k), some (vI s), none, none] [] T
  refine j_blx (F := fX3) tb_X3 (nn_ _) bk_X3_playTennis_e_0 bs_X3_playTennis_e_0 hz (fun K hK => ?_)
  refine And.intro (fun c1 => ?_) (fun c1 => ?_)
  · refine hK 21 _ [] T ?_
    refine j_blx (F := fX3) tb_X3 (nn_ _) bk_X3_playTennis_e_21 bs_X3_playTennis_e_21 hz (fun K hK => ?_)
    refine ix_i (by omega) ?_
    intro b3 b3b
    refine ix_i (by omega) ?_
    intro b4 b4b
    intro w5 w5b
    refine iy_i (by omega) (by omega) ?_
    refine x_nm (fun U6 hU6 => ?_)
    have e7 := up_f hU6
    refine ix_i (by omega) ?_
    intro b8 b8b
    have e9 : U6 467 p 0 = T 467 p 0 := up_k hU6 (by exact Nat.ne_of_beq_eq_false rfl) p 0
    rw [e9] at b8 b8b ⊢
    refine And.intro (fun c10 => ?_) (fun c10 => ?_)
    · refine hK 64 [some (vR 103 p), some (vI k), some (vI s), some (vI (T 401 (T 103 p 0) 11)), none] [] U6 ?_
      refine j_blx (F := fX3) tb_X3 (nn_ _) bk_X3_playTennis_e_64 bs_X3_playTennis_e_64 hz (fun K hK => ?_)
      refine hK 74 [some (vR 103 p), some (vI k), some (vI s), some (vI (T 401 (T 103 p 0) 11)), some (vI 4)] [vI 4, vI s, vR 466 p] U6 ?_
      have e11 : U6 466 p s = wr_ ((T 466 p s) + 1) := up_f hU6
      have e12 : U6 466 p (1 - s) = T 466 p (1 - s) := up_g hU6 (by omega)
      refine j_callS (y := yX3_isWon) (Yc := zX3_isWon) (rest := []) [vR 466 p, vI s, vI 4] (ct_X3_isWon_466_e (T := U6) (by omega)) cl_X3_125 (qd_c (by decide +kernel)) (nn_ _) rfl (rf_of rfl) (Nat.le_of_ble_eq_true rfl) (Nat.le_of_ble_eq_true rfl) (Nat.le_of_ble_eq_true rfl) rfl ?_
      rintro _ _ ⟨rfl, x13, rfl, hx13⟩
      rw [e11, e12] at hx13
      show J_ zX3_playTennis T (po_X3_playTennis_e T p ru k s) 0 0 77 _ [vI x13] U6
      refine j_blx (F := fX3) tb_X3 (nn_ _) bk_X3_playTennis_e_77 bs_X3_playTennis_e_77 hz (fun K hK => ?_)
      refine And.intro (fun c14 => ?_) (fun c14 => ?_)
      · replace hx13 := hx13.resolve_right (fun z => c14 z.1)
        clear c14
        refine hK 81 _ [] U6 ?_
        refine j_blx (F := fX3) tb_X3 (nn_ _) bk_X3_playTennis_e_81 bs_X3_playTennis_e_81 hz (fun K hK => ?_)
        refine hK 86 _ [vI 0, vR 466 p] U6 ?_
        refine j_callS (y := yJ7_fill_53178) (Yc := zJ7_fill_53178) (rest := []) [vR 466 p, vI 0] (ct_J7_fill_466_e (T := U6) (by omega)) cl_X3_62 (qd_c (by decide +kernel)) (nn_ _) rfl (rf_of rfl) (Nat.le_of_ble_eq_true rfl) (Nat.le_of_ble_eq_true rfl) (Nat.le_of_ble_eq_true rfl) rfl ?_
        rintro U15 _ ⟨rfl, fU15, qU15o, qU15, qU15e⟩
        show J_ zX3_playTennis T (po_X3_playTennis_e T p ru k s) 0 0 89 _ [] U15
        refine j_blx (F := fX3) tb_X3 (nn_ _) bk_X3_playTennis_e_89 bs_X3_playTennis_e_89 hz (fun K hK => ?_)
        refine ix_i (by omega) ?_
        intro b16 b16b
        have e17 : U15 467 p s = T 467 p s := (fU15 467 p s rfl).trans (up_k hU6 (by exact Nat.ne_of_beq_eq_false rfl) p s)
        rw [e17] at b16 b16b ⊢
        intro w18 w18b
        refine iy_i (by omega) (by omega) ?_
        refine x_nm (fun U19 hU19 => ?_)
        have e20 := up_f hU19
        refine hK 105 _ [vI (T 401 (T 103 p 0) 11), vI s, vR 467 p] U19 ?_
        have e21 : U19 467 p s = wr_ ((T 467 p s) + 1) := up_f hU19
        have e22 : U19 467 p (1 - s) = T 467 p (1 - s) := (up_g hU19 (by omega)).trans ((fU15 467 p (1 - s) rfl).trans (up_k hU6 (by exact Nat.ne_of_beq_eq_false rfl) p (1 - s)))
        refine j_callS (y := yX3_isWon) (Yc := zX3_isWon) (rest := []) [vR 467 p, vI s, vI (T 401 (T 103 p 0) 11)] (ct_X3_isWon_467_e (T := U19) (by omega)) cl_X3_125 (qd_c (by decide +kernel)) (nn_ _) rfl (rf_of rfl) (Nat.le_of_ble_eq_true rfl) (Nat.le_of_ble_eq_true rfl) (Nat.le_of_ble_eq_true rfl) rfl ?_
        rintro _ _ ⟨rfl, x23, rfl, hx23⟩
        rw [e21, e22] at hx23
        show J_ zX3_playTennis T (po_X3_playTennis_e T p ru k s) 0 0 108 _ [vI x23] U19
        refine j_blx (F := fX3) tb_X3 (nn_ _) bk_X3_playTennis_e_108 bs_X3_playTennis_e_108 hz (fun K hK => ?_)
        refine And.intro (fun c24 => ?_) (fun c24 => ?_)
        · replace hx23 := hx23.resolve_right (fun z => c24 z.1)
          clear c24
          refine hK 121 _ [] U19 ?_
          refine j_blx (F := fX3) tb_X3 (nn_ _) bk_X3_playTennis_e_121 bs_X3_playTennis_e_121 hz (fun K hK => ?_)
          refine hK 126 _ [vI 0, vR 467 p] U19 ?_
          refine j_callS (y := yJ7_fill_53178) (Yc := zJ7_fill_53178) (rest := []) [vR 467 p, vI 0] (ct_J7_fill_467_e (T := U19) (by omega)) cl_X3_62 (qd_c (by decide +kernel)) (nn_ _) rfl (rf_of rfl) (Nat.le_of_ble_eq_true rfl) (Nat.le_of_ble_eq_true rfl) (Nat.le_of_ble_eq_true rfl) rfl ?_
          rintro U25 _ ⟨rfl, fU25, qU25o, qU25, qU25e⟩
          show J_ zX3_playTennis T (po_X3_playTennis_e T p ru k s) 0 0 129 _ [] U25
          refine j_blx (F := fX3) tb_X3 (nn_ _) bk_X3_playTennis_e_129 bs_X3_playTennis_e_129 hz (fun K hK => ?_)
          refine ix_i (by omega) ?_
          intro b26 b26b
          have e27 : U25 468 p s = T 468 p s := (fU25 468 p s rfl).trans ((up_k hU19 (by exact Nat.ne_of_beq_eq_false rfl) p s).trans ((fU15 468 p s rfl).trans (up_k hU6 (by exact Nat.ne_of_beq_eq_false rfl) p s)))
          rw [e27] at b26 b26b ⊢
          intro w28 w28b
          refine iy_i (by omega) (by omega) ?_
          refine x_nm (fun U29 hU29 => ?_)
          have e30 := up_f hU29
          refine ix_i (by omega) ?_
          intro b31 b31b
          have e32 : U29 468 p s = wr_ ((T 468 p s) + 1) := up_f hU29
          rw [e32] at b31 b31b ⊢
          refine And.intro (fun c33 => ?_) (fun c33 => ?_)
          · refine hK 155 _ [] U29 ?_
            refine j_blx (F := fX3) tb_X3 (nn_ _) bk_X3_playTennis_e_155 bs_X3_playTennis_e_155 hz (fun K hK => ?_)
            intro b34 b34b
            have e35 : U29 103 p 4 = T 103 p 4 := (up_k hU29 (by exact Nat.ne_of_beq_eq_false rfl) p 4).trans ((fU25 103 p 4 rfl).trans ((up_k hU19 (by exact Nat.ne_of_beq_eq_false rfl) p 4).trans ((fU15 103 p 4 rfl).trans (up_k hU6 (by exact Nat.ne_of_beq_eq_false rfl) p 4))))
            rw [e35] at b34 b34b ⊢
            intro w36 w36b
            refine bd_i (by omega) ?_
            refine x_nm (fun U37 hU37 => ?_)
            have e38 := up_f hU37
            intro b39 b39b
            have e40 : U37 103 p 5 = T 103 p 5 := (up_j hU37 (by decide) 103 p).trans ((up_k hU29 (by exact Nat.ne_of_beq_eq_false rfl) p 5).trans ((fU25 103 p 5 rfl).trans ((up_k hU19 (by exact Nat.ne_of_beq_eq_false rfl) p 5).trans ((fU15 103 p 5 rfl).trans (up_k hU6 (by exact Nat.ne_of_beq_eq_false rfl) p 5)))))
            rw [e40] at b39 b39b ⊢
            refine rg_i (by omega) ?_
            refine bd_i (by omega) ?_
            refine x_nm (fun U41 hU41 => ?_)
            have e42 := up_f hU41
            refine (show po_X3_playTennis_e T p ru k s U41 (none) from ?_)
            have e43 : U41 103 p 3 = T 103 p 3 := (up_j hU41 (by decide) 103 p).trans ((up_j hU37 (by decide) 103 p).trans ((up_k hU29 (by exact Nat.ne_of_beq_eq_false rfl) p 3).trans ((fU25 103 p 3 rfl).trans ((up_k hU19 (by exact Nat.ne_of_beq_eq_false rfl) p 3).trans ((fU15 103 p 3 rfl).trans (up_k hU6 (by exact Nat.ne_of_beq_eq_false rfl) p 3))))))
            have e44 : U41 470 p 0 = T 470 p 0 := (up_k hU41 (by exact Nat.ne_of_beq_eq_false rfl) p 0).trans ((up_k hU37 (by exact Nat.ne_of_beq_eq_false rfl) p 0).trans ((up_k hU29 (by exact Nat.ne_of_beq_eq_false rfl) p 0).trans ((fU25 470 p 0 rfl).trans ((up_k hU19 (by exact Nat.ne_of_beq_eq_false rfl) p 0).trans ((fU15 470 p 0 rfl).trans (up_k hU6 (by exact Nat.ne_of_beq_eq_false rfl) p 0))))))
            have e45 : U41 470 p 1 = T 470 p 1 := (up_k hU41 (by exact Nat.ne_of_beq_eq_false rfl) p 1).trans ((up_k hU37 (by exact Nat.ne_of_beq_eq_false rfl) p 1).trans ((up_k hU29 (by exact Nat.ne_of_beq_eq_false rfl) p 1).trans ((fU25 470 p 1 rfl).trans ((up_k hU19 (by exact Nat.ne_of_beq_eq_false rfl) p 1).trans ((fU15 470 p 1 rfl).trans (up_k hU6 (by exact Nat.ne_of_beq_eq_false rfl) p 1))))))
            have g46 : U41 470 p 0 = T 470 p 0 := (up_k hU41 (by exact Nat.ne_of_beq_eq_false rfl) p 0).trans ((up_k hU37 (by exact Nat.ne_of_beq_eq_false rfl) p 0).trans ((up_k hU29 (by exact Nat.ne_of_beq_eq_false rfl) p 0).trans ((fU25 470 p 0 rfl).trans ((up_k hU19 (by exact Nat.ne_of_beq_eq_false rfl) p 0).trans ((fU15 470 p 0 rfl).trans (up_k hU6 (by exact Nat.ne_of_beq_eq_false rfl) p 0))))))
            have g47 : U41 470 p 1 = T 470 p 1 := (up_k hU41 (by exact Nat.ne_of_beq_eq_false rfl) p 1).trans ((up_k hU37 (by exact Nat.ne_of_beq_eq_false rfl) p 1).trans ((up_k hU29 (by exact Nat.ne_of_beq_eq_false rfl) p 1).trans ((fU25 470 p 1 rfl).trans ((up_k hU19 (by exact Nat.ne_of_beq_eq_false rfl) p 1).trans ((fU15 470 p 1 rfl).trans (up_k hU6 (by exact Nat.ne_of_beq_eq_false rfl) p 1))))))
            have e48 : U41 103 p 3 = T 103 p 3 := (up_j hU41 (by decide) 103 p).trans ((up_j hU37 (by decide) 103 p).trans ((up_k hU29 (by exact Nat.ne_of_beq_eq_false rfl) p 3).trans ((fU25 103 p 3 rfl).trans ((up_k hU19 (by exact Nat.ne_of_beq_eq_false rfl) p 3).trans ((fU15 103 p 3 rfl).trans (up_k hU6 (by exact Nat.ne_of_beq_eq_false rfl) p 3))))))
            have rU6 : rs9_ U6 p = u2_ (rs9_ T p) 466 s (wr_ ((T 466 p s) + 1)) := rs_u hU6 rfl
            have rU15 : rs9_ U15 p = fy2_ (u2_ (rs9_ T p) 466 s (wr_ ((T 466 p s) + 1))) 466 2 0 := by rw [qU15e, rU6]
            have rU19 : rs9_ U19 p = u2_ (fy2_ (u2_ (rs9_ T p) 466 s (wr_ ((T 466 p s) + 1))) 466 2 0) 467 s (wr_ ((T 467 p s) + 1)) := by rw [rs_u hU19 rfl, rU15]
            have rU25 : rs9_ U25 p = fy2_ (u2_ (fy2_ (u2_ (rs9_ T p) 466 s (wr_ ((T 466 p s) + 1))) 466 2 0) 467 s (wr_ ((T 467 p s) + 1))) 467 2 0 := by rw [qU25e, rU19]
            have rU29 : rs9_ U29 p = u2_ (fy2_ (u2_ (fy2_ (u2_ (rs9_ T p) 466 s (wr_ ((T 466 p s) + 1))) 466 2 0) 467 s (wr_ ((T 467 p s) + 1))) 467 2 0) 468 s (wr_ ((T 468 p s) + 1)) := by rw [rs_u hU29 rfl, rU25]
            have rU37 : rs9_ U37 p = u2_ (u2_ (fy2_ (u2_ (fy2_ (u2_ (rs9_ T p) 466 s (wr_ ((T 466 p s) + 1))) 466 2 0) 467 s (wr_ ((T 467 p s) + 1))) 467 2 0) 468 s (wr_ ((T 468 p s) + 1))) 103 4 (wr_ ((T 103 p 4) + 1)) := by rw [rs_u hU37 rfl, rU29]
            have rU41 : rs9_ U41 p = u2_ (u2_ (u2_ (fy2_ (u2_ (fy2_ (u2_ (rs9_ T p) 466 s (wr_ ((T 466 p s) + 1))) 466 2 0) 467 s (wr_ ((T 467 p s) + 1))) 467 2 0) 468 s (wr_ ((T 468 p s) + 1))) 103 4 (wr_ ((T 103 p 4) + 1))) 103 5 (1 - (T 103 p 5)) := by rw [rs_u hU41 rfl, rU37]
            exact ⟨rfl, fr_u (fr_u (fr_u (fr_t (fr_u (fr_t (fr_u (fr_0 _ _) hU6 rfl) (fr_s fU15 rfl)) hU19 rfl) (fr_s fU25 rfl)) hU29 rfl) hU37 rfl) hU41 rfl, oi_u (oi_u (oi_u (oi_t (oi_u (oi_t (oi_u (oi_r) hU6) qU15o) hU19) qU25o) hU29) hU37) hU41, by exact fun _ => by omega, Eq.trans rU41 (pt9__7 (r := ru) (a := (rs9_ T p)) (k := k) (s := s) (show ¬ (k = 6) by omega) (show ¬ (T 467 p 0 = ru 11 ∧ T 467 p 1 = ru 11) by omega) (show 4 ≤ wr_ (T 466 p s + 1) ∧ 2 ≤ wr_ (wr_ (T 466 p s + 1) - T 466 p (1 - s)) by omega) (show (ru 11 ≤ wr_ (T 467 p s + 1) ∧ 2 ≤ wr_ (wr_ (T 467 p s + 1) - T 467 p (1 - s))) ∨ ru 11 < wr_ (T 467 p s + 1) by omega) (show ¬ (wr_ (T 468 p s + 1) = 2) by omega)).symm⟩
          · refine bd_i (by omega) ?_
            refine x_nm (fun U49 hU49 => ?_)
            have e50 := up_f hU49
            refine (show po_X3_playTennis_e T p ru k s U49 (none) from ?_)
            have e51 : U49 103 p 3 = 1 := up_f hU49
            have e52 : U49 470 p 0 = T 470 p 0 := (up_k hU49 (by exact Nat.ne_of_beq_eq_false rfl) p 0).trans ((up_k hU29 (by exact Nat.ne_of_beq_eq_false rfl) p 0).trans ((fU25 470 p 0 rfl).trans ((up_k hU19 (by exact Nat.ne_of_beq_eq_false rfl) p 0).trans ((fU15 470 p 0 rfl).trans (up_k hU6 (by exact Nat.ne_of_beq_eq_false rfl) p 0)))))
            have e53 : U49 470 p 1 = T 470 p 1 := (up_k hU49 (by exact Nat.ne_of_beq_eq_false rfl) p 1).trans ((up_k hU29 (by exact Nat.ne_of_beq_eq_false rfl) p 1).trans ((fU25 470 p 1 rfl).trans ((up_k hU19 (by exact Nat.ne_of_beq_eq_false rfl) p 1).trans ((fU15 470 p 1 rfl).trans (up_k hU6 (by exact Nat.ne_of_beq_eq_false rfl) p 1)))))
            have g54 : U49 470 p 0 = T 470 p 0 := (up_k hU49 (by exact Nat.ne_of_beq_eq_false rfl) p 0).trans ((up_k hU29 (by exact Nat.ne_of_beq_eq_false rfl) p 0).trans ((fU25 470 p 0 rfl).trans ((up_k hU19 (by exact Nat.ne_of_beq_eq_false rfl) p 0).trans ((fU15 470 p 0 rfl).trans (up_k hU6 (by exact Nat.ne_of_beq_eq_false rfl) p 0)))))
            have g55 : U49 470 p 1 = T 470 p 1 := (up_k hU49 (by exact Nat.ne_of_beq_eq_false rfl) p 1).trans ((up_k hU29 (by exact Nat.ne_of_beq_eq_false rfl) p 1).trans ((fU25 470 p 1 rfl).trans ((up_k hU19 (by exact Nat.ne_of_beq_eq_false rfl) p 1).trans ((fU15 470 p 1 rfl).trans (up_k hU6 (by exact Nat.ne_of_beq_eq_false rfl) p 1)))))
            have e56 : U49 103 p 3 = 1 := up_f hU49
            have rU6 : rs9_ U6 p = u2_ (rs9_ T p) 466 s (wr_ ((T 466 p s) + 1)) := rs_u hU6 rfl
            have rU15 : rs9_ U15 p = fy2_ (u2_ (rs9_ T p) 466 s (wr_ ((T 466 p s) + 1))) 466 2 0 := by rw [qU15e, rU6]
            have rU19 : rs9_ U19 p = u2_ (fy2_ (u2_ (rs9_ T p) 466 s (wr_ ((T 466 p s) + 1))) 466 2 0) 467 s (wr_ ((T 467 p s) + 1)) := by rw [rs_u hU19 rfl, rU15]
            have rU25 : rs9_ U25 p = fy2_ (u2_ (fy2_ (u2_ (rs9_ T p) 466 s (wr_ ((T 466 p s) + 1))) 466 2 0) 467 s (wr_ ((T 467 p s) + 1))) 467 2 0 := by rw [qU25e, rU19]
            have rU29 : rs9_ U29 p = u2_ (fy2_ (u2_ (fy2_ (u2_ (rs9_ T p) 466 s (wr_ ((T 466 p s) + 1))) 466 2 0) 467 s (wr_ ((T 467 p s) + 1))) 467 2 0) 468 s (wr_ ((T 468 p s) + 1)) := by rw [rs_u hU29 rfl, rU25]
            have rU49 : rs9_ U49 p = u2_ (u2_ (fy2_ (u2_ (fy2_ (u2_ (rs9_ T p) 466 s (wr_ ((T 466 p s) + 1))) 466 2 0) 467 s (wr_ ((T 467 p s) + 1))) 467 2 0) 468 s (wr_ ((T 468 p s) + 1))) 103 3 1 := by rw [rs_u hU49 rfl, rU29]
            exact ⟨rfl, fr_u (fr_u (fr_t (fr_u (fr_t (fr_u (fr_0 _ _) hU6 rfl) (fr_s fU15 rfl)) hU19 rfl) (fr_s fU25 rfl)) hU29 rfl) hU49 rfl, oi_u (oi_u (oi_t (oi_u (oi_t (oi_u (oi_r) hU6) qU15o) hU19) qU25o) hU29) hU49, by exact fun _ => by omega, Eq.trans rU49 (pt9__6 (r := ru) (a := (rs9_ T p)) (k := k) (s := s) (show ¬ (k = 6) by omega) (show ¬ (T 467 p 0 = ru 11 ∧ T 467 p 1 = ru 11) by omega) (show 4 ≤ wr_ (T 466 p s + 1) ∧ 2 ≤ wr_ (wr_ (T 466 p s + 1) - T 466 p (1 - s)) by omega) (show (ru 11 ≤ wr_ (T 467 p s + 1) ∧ 2 ≤ wr_ (wr_ (T 467 p s + 1) - T 467 p (1 - s))) ∨ ru 11 < wr_ (T 467 p s + 1) by omega) (show wr_ (T 468 p s + 1) = 2 by omega)).symm⟩
        · replace hx23 := hx23.resolve_left (fun z => absurd (c24.symm.trans z.1) (by decide))
          clear c24
          refine ix_i (by omega) ?_
          intro b57 b57b
          have e58 : U19 467 p s = wr_ ((T 467 p s) + 1) := up_f hU19
          rw [e58] at b57 b57b ⊢
          refine And.intro (fun c59 => ?_) (fun c59 => ?_)
          · refine hK 165 _ [] U19 ?_
            refine j_blx (F := fX3) tb_X3 (nn_ _) bk_X3_playTennis_e_165 bs_X3_playTennis_e_165 hz (fun K hK => ?_)
            intro b60 b60b
            have e61 : U19 103 p 5 = T 103 p 5 := (up_k hU19 (by exact Nat.ne_of_beq_eq_false rfl) p 5).trans ((fU15 103 p 5 rfl).trans (up_k hU6 (by exact Nat.ne_of_beq_eq_false rfl) p 5))
            rw [e61] at b60 b60b ⊢
            refine rg_i (by omega) ?_
            refine bd_i (by omega) ?_
            refine x_nm (fun U62 hU62 => ?_)
            have e63 := up_f hU62
            refine (show po_X3_playTennis_e T p ru k s U62 (none) from ?_)
            have e64 : U62 103 p 3 = T 103 p 3 := (up_j hU62 (by decide) 103 p).trans ((up_k hU19 (by exact Nat.ne_of_beq_eq_false rfl) p 3).trans ((fU15 103 p 3 rfl).trans (up_k hU6 (by exact Nat.ne_of_beq_eq_false rfl) p 3)))
            have e65 : U62 470 p 0 = T 470 p 0 := (up_k hU62 (by exact Nat.ne_of_beq_eq_false rfl) p 0).trans ((up_k hU19 (by exact Nat.ne_of_beq_eq_false rfl) p 0).trans ((fU15 470 p 0 rfl).trans (up_k hU6 (by exact Nat.ne_of_beq_eq_false rfl) p 0)))
            have e66 : U62 470 p 1 = T 470 p 1 := (up_k hU62 (by exact Nat.ne_of_beq_eq_false rfl) p 1).trans ((up_k hU19 (by exact Nat.ne_of_beq_eq_false rfl) p 1).trans ((fU15 470 p 1 rfl).trans (up_k hU6 (by exact Nat.ne_of_beq_eq_false rfl) p 1)))
            have g67 : U62 470 p 0 = T 470 p 0 := (up_k hU62 (by exact Nat.ne_of_beq_eq_false rfl) p 0).trans ((up_k hU19 (by exact Nat.ne_of_beq_eq_false rfl) p 0).trans ((fU15 470 p 0 rfl).trans (up_k hU6 (by exact Nat.ne_of_beq_eq_false rfl) p 0)))
            have g68 : U62 470 p 1 = T 470 p 1 := (up_k hU62 (by exact Nat.ne_of_beq_eq_false rfl) p 1).trans ((up_k hU19 (by exact Nat.ne_of_beq_eq_false rfl) p 1).trans ((fU15 470 p 1 rfl).trans (up_k hU6 (by exact Nat.ne_of_beq_eq_false rfl) p 1)))
            have e69 : U62 103 p 3 = T 103 p 3 := (up_j hU62 (by decide) 103 p).trans ((up_k hU19 (by exact Nat.ne_of_beq_eq_false rfl) p 3).trans ((fU15 103 p 3 rfl).trans (up_k hU6 (by exact Nat.ne_of_beq_eq_false rfl) p 3)))
            have rU6 : rs9_ U6 p = u2_ (rs9_ T p) 466 s (wr_ ((T 466 p s) + 1)) := rs_u hU6 rfl
            have rU15 : rs9_ U15 p = fy2_ (u2_ (rs9_ T p) 466 s (wr_ ((T 466 p s) + 1))) 466 2 0 := by rw [qU15e, rU6]
            have rU19 : rs9_ U19 p = u2_ (fy2_ (u2_ (rs9_ T p) 466 s (wr_ ((T 466 p s) + 1))) 466 2 0) 467 s (wr_ ((T 467 p s) + 1)) := by rw [rs_u hU19 rfl, rU15]
            have rU62 : rs9_ U62 p = u2_ (u2_ (fy2_ (u2_ (rs9_ T p) 466 s (wr_ ((T 466 p s) + 1))) 466 2 0) 467 s (wr_ ((T 467 p s) + 1))) 103 5 (1 - (T 103 p 5)) := by rw [rs_u hU62 rfl, rU19]
            exact ⟨rfl, fr_u (fr_u (fr_t (fr_u (fr_0 _ _) hU6 rfl) (fr_s fU15 rfl)) hU19 rfl) hU62 rfl, oi_u (oi_u (oi_t (oi_u (oi_r) hU6) qU15o) hU19) hU62, by exact fun _ => by omega, Eq.trans rU62 (pt9__8 (r := ru) (a := (rs9_ T p)) (k := k) (s := s) (show ¬ (k = 6) by omega) (show ¬ (T 467 p 0 = ru 11 ∧ T 467 p 1 = ru 11) by omega) (show 4 ≤ wr_ (T 466 p s + 1) ∧ 2 ≤ wr_ (wr_ (T 466 p s + 1) - T 466 p (1 - s)) by omega) (show ¬ ((ru 11 ≤ wr_ (T 467 p s + 1) ∧ 2 ≤ wr_ (wr_ (T 467 p s + 1) - T 467 p (1 - s))) ∨ ru 11 < wr_ (T 467 p s + 1)) by omega)).symm⟩
          · refine hK 126 _ [vI 0, vR 467 p] U19 ?_
            refine j_callS (y := yJ7_fill_53178) (Yc := zJ7_fill_53178) (rest := []) [vR 467 p, vI 0] (ct_J7_fill_467_e (T := U19) (by omega)) cl_X3_62 (qd_c (by decide +kernel)) (nn_ _) rfl (rf_of rfl) (Nat.le_of_ble_eq_true rfl) (Nat.le_of_ble_eq_true rfl) (Nat.le_of_ble_eq_true rfl) rfl ?_
            rintro U70 _ ⟨rfl, fU70, qU70o, qU70, qU70e⟩
            show J_ zX3_playTennis T (po_X3_playTennis_e T p ru k s) 0 0 129 _ [] U70
            refine j_blx (F := fX3) tb_X3 (nn_ _) bk_X3_playTennis_e_129 bs_X3_playTennis_e_129 hz (fun K hK => ?_)
            refine ix_i (by omega) ?_
            intro b71 b71b
            have e72 : U70 468 p s = T 468 p s := (fU70 468 p s rfl).trans ((up_k hU19 (by exact Nat.ne_of_beq_eq_false rfl) p s).trans ((fU15 468 p s rfl).trans (up_k hU6 (by exact Nat.ne_of_beq_eq_false rfl) p s)))
            rw [e72] at b71 b71b ⊢
            intro w73 w73b
            refine iy_i (by omega) (by omega) ?_
            refine x_nm (fun U74 hU74 => ?_)
            have e75 := up_f hU74
            refine ix_i (by omega) ?_
            intro b76 b76b
            have e77 : U74 468 p s = wr_ ((T 468 p s) + 1) := up_f hU74
            rw [e77] at b76 b76b ⊢
            refine And.intro (fun c78 => ?_) (fun c78 => ?_)
            · refine hK 155 _ [] U74 ?_
              refine j_blx (F := fX3) tb_X3 (nn_ _) bk_X3_playTennis_e_155 bs_X3_playTennis_e_155 hz (fun K hK => ?_)
              intro b79 b79b
              have e80 : U74 103 p 4 = T 103 p 4 := (up_k hU74 (by exact Nat.ne_of_beq_eq_false rfl) p 4).trans ((fU70 103 p 4 rfl).trans ((up_k hU19 (by exact Nat.ne_of_beq_eq_false rfl) p 4).trans ((fU15 103 p 4 rfl).trans (up_k hU6 (by exact Nat.ne_of_beq_eq_false rfl) p 4))))
              rw [e80] at b79 b79b ⊢
              intro w81 w81b
              refine bd_i (by omega) ?_
              refine x_nm (fun U82 hU82 => ?_)
              have e83 := up_f hU82
              intro b84 b84b
              have e85 : U82 103 p 5 = T 103 p 5 := (up_j hU82 (by decide) 103 p).trans ((up_k hU74 (by exact Nat.ne_of_beq_eq_false rfl) p 5).trans ((fU70 103 p 5 rfl).trans ((up_k hU19 (by exact Nat.ne_of_beq_eq_false rfl) p 5).trans ((fU15 103 p 5 rfl).trans (up_k hU6 (by exact Nat.ne_of_beq_eq_false rfl) p 5)))))
              rw [e85] at b84 b84b ⊢
              refine rg_i (by omega) ?_
              refine bd_i (by omega) ?_
              refine x_nm (fun U86 hU86 => ?_)
              have e87 := up_f hU86
              refine (show po_X3_playTennis_e T p ru k s U86 (none) from ?_)
              have e88 : U86 103 p 3 = T 103 p 3 := (up_j hU86 (by decide) 103 p).trans ((up_j hU82 (by decide) 103 p).trans ((up_k hU74 (by exact Nat.ne_of_beq_eq_false rfl) p 3).trans ((fU70 103 p 3 rfl).trans ((up_k hU19 (by exact Nat.ne_of_beq_eq_false rfl) p 3).trans ((fU15 103 p 3 rfl).trans (up_k hU6 (by exact Nat.ne_of_beq_eq_false rfl) p 3))))))
              have e89 : U86 470 p 0 = T 470 p 0 := (up_k hU86 (by exact Nat.ne_of_beq_eq_false rfl) p 0).trans ((up_k hU82 (by exact Nat.ne_of_beq_eq_false rfl) p 0).trans ((up_k hU74 (by exact Nat.ne_of_beq_eq_false rfl) p 0).trans ((fU70 470 p 0 rfl).trans ((up_k hU19 (by exact Nat.ne_of_beq_eq_false rfl) p 0).trans ((fU15 470 p 0 rfl).trans (up_k hU6 (by exact Nat.ne_of_beq_eq_false rfl) p 0))))))
              have e90 : U86 470 p 1 = T 470 p 1 := (up_k hU86 (by exact Nat.ne_of_beq_eq_false rfl) p 1).trans ((up_k hU82 (by exact Nat.ne_of_beq_eq_false rfl) p 1).trans ((up_k hU74 (by exact Nat.ne_of_beq_eq_false rfl) p 1).trans ((fU70 470 p 1 rfl).trans ((up_k hU19 (by exact Nat.ne_of_beq_eq_false rfl) p 1).trans ((fU15 470 p 1 rfl).trans (up_k hU6 (by exact Nat.ne_of_beq_eq_false rfl) p 1))))))
              have g91 : U86 470 p 0 = T 470 p 0 := (up_k hU86 (by exact Nat.ne_of_beq_eq_false rfl) p 0).trans ((up_k hU82 (by exact Nat.ne_of_beq_eq_false rfl) p 0).trans ((up_k hU74 (by exact Nat.ne_of_beq_eq_false rfl) p 0).trans ((fU70 470 p 0 rfl).trans ((up_k hU19 (by exact Nat.ne_of_beq_eq_false rfl) p 0).trans ((fU15 470 p 0 rfl).trans (up_k hU6 (by exact Nat.ne_of_beq_eq_false rfl) p 0))))))
              have g92 : U86 470 p 1 = T 470 p 1 := (up_k hU86 (by exact Nat.ne_of_beq_eq_false rfl) p 1).trans ((up_k hU82 (by exact Nat.ne_of_beq_eq_false rfl) p 1).trans ((up_k hU74 (by exact Nat.ne_of_beq_eq_false rfl) p 1).trans ((fU70 470 p 1 rfl).trans ((up_k hU19 (by exact Nat.ne_of_beq_eq_false rfl) p 1).trans ((fU15 470 p 1 rfl).trans (up_k hU6 (by exact Nat.ne_of_beq_eq_false rfl) p 1))))))
              have e93 : U86 103 p 3 = T 103 p 3 := (up_j hU86 (by decide) 103 p).trans ((up_j hU82 (by decide) 103 p).trans ((up_k hU74 (by exact Nat.ne_of_beq_eq_false rfl) p 3).trans ((fU70 103 p 3 rfl).trans ((up_k hU19 (by exact Nat.ne_of_beq_eq_false rfl) p 3).trans ((fU15 103 p 3 rfl).trans (up_k hU6 (by exact Nat.ne_of_beq_eq_false rfl) p 3))))))
              have rU6 : rs9_ U6 p = u2_ (rs9_ T p) 466 s (wr_ ((T 466 p s) + 1)) := rs_u hU6 rfl
              have rU15 : rs9_ U15 p = fy2_ (u2_ (rs9_ T p) 466 s (wr_ ((T 466 p s) + 1))) 466 2 0 := by rw [qU15e, rU6]
              have rU19 : rs9_ U19 p = u2_ (fy2_ (u2_ (rs9_ T p) 466 s (wr_ ((T 466 p s) + 1))) 466 2 0) 467 s (wr_ ((T 467 p s) + 1)) := by rw [rs_u hU19 rfl, rU15]
              have rU70 : rs9_ U70 p = fy2_ (u2_ (fy2_ (u2_ (rs9_ T p) 466 s (wr_ ((T 466 p s) + 1))) 466 2 0) 467 s (wr_ ((T 467 p s) + 1))) 467 2 0 := by rw [qU70e, rU19]
              have rU74 : rs9_ U74 p = u2_ (fy2_ (u2_ (fy2_ (u2_ (rs9_ T p) 466 s (wr_ ((T 466 p s) + 1))) 466 2 0) 467 s (wr_ ((T 467 p s) + 1))) 467 2 0) 468 s (wr_ ((T 468 p s) + 1)) := by rw [rs_u hU74 rfl, rU70]
              have rU82 : rs9_ U82 p = u2_ (u2_ (fy2_ (u2_ (fy2_ (u2_ (rs9_ T p) 466 s (wr_ ((T 466 p s) + 1))) 466 2 0) 467 s (wr_ ((T 467 p s) + 1))) 467 2 0) 468 s (wr_ ((T 468 p s) + 1))) 103 4 (wr_ ((T 103 p 4) + 1)) := by rw [rs_u hU82 rfl, rU74]
              have rU86 : rs9_ U86 p = u2_ (u2_ (u2_ (fy2_ (u2_ (fy2_ (u2_ (rs9_ T p) 466 s (wr_ ((T 466 p s) + 1))) 466 2 0) 467 s (wr_ ((T 467 p s) + 1))) 467 2 0) 468 s (wr_ ((T 468 p s) + 1))) 103 4 (wr_ ((T 103 p 4) + 1))) 103 5 (1 - (T 103 p 5)) := by rw [rs_u hU86 rfl, rU82]
              exact ⟨rfl, fr_u (fr_u (fr_u (fr_t (fr_u (fr_t (fr_u (fr_0 _ _) hU6 rfl) (fr_s fU15 rfl)) hU19 rfl) (fr_s fU70 rfl)) hU74 rfl) hU82 rfl) hU86 rfl, oi_u (oi_u (oi_u (oi_t (oi_u (oi_t (oi_u (oi_r) hU6) qU15o) hU19) qU70o) hU74) hU82) hU86, by exact fun _ => by omega, Eq.trans rU86 (pt9__7 (r := ru) (a := (rs9_ T p)) (k := k) (s := s) (show ¬ (k = 6) by omega) (show ¬ (T 467 p 0 = ru 11 ∧ T 467 p 1 = ru 11) by omega) (show 4 ≤ wr_ (T 466 p s + 1) ∧ 2 ≤ wr_ (wr_ (T 466 p s + 1) - T 466 p (1 - s)) by omega) (show (ru 11 ≤ wr_ (T 467 p s + 1) ∧ 2 ≤ wr_ (wr_ (T 467 p s + 1) - T 467 p (1 - s))) ∨ ru 11 < wr_ (T 467 p s + 1) by omega) (show ¬ (wr_ (T 468 p s + 1) = 2) by omega)).symm⟩
            · refine bd_i (by omega) ?_
              refine x_nm (fun U94 hU94 => ?_)
              have e95 := up_f hU94
              refine (show po_X3_playTennis_e T p ru k s U94 (none) from ?_)
              have e96 : U94 103 p 3 = 1 := up_f hU94
              have e97 : U94 470 p 0 = T 470 p 0 := (up_k hU94 (by exact Nat.ne_of_beq_eq_false rfl) p 0).trans ((up_k hU74 (by exact Nat.ne_of_beq_eq_false rfl) p 0).trans ((fU70 470 p 0 rfl).trans ((up_k hU19 (by exact Nat.ne_of_beq_eq_false rfl) p 0).trans ((fU15 470 p 0 rfl).trans (up_k hU6 (by exact Nat.ne_of_beq_eq_false rfl) p 0)))))
              have e98 : U94 470 p 1 = T 470 p 1 := (up_k hU94 (by exact Nat.ne_of_beq_eq_false rfl) p 1).trans ((up_k hU74 (by exact Nat.ne_of_beq_eq_false rfl) p 1).trans ((fU70 470 p 1 rfl).trans ((up_k hU19 (by exact Nat.ne_of_beq_eq_false rfl) p 1).trans ((fU15 470 p 1 rfl).trans (up_k hU6 (by exact Nat.ne_of_beq_eq_false rfl) p 1)))))
              have g99 : U94 470 p 0 = T 470 p 0 := (up_k hU94 (by exact Nat.ne_of_beq_eq_false rfl) p 0).trans ((up_k hU74 (by exact Nat.ne_of_beq_eq_false rfl) p 0).trans ((fU70 470 p 0 rfl).trans ((up_k hU19 (by exact Nat.ne_of_beq_eq_false rfl) p 0).trans ((fU15 470 p 0 rfl).trans (up_k hU6 (by exact Nat.ne_of_beq_eq_false rfl) p 0)))))
              have g100 : U94 470 p 1 = T 470 p 1 := (up_k hU94 (by exact Nat.ne_of_beq_eq_false rfl) p 1).trans ((up_k hU74 (by exact Nat.ne_of_beq_eq_false rfl) p 1).trans ((fU70 470 p 1 rfl).trans ((up_k hU19 (by exact Nat.ne_of_beq_eq_false rfl) p 1).trans ((fU15 470 p 1 rfl).trans (up_k hU6 (by exact Nat.ne_of_beq_eq_false rfl) p 1)))))
              have e101 : U94 103 p 3 = 1 := up_f hU94
              have rU6 : rs9_ U6 p = u2_ (rs9_ T p) 466 s (wr_ ((T 466 p s) + 1)) := rs_u hU6 rfl
              have rU15 : rs9_ U15 p = fy2_ (u2_ (rs9_ T p) 466 s (wr_ ((T 466 p s) + 1))) 466 2 0 := by rw [qU15e, rU6]
              have rU19 : rs9_ U19 p = u2_ (fy2_ (u2_ (rs9_ T p) 466 s (wr_ ((T 466 p s) + 1))) 466 2 0) 467 s (wr_ ((T 467 p s) + 1)) := by rw [rs_u hU19 rfl, rU15]
              have rU70 : rs9_ U70 p = fy2_ (u2_ (fy2_ (u2_ (rs9_ T p) 466 s (wr_ ((T 466 p s) + 1))) 466 2 0) 467 s (wr_ ((T 467 p s) + 1))) 467 2 0 := by rw [qU70e, rU19]
              have rU74 : rs9_ U74 p = u2_ (fy2_ (u2_ (fy2_ (u2_ (rs9_ T p) 466 s (wr_ ((T 466 p s) + 1))) 466 2 0) 467 s (wr_ ((T 467 p s) + 1))) 467 2 0) 468 s (wr_ ((T 468 p s) + 1)) := by rw [rs_u hU74 rfl, rU70]
              have rU94 : rs9_ U94 p = u2_ (u2_ (fy2_ (u2_ (fy2_ (u2_ (rs9_ T p) 466 s (wr_ ((T 466 p s) + 1))) 466 2 0) 467 s (wr_ ((T 467 p s) + 1))) 467 2 0) 468 s (wr_ ((T 468 p s) + 1))) 103 3 1 := by rw [rs_u hU94 rfl, rU74]
              exact ⟨rfl, fr_u (fr_u (fr_t (fr_u (fr_t (fr_u (fr_0 _ _) hU6 rfl) (fr_s fU15 rfl)) hU19 rfl) (fr_s fU70 rfl)) hU74 rfl) hU94 rfl, oi_u (oi_u (oi_t (oi_u (oi_t (oi_u (oi_r) hU6) qU15o) hU19) qU70o) hU74) hU94, by exact fun _ => by omega, Eq.trans rU94 (pt9__6 (r := ru) (a := (rs9_ T p)) (k := k) (s := s) (show ¬ (k = 6) by omega) (show ¬ (T 467 p 0 = ru 11 ∧ T 467 p 1 = ru 11) by omega) (show 4 ≤ wr_ (T 466 p s + 1) ∧ 2 ≤ wr_ (wr_ (T 466 p s + 1) - T 466 p (1 - s)) by omega) (show (ru 11 ≤ wr_ (T 467 p s + 1) ∧ 2 ≤ wr_ (wr_ (T 467 p s + 1) - T 467 p (1 - s))) ∨ ru 11 < wr_ (T 467 p s + 1) by omega) (show wr_ (T 468 p s + 1) = 2 by omega)).symm⟩
      · replace hx13 := hx13.resolve_left (fun z => absurd (c14.symm.trans z.1) (by decide))
        clear c14
        refine (show po_X3_playTennis_e T p ru k s U6 (none) from ?_)
        have e102 : U6 103 p 3 = T 103 p 3 := up_k hU6 (by exact Nat.ne_of_beq_eq_false rfl) p 3
        have e103 : U6 470 p 0 = T 470 p 0 := up_k hU6 (by exact Nat.ne_of_beq_eq_false rfl) p 0
        have e104 : U6 470 p 1 = T 470 p 1 := up_k hU6 (by exact Nat.ne_of_beq_eq_false rfl) p 1
        have g105 : U6 470 p 0 = T 470 p 0 := up_k hU6 (by exact Nat.ne_of_beq_eq_false rfl) p 0
        have g106 : U6 470 p 1 = T 470 p 1 := up_k hU6 (by exact Nat.ne_of_beq_eq_false rfl) p 1
        have e107 : U6 103 p 3 = T 103 p 3 := up_k hU6 (by exact Nat.ne_of_beq_eq_false rfl) p 3
        have rU6 : rs9_ U6 p = u2_ (rs9_ T p) 466 s (wr_ ((T 466 p s) + 1)) := rs_u hU6 rfl
        exact ⟨rfl, fr_u (fr_0 _ _) hU6 rfl, oi_u (oi_r) hU6, by exact fun _ => by omega, Eq.trans rU6 (pt9__9 (r := ru) (a := (rs9_ T p)) (k := k) (s := s) (show ¬ (k = 6) by omega) (show ¬ (T 467 p 0 = ru 11 ∧ T 467 p 1 = ru 11) by omega) (show ¬ (4 ≤ wr_ (T 466 p s + 1) ∧ 2 ≤ wr_ (wr_ (T 466 p s + 1) - T 466 p (1 - s))) by omega)).symm⟩
    · refine ix_i (by omega) ?_
      intro b108 b108b
      have e109 : U6 467 p 1 = T 467 p 1 := up_k hU6 (by exact Nat.ne_of_beq_eq_false rfl) p 1
      rw [e109] at b108 b108b ⊢
      refine And.intro (fun c110 => ?_) (fun c110 => ?_)
      · refine hK 64 [some (vR 103 p), some (vI k), some (vI s), some (vI (T 401 (T 103 p 0) 11)), none] [] U6 ?_
        refine j_blx (F := fX3) tb_X3 (nn_ _) bk_X3_playTennis_e_64 bs_X3_playTennis_e_64 hz (fun K hK => ?_)
        refine hK 74 [some (vR 103 p), some (vI k), some (vI s), some (vI (T 401 (T 103 p 0) 11)), some (vI 4)] [vI 4, vI s, vR 466 p] U6 ?_
        have e111 : U6 466 p s = wr_ ((T 466 p s) + 1) := up_f hU6
        have e112 : U6 466 p (1 - s) = T 466 p (1 - s) := up_g hU6 (by omega)
        refine j_callS (y := yX3_isWon) (Yc := zX3_isWon) (rest := []) [vR 466 p, vI s, vI 4] (ct_X3_isWon_466_e (T := U6) (by omega)) cl_X3_125 (qd_c (by decide +kernel)) (nn_ _) rfl (rf_of rfl) (Nat.le_of_ble_eq_true rfl) (Nat.le_of_ble_eq_true rfl) (Nat.le_of_ble_eq_true rfl) rfl ?_
        rintro _ _ ⟨rfl, x113, rfl, hx113⟩
        rw [e111, e112] at hx113
        show J_ zX3_playTennis T (po_X3_playTennis_e T p ru k s) 0 0 77 _ [vI x113] U6
        refine j_blx (F := fX3) tb_X3 (nn_ _) bk_X3_playTennis_e_77 bs_X3_playTennis_e_77 hz (fun K hK => ?_)
        refine And.intro (fun c114 => ?_) (fun c114 => ?_)
        · replace hx113 := hx113.resolve_right (fun z => c114 z.1)
          clear c114
          refine hK 81 _ [] U6 ?_
          refine j_blx (F := fX3) tb_X3 (nn_ _) bk_X3_playTennis_e_81 bs_X3_playTennis_e_81 hz (fun K hK => ?_)
          refine hK 86 _ [vI 0, vR 466 p] U6 ?_
          refine j_callS (y := yJ7_fill_53178) (Yc := zJ7_fill_53178) (rest := []) [vR 466 p, vI 0] (ct_J7_fill_466_e (T := U6) (by omega)) cl_X3_62 (qd_c (by decide +kernel)) (nn_ _) rfl (rf_of rfl) (Nat.le_of_ble_eq_true rfl) (Nat.le_of_ble_eq_true rfl) (Nat.le_of_ble_eq_true rfl) rfl ?_
          rintro U115 _ ⟨rfl, fU115, qU115o, qU115, qU115e⟩
          show J_ zX3_playTennis T (po_X3_playTennis_e T p ru k s) 0 0 89 _ [] U115
          refine j_blx (F := fX3) tb_X3 (nn_ _) bk_X3_playTennis_e_89 bs_X3_playTennis_e_89 hz (fun K hK => ?_)
          refine ix_i (by omega) ?_
          intro b116 b116b
          have e117 : U115 467 p s = T 467 p s := (fU115 467 p s rfl).trans (up_k hU6 (by exact Nat.ne_of_beq_eq_false rfl) p s)
          rw [e117] at b116 b116b ⊢
          intro w118 w118b
          refine iy_i (by omega) (by omega) ?_
          refine x_nm (fun U119 hU119 => ?_)
          have e120 := up_f hU119
          refine hK 105 _ [vI (T 401 (T 103 p 0) 11), vI s, vR 467 p] U119 ?_
          have e121 : U119 467 p s = wr_ ((T 467 p s) + 1) := up_f hU119
          have e122 : U119 467 p (1 - s) = T 467 p (1 - s) := (up_g hU119 (by omega)).trans ((fU115 467 p (1 - s) rfl).trans (up_k hU6 (by exact Nat.ne_of_beq_eq_false rfl) p (1 - s)))
          refine j_callS (y := yX3_isWon) (Yc := zX3_isWon) (rest := []) [vR 467 p, vI s, vI (T 401 (T 103 p 0) 11)] (ct_X3_isWon_467_e (T := U119) (by omega)) cl_X3_125 (qd_c (by decide +kernel)) (nn_ _) rfl (rf_of rfl) (Nat.le_of_ble_eq_true rfl) (Nat.le_of_ble_eq_true rfl) (Nat.le_of_ble_eq_true rfl) rfl ?_
          rintro _ _ ⟨rfl, x123, rfl, hx123⟩
          rw [e121, e122] at hx123
          show J_ zX3_playTennis T (po_X3_playTennis_e T p ru k s) 0 0 108 _ [vI x123] U119
          refine j_blx (F := fX3) tb_X3 (nn_ _) bk_X3_playTennis_e_108 bs_X3_playTennis_e_108 hz (fun K hK => ?_)
          refine And.intro (fun c124 => ?_) (fun c124 => ?_)
          · replace hx123 := hx123.resolve_right (fun z => c124 z.1)
            clear c124
            refine hK 121 _ [] U119 ?_
            refine j_blx (F := fX3) tb_X3 (nn_ _) bk_X3_playTennis_e_121 bs_X3_playTennis_e_121 hz (fun K hK => ?_)
            refine hK 126 _ [vI 0, vR 467 p] U119 ?_
            refine j_callS (y := yJ7_fill_53178) (Yc := zJ7_fill_53178) (rest := []) [vR 467 p, vI 0] (ct_J7_fill_467_e (T := U119) (by omega)) cl_X3_62 (qd_c (by decide +kernel)) (nn_ _) rfl (rf_of rfl) (Nat.le_of_ble_eq_true rfl) (Nat.le_of_ble_eq_true rfl) (Nat.le_of_ble_eq_true rfl) rfl ?_
            rintro U125 _ ⟨rfl, fU125, qU125o, qU125, qU125e⟩
            show J_ zX3_playTennis T (po_X3_playTennis_e T p ru k s) 0 0 129 _ [] U125
            refine j_blx (F := fX3) tb_X3 (nn_ _) bk_X3_playTennis_e_129 bs_X3_playTennis_e_129 hz (fun K hK => ?_)
            refine ix_i (by omega) ?_
            intro b126 b126b
            have e127 : U125 468 p s = T 468 p s := (fU125 468 p s rfl).trans ((up_k hU119 (by exact Nat.ne_of_beq_eq_false rfl) p s).trans ((fU115 468 p s rfl).trans (up_k hU6 (by exact Nat.ne_of_beq_eq_false rfl) p s)))
            rw [e127] at b126 b126b ⊢
            intro w128 w128b
            refine iy_i (by omega) (by omega) ?_
            refine x_nm (fun U129 hU129 => ?_)
            have e130 := up_f hU129
            refine ix_i (by omega) ?_
            intro b131 b131b
            have e132 : U129 468 p s = wr_ ((T 468 p s) + 1) := up_f hU129
            rw [e132] at b131 b131b ⊢
            refine And.intro (fun c133 => ?_) (fun c133 => ?_)
            · refine hK 155 _ [] U129 ?_
              refine j_blx (F := fX3) tb_X3 (nn_ _) bk_X3_playTennis_e_155 bs_X3_playTennis_e_155 hz (fun K hK => ?_)
              intro b134 b134b
              have e135 : U129 103 p 4 = T 103 p 4 := (up_k hU129 (by exact Nat.ne_of_beq_eq_false rfl) p 4).trans ((fU125 103 p 4 rfl).trans ((up_k hU119 (by exact Nat.ne_of_beq_eq_false rfl) p 4).trans ((fU115 103 p 4 rfl).trans (up_k hU6 (by exact Nat.ne_of_beq_eq_false rfl) p 4))))
              rw [e135] at b134 b134b ⊢
              intro w136 w136b
              refine bd_i (by omega) ?_
              refine x_nm (fun U137 hU137 => ?_)
              have e138 := up_f hU137
              intro b139 b139b
              have e140 : U137 103 p 5 = T 103 p 5 := (up_j hU137 (by decide) 103 p).trans ((up_k hU129 (by exact Nat.ne_of_beq_eq_false rfl) p 5).trans ((fU125 103 p 5 rfl).trans ((up_k hU119 (by exact Nat.ne_of_beq_eq_false rfl) p 5).trans ((fU115 103 p 5 rfl).trans (up_k hU6 (by exact Nat.ne_of_beq_eq_false rfl) p 5)))))
              rw [e140] at b139 b139b ⊢
              refine rg_i (by omega) ?_
              refine bd_i (by omega) ?_
              refine x_nm (fun U141 hU141 => ?_)
              have e142 := up_f hU141
              refine (show po_X3_playTennis_e T p ru k s U141 (none) from ?_)
              have e143 : U141 103 p 3 = T 103 p 3 := (up_j hU141 (by decide) 103 p).trans ((up_j hU137 (by decide) 103 p).trans ((up_k hU129 (by exact Nat.ne_of_beq_eq_false rfl) p 3).trans ((fU125 103 p 3 rfl).trans ((up_k hU119 (by exact Nat.ne_of_beq_eq_false rfl) p 3).trans ((fU115 103 p 3 rfl).trans (up_k hU6 (by exact Nat.ne_of_beq_eq_false rfl) p 3))))))
              have e144 : U141 470 p 0 = T 470 p 0 := (up_k hU141 (by exact Nat.ne_of_beq_eq_false rfl) p 0).trans ((up_k hU137 (by exact Nat.ne_of_beq_eq_false rfl) p 0).trans ((up_k hU129 (by exact Nat.ne_of_beq_eq_false rfl) p 0).trans ((fU125 470 p 0 rfl).trans ((up_k hU119 (by exact Nat.ne_of_beq_eq_false rfl) p 0).trans ((fU115 470 p 0 rfl).trans (up_k hU6 (by exact Nat.ne_of_beq_eq_false rfl) p 0))))))
              have e145 : U141 470 p 1 = T 470 p 1 := (up_k hU141 (by exact Nat.ne_of_beq_eq_false rfl) p 1).trans ((up_k hU137 (by exact Nat.ne_of_beq_eq_false rfl) p 1).trans ((up_k hU129 (by exact Nat.ne_of_beq_eq_false rfl) p 1).trans ((fU125 470 p 1 rfl).trans ((up_k hU119 (by exact Nat.ne_of_beq_eq_false rfl) p 1).trans ((fU115 470 p 1 rfl).trans (up_k hU6 (by exact Nat.ne_of_beq_eq_false rfl) p 1))))))
              have g146 : U141 470 p 0 = T 470 p 0 := (up_k hU141 (by exact Nat.ne_of_beq_eq_false rfl) p 0).trans ((up_k hU137 (by exact Nat.ne_of_beq_eq_false rfl) p 0).trans ((up_k hU129 (by exact Nat.ne_of_beq_eq_false rfl) p 0).trans ((fU125 470 p 0 rfl).trans ((up_k hU119 (by exact Nat.ne_of_beq_eq_false rfl) p 0).trans ((fU115 470 p 0 rfl).trans (up_k hU6 (by exact Nat.ne_of_beq_eq_false rfl) p 0))))))
              have g147 : U141 470 p 1 = T 470 p 1 := (up_k hU141 (by exact Nat.ne_of_beq_eq_false rfl) p 1).trans ((up_k hU137 (by exact Nat.ne_of_beq_eq_false rfl) p 1).trans ((up_k hU129 (by exact Nat.ne_of_beq_eq_false rfl) p 1).trans ((fU125 470 p 1 rfl).trans ((up_k hU119 (by exact Nat.ne_of_beq_eq_false rfl) p 1).trans ((fU115 470 p 1 rfl).trans (up_k hU6 (by exact Nat.ne_of_beq_eq_false rfl) p 1))))))
              have e148 : U141 103 p 3 = T 103 p 3 := (up_j hU141 (by decide) 103 p).trans ((up_j hU137 (by decide) 103 p).trans ((up_k hU129 (by exact Nat.ne_of_beq_eq_false rfl) p 3).trans ((fU125 103 p 3 rfl).trans ((up_k hU119 (by exact Nat.ne_of_beq_eq_false rfl) p 3).trans ((fU115 103 p 3 rfl).trans (up_k hU6 (by exact Nat.ne_of_beq_eq_false rfl) p 3))))))
              have rU6 : rs9_ U6 p = u2_ (rs9_ T p) 466 s (wr_ ((T 466 p s) + 1)) := rs_u hU6 rfl
              have rU115 : rs9_ U115 p = fy2_ (u2_ (rs9_ T p) 466 s (wr_ ((T 466 p s) + 1))) 466 2 0 := by rw [qU115e, rU6]
              have rU119 : rs9_ U119 p = u2_ (fy2_ (u2_ (rs9_ T p) 466 s (wr_ ((T 466 p s) + 1))) 466 2 0) 467 s (wr_ ((T 467 p s) + 1)) := by rw [rs_u hU119 rfl, rU115]
              have rU125 : rs9_ U125 p = fy2_ (u2_ (fy2_ (u2_ (rs9_ T p) 466 s (wr_ ((T 466 p s) + 1))) 466 2 0) 467 s (wr_ ((T 467 p s) + 1))) 467 2 0 := by rw [qU125e, rU119]
              have rU129 : rs9_ U129 p = u2_ (fy2_ (u2_ (fy2_ (u2_ (rs9_ T p) 466 s (wr_ ((T 466 p s) + 1))) 466 2 0) 467 s (wr_ ((T 467 p s) + 1))) 467 2 0) 468 s (wr_ ((T 468 p s) + 1)) := by rw [rs_u hU129 rfl, rU125]
              have rU137 : rs9_ U137 p = u2_ (u2_ (fy2_ (u2_ (fy2_ (u2_ (rs9_ T p) 466 s (wr_ ((T 466 p s) + 1))) 466 2 0) 467 s (wr_ ((T 467 p s) + 1))) 467 2 0) 468 s (wr_ ((T 468 p s) + 1))) 103 4 (wr_ ((T 103 p 4) + 1)) := by rw [rs_u hU137 rfl, rU129]
              have rU141 : rs9_ U141 p = u2_ (u2_ (u2_ (fy2_ (u2_ (fy2_ (u2_ (rs9_ T p) 466 s (wr_ ((T 466 p s) + 1))) 466 2 0) 467 s (wr_ ((T 467 p s) + 1))) 467 2 0) 468 s (wr_ ((T 468 p s) + 1))) 103 4 (wr_ ((T 103 p 4) + 1))) 103 5 (1 - (T 103 p 5)) := by rw [rs_u hU141 rfl, rU137]
              exact ⟨rfl, fr_u (fr_u (fr_u (fr_t (fr_u (fr_t (fr_u (fr_0 _ _) hU6 rfl) (fr_s fU115 rfl)) hU119 rfl) (fr_s fU125 rfl)) hU129 rfl) hU137 rfl) hU141 rfl, oi_u (oi_u (oi_u (oi_t (oi_u (oi_t (oi_u (oi_r) hU6) qU115o) hU119) qU125o) hU129) hU137) hU141, by exact fun _ => by omega, Eq.trans rU141 (pt9__7 (r := ru) (a := (rs9_ T p)) (k := k) (s := s) (show ¬ (k = 6) by omega) (show ¬ (T 467 p 0 = ru 11 ∧ T 467 p 1 = ru 11) by omega) (show 4 ≤ wr_ (T 466 p s + 1) ∧ 2 ≤ wr_ (wr_ (T 466 p s + 1) - T 466 p (1 - s)) by omega) (show (ru 11 ≤ wr_ (T 467 p s + 1) ∧ 2 ≤ wr_ (wr_ (T 467 p s + 1) - T 467 p (1 - s))) ∨ ru 11 < wr_ (T 467 p s + 1) by omega) (show ¬ (wr_ (T 468 p s + 1) = 2) by omega)).symm⟩
            · refine bd_i (by omega) ?_
              refine x_nm (fun U149 hU149 => ?_)
              have e150 := up_f hU149
              refine (show po_X3_playTennis_e T p ru k s U149 (none) from ?_)
              have e151 : U149 103 p 3 = 1 := up_f hU149
              have e152 : U149 470 p 0 = T 470 p 0 := (up_k hU149 (by exact Nat.ne_of_beq_eq_false rfl) p 0).trans ((up_k hU129 (by exact Nat.ne_of_beq_eq_false rfl) p 0).trans ((fU125 470 p 0 rfl).trans ((up_k hU119 (by exact Nat.ne_of_beq_eq_false rfl) p 0).trans ((fU115 470 p 0 rfl).trans (up_k hU6 (by exact Nat.ne_of_beq_eq_false rfl) p 0)))))
              have e153 : U149 470 p 1 = T 470 p 1 := (up_k hU149 (by exact Nat.ne_of_beq_eq_false rfl) p 1).trans ((up_k hU129 (by exact Nat.ne_of_beq_eq_false rfl) p 1).trans ((fU125 470 p 1 rfl).trans ((up_k hU119 (by exact Nat.ne_of_beq_eq_false rfl) p 1).trans ((fU115 470 p 1 rfl).trans (up_k hU6 (by exact Nat.ne_of_beq_eq_false rfl) p 1)))))
              have g154 : U149 470 p 0 = T 470 p 0 := (up_k hU149 (by exact Nat.ne_of_beq_eq_false rfl) p 0).trans ((up_k hU129 (by exact Nat.ne_of_beq_eq_false rfl) p 0).trans ((fU125 470 p 0 rfl).trans ((up_k hU119 (by exact Nat.ne_of_beq_eq_false rfl) p 0).trans ((fU115 470 p 0 rfl).trans (up_k hU6 (by exact Nat.ne_of_beq_eq_false rfl) p 0)))))
              have g155 : U149 470 p 1 = T 470 p 1 := (up_k hU149 (by exact Nat.ne_of_beq_eq_false rfl) p 1).trans ((up_k hU129 (by exact Nat.ne_of_beq_eq_false rfl) p 1).trans ((fU125 470 p 1 rfl).trans ((up_k hU119 (by exact Nat.ne_of_beq_eq_false rfl) p 1).trans ((fU115 470 p 1 rfl).trans (up_k hU6 (by exact Nat.ne_of_beq_eq_false rfl) p 1)))))
              have e156 : U149 103 p 3 = 1 := up_f hU149
              have rU6 : rs9_ U6 p = u2_ (rs9_ T p) 466 s (wr_ ((T 466 p s) + 1)) := rs_u hU6 rfl
              have rU115 : rs9_ U115 p = fy2_ (u2_ (rs9_ T p) 466 s (wr_ ((T 466 p s) + 1))) 466 2 0 := by rw [qU115e, rU6]
              have rU119 : rs9_ U119 p = u2_ (fy2_ (u2_ (rs9_ T p) 466 s (wr_ ((T 466 p s) + 1))) 466 2 0) 467 s (wr_ ((T 467 p s) + 1)) := by rw [rs_u hU119 rfl, rU115]
              have rU125 : rs9_ U125 p = fy2_ (u2_ (fy2_ (u2_ (rs9_ T p) 466 s (wr_ ((T 466 p s) + 1))) 466 2 0) 467 s (wr_ ((T 467 p s) + 1))) 467 2 0 := by rw [qU125e, rU119]
              have rU129 : rs9_ U129 p = u2_ (fy2_ (u2_ (fy2_ (u2_ (rs9_ T p) 466 s (wr_ ((T 466 p s) + 1))) 466 2 0) 467 s (wr_ ((T 467 p s) + 1))) 467 2 0) 468 s (wr_ ((T 468 p s) + 1)) := by rw [rs_u hU129 rfl, rU125]
              have rU149 : rs9_ U149 p = u2_ (u2_ (fy2_ (u2_ (fy2_ (u2_ (rs9_ T p) 466 s (wr_ ((T 466 p s) + 1))) 466 2 0) 467 s (wr_ ((T 467 p s) + 1))) 467 2 0) 468 s (wr_ ((T 468 p s) + 1))) 103 3 1 := by rw [rs_u hU149 rfl, rU129]
              exact ⟨rfl, fr_u (fr_u (fr_t (fr_u (fr_t (fr_u (fr_0 _ _) hU6 rfl) (fr_s fU115 rfl)) hU119 rfl) (fr_s fU125 rfl)) hU129 rfl) hU149 rfl, oi_u (oi_u (oi_t (oi_u (oi_t (oi_u (oi_r) hU6) qU115o) hU119) qU125o) hU129) hU149, by exact fun _ => by omega, Eq.trans rU149 (pt9__6 (r := ru) (a := (rs9_ T p)) (k := k) (s := s) (show ¬ (k = 6) by omega) (show ¬ (T 467 p 0 = ru 11 ∧ T 467 p 1 = ru 11) by omega) (show 4 ≤ wr_ (T 466 p s + 1) ∧ 2 ≤ wr_ (wr_ (T 466 p s + 1) - T 466 p (1 - s)) by omega) (show (ru 11 ≤ wr_ (T 467 p s + 1) ∧ 2 ≤ wr_ (wr_ (T 467 p s + 1) - T 467 p (1 - s))) ∨ ru 11 < wr_ (T 467 p s + 1) by omega) (show wr_ (T 468 p s + 1) = 2 by omega)).symm⟩
          · replace hx123 := hx123.resolve_left (fun z => absurd (c124.symm.trans z.1) (by decide))
            clear c124
            refine ix_i (by omega) ?_
            intro b157 b157b
            have e158 : U119 467 p s = wr_ ((T 467 p s) + 1) := up_f hU119
            rw [e158] at b157 b157b ⊢
            refine And.intro (fun c159 => ?_) (fun c159 => ?_)
            · refine hK 165 _ [] U119 ?_
              refine j_blx (F := fX3) tb_X3 (nn_ _) bk_X3_playTennis_e_165 bs_X3_playTennis_e_165 hz (fun K hK => ?_)
              intro b160 b160b
              have e161 : U119 103 p 5 = T 103 p 5 := (up_k hU119 (by exact Nat.ne_of_beq_eq_false rfl) p 5).trans ((fU115 103 p 5 rfl).trans (up_k hU6 (by exact Nat.ne_of_beq_eq_false rfl) p 5))
              rw [e161] at b160 b160b ⊢
              refine rg_i (by omega) ?_
              refine bd_i (by omega) ?_
              refine x_nm (fun U162 hU162 => ?_)
              have e163 := up_f hU162
              refine (show po_X3_playTennis_e T p ru k s U162 (none) from ?_)
              have e164 : U162 103 p 3 = T 103 p 3 := (up_j hU162 (by decide) 103 p).trans ((up_k hU119 (by exact Nat.ne_of_beq_eq_false rfl) p 3).trans ((fU115 103 p 3 rfl).trans (up_k hU6 (by exact Nat.ne_of_beq_eq_false rfl) p 3)))
              have e165 : U162 470 p 0 = T 470 p 0 := (up_k hU162 (by exact Nat.ne_of_beq_eq_false rfl) p 0).trans ((up_k hU119 (by exact Nat.ne_of_beq_eq_false rfl) p 0).trans ((fU115 470 p 0 rfl).trans (up_k hU6 (by exact Nat.ne_of_beq_eq_false rfl) p 0)))
              have e166 : U162 470 p 1 = T 470 p 1 := (up_k hU162 (by exact Nat.ne_of_beq_eq_false rfl) p 1).trans ((up_k hU119 (by exact Nat.ne_of_beq_eq_false rfl) p 1).trans ((fU115 470 p 1 rfl).trans (up_k hU6 (by exact Nat.ne_of_beq_eq_false rfl) p 1)))
              have g167 : U162 470 p 0 = T 470 p 0 := (up_k hU162 (by exact Nat.ne_of_beq_eq_false rfl) p 0).trans ((up_k hU119 (by exact Nat.ne_of_beq_eq_false rfl) p 0).trans ((fU115 470 p 0 rfl).trans (up_k hU6 (by exact Nat.ne_of_beq_eq_false rfl) p 0)))
              have g168 : U162 470 p 1 = T 470 p 1 := (up_k hU162 (by exact Nat.ne_of_beq_eq_false rfl) p 1).trans ((up_k hU119 (by exact Nat.ne_of_beq_eq_false rfl) p 1).trans ((fU115 470 p 1 rfl).trans (up_k hU6 (by exact Nat.ne_of_beq_eq_false rfl) p 1)))
              have e169 : U162 103 p 3 = T 103 p 3 := (up_j hU162 (by decide) 103 p).trans ((up_k hU119 (by exact Nat.ne_of_beq_eq_false rfl) p 3).trans ((fU115 103 p 3 rfl).trans (up_k hU6 (by exact Nat.ne_of_beq_eq_false rfl) p 3)))
              have rU6 : rs9_ U6 p = u2_ (rs9_ T p) 466 s (wr_ ((T 466 p s) + 1)) := rs_u hU6 rfl
              have rU115 : rs9_ U115 p = fy2_ (u2_ (rs9_ T p) 466 s (wr_ ((T 466 p s) + 1))) 466 2 0 := by rw [qU115e, rU6]
              have rU119 : rs9_ U119 p = u2_ (fy2_ (u2_ (rs9_ T p) 466 s (wr_ ((T 466 p s) + 1))) 466 2 0) 467 s (wr_ ((T 467 p s) + 1)) := by rw [rs_u hU119 rfl, rU115]
              have rU162 : rs9_ U162 p = u2_ (u2_ (fy2_ (u2_ (rs9_ T p) 466 s (wr_ ((T 466 p s) + 1))) 466 2 0) 467 s (wr_ ((T 467 p s) + 1))) 103 5 (1 - (T 103 p 5)) := by rw [rs_u hU162 rfl, rU119]
              exact ⟨rfl, fr_u (fr_u (fr_t (fr_u (fr_0 _ _) hU6 rfl) (fr_s fU115 rfl)) hU119 rfl) hU162 rfl, oi_u (oi_u (oi_t (oi_u (oi_r) hU6) qU115o) hU119) hU162, by exact fun _ => by omega, Eq.trans rU162 (pt9__8 (r := ru) (a := (rs9_ T p)) (k := k) (s := s) (show ¬ (k = 6) by omega) (show ¬ (T 467 p 0 = ru 11 ∧ T 467 p 1 = ru 11) by omega) (show 4 ≤ wr_ (T 466 p s + 1) ∧ 2 ≤ wr_ (wr_ (T 466 p s + 1) - T 466 p (1 - s)) by omega) (show ¬ ((ru 11 ≤ wr_ (T 467 p s + 1) ∧ 2 ≤ wr_ (wr_ (T 467 p s + 1) - T 467 p (1 - s))) ∨ ru 11 < wr_ (T 467 p s + 1)) by omega)).symm⟩
            · refine hK 126 _ [vI 0, vR 467 p] U119 ?_
              refine j_callS (y := yJ7_fill_53178) (Yc := zJ7_fill_53178) (rest := []) [vR 467 p, vI 0] (ct_J7_fill_467_e (T := U119) (by omega)) cl_X3_62 (qd_c (by decide +kernel)) (nn_ _) rfl (rf_of rfl) (Nat.le_of_ble_eq_true rfl) (Nat.le_of_ble_eq_true rfl) (Nat.le_of_ble_eq_true rfl) rfl ?_
              rintro U170 _ ⟨rfl, fU170, qU170o, qU170, qU170e⟩
              show J_ zX3_playTennis T (po_X3_playTennis_e T p ru k s) 0 0 129 _ [] U170
              refine j_blx (F := fX3) tb_X3 (nn_ _) bk_X3_playTennis_e_129 bs_X3_playTennis_e_129 hz (fun K hK => ?_)
              refine ix_i (by omega) ?_
              intro b171 b171b
              have e172 : U170 468 p s = T 468 p s := (fU170 468 p s rfl).trans ((up_k hU119 (by exact Nat.ne_of_beq_eq_false rfl) p s).trans ((fU115 468 p s rfl).trans (up_k hU6 (by exact Nat.ne_of_beq_eq_false rfl) p s)))
              rw [e172] at b171 b171b ⊢
              intro w173 w173b
              refine iy_i (by omega) (by omega) ?_
              refine x_nm (fun U174 hU174 => ?_)
              have e175 := up_f hU174
              refine ix_i (by omega) ?_
              intro b176 b176b
              have e177 : U174 468 p s = wr_ ((T 468 p s) + 1) := up_f hU174
              rw [e177] at b176 b176b ⊢
              refine And.intro (fun c178 => ?_) (fun c178 => ?_)
              · refine hK 155 _ [] U174 ?_
                refine j_blx (F := fX3) tb_X3 (nn_ _) bk_X3_playTennis_e_155 bs_X3_playTennis_e_155 hz (fun K hK => ?_)
                intro b179 b179b
                have e180 : U174 103 p 4 = T 103 p 4 := (up_k hU174 (by exact Nat.ne_of_beq_eq_false rfl) p 4).trans ((fU170 103 p 4 rfl).trans ((up_k hU119 (by exact Nat.ne_of_beq_eq_false rfl) p 4).trans ((fU115 103 p 4 rfl).trans (up_k hU6 (by exact Nat.ne_of_beq_eq_false rfl) p 4))))
                rw [e180] at b179 b179b ⊢
                intro w181 w181b
                refine bd_i (by omega) ?_
                refine x_nm (fun U182 hU182 => ?_)
                have e183 := up_f hU182
                intro b184 b184b
                have e185 : U182 103 p 5 = T 103 p 5 := (up_j hU182 (by decide) 103 p).trans ((up_k hU174 (by exact Nat.ne_of_beq_eq_false rfl) p 5).trans ((fU170 103 p 5 rfl).trans ((up_k hU119 (by exact Nat.ne_of_beq_eq_false rfl) p 5).trans ((fU115 103 p 5 rfl).trans (up_k hU6 (by exact Nat.ne_of_beq_eq_false rfl) p 5)))))
                rw [e185] at b184 b184b ⊢
                refine rg_i (by omega) ?_
                refine bd_i (by omega) ?_
                refine x_nm (fun U186 hU186 => ?_)
                have e187 := up_f hU186
                refine (show po_X3_playTennis_e T p ru k s U186 (none) from ?_)
                have e188 : U186 103 p 3 = T 103 p 3 := (up_j hU186 (by decide) 103 p).trans ((up_j hU182 (by decide) 103 p).trans ((up_k hU174 (by exact Nat.ne_of_beq_eq_false rfl) p 3).trans ((fU170 103 p 3 rfl).trans ((up_k hU119 (by exact Nat.ne_of_beq_eq_false rfl) p 3).trans ((fU115 103 p 3 rfl).trans (up_k hU6 (by exact Nat.ne_of_beq_eq_false rfl) p 3))))))
                have e189 : U186 470 p 0 = T 470 p 0 := (up_k hU186 (by exact Nat.ne_of_beq_eq_false rfl) p 0).trans ((up_k hU182 (by exact Nat.ne_of_beq_eq_false rfl) p 0).trans ((up_k hU174 (by exact Nat.ne_of_beq_eq_false rfl) p 0).trans ((fU170 470 p 0 rfl).trans ((up_k hU119 (by exact Nat.ne_of_beq_eq_false rfl) p 0).trans ((fU115 470 p 0 rfl).trans (up_k hU6 (by exact Nat.ne_of_beq_eq_false rfl) p 0))))))
                have e190 : U186 470 p 1 = T 470 p 1 := (up_k hU186 (by exact Nat.ne_of_beq_eq_false rfl) p 1).trans ((up_k hU182 (by exact Nat.ne_of_beq_eq_false rfl) p 1).trans ((up_k hU174 (by exact Nat.ne_of_beq_eq_false rfl) p 1).trans ((fU170 470 p 1 rfl).trans ((up_k hU119 (by exact Nat.ne_of_beq_eq_false rfl) p 1).trans ((fU115 470 p 1 rfl).trans (up_k hU6 (by exact Nat.ne_of_beq_eq_false rfl) p 1))))))
                have g191 : U186 470 p 0 = T 470 p 0 := (up_k hU186 (by exact Nat.ne_of_beq_eq_false rfl) p 0).trans ((up_k hU182 (by exact Nat.ne_of_beq_eq_false rfl) p 0).trans ((up_k hU174 (by exact Nat.ne_of_beq_eq_false rfl) p 0).trans ((fU170 470 p 0 rfl).trans ((up_k hU119 (by exact Nat.ne_of_beq_eq_false rfl) p 0).trans ((fU115 470 p 0 rfl).trans (up_k hU6 (by exact Nat.ne_of_beq_eq_false rfl) p 0))))))
                have g192 : U186 470 p 1 = T 470 p 1 := (up_k hU186 (by exact Nat.ne_of_beq_eq_false rfl) p 1).trans ((up_k hU182 (by exact Nat.ne_of_beq_eq_false rfl) p 1).trans ((up_k hU174 (by exact Nat.ne_of_beq_eq_false rfl) p 1).trans ((fU170 470 p 1 rfl).trans ((up_k hU119 (by exact Nat.ne_of_beq_eq_false rfl) p 1).trans ((fU115 470 p 1 rfl).trans (up_k hU6 (by exact Nat.ne_of_beq_eq_false rfl) p 1))))))
                have e193 : U186 103 p 3 = T 103 p 3 := (up_j hU186 (by decide) 103 p).trans ((up_j hU182 (by decide) 103 p).trans ((up_k hU174 (by exact Nat.ne_of_beq_eq_false rfl) p 3).trans ((fU170 103 p 3 rfl).trans ((up_k hU119 (by exact Nat.ne_of_beq_eq_false rfl) p 3).trans ((fU115 103 p 3 rfl).trans (up_k hU6 (by exact Nat.ne_of_beq_eq_false rfl) p 3))))))
                have rU6 : rs9_ U6 p = u2_ (rs9_ T p) 466 s (wr_ ((T 466 p s) + 1)) := rs_u hU6 rfl
                have rU115 : rs9_ U115 p = fy2_ (u2_ (rs9_ T p) 466 s (wr_ ((T 466 p s) + 1))) 466 2 0 := by rw [qU115e, rU6]
                have rU119 : rs9_ U119 p = u2_ (fy2_ (u2_ (rs9_ T p) 466 s (wr_ ((T 466 p s) + 1))) 466 2 0) 467 s (wr_ ((T 467 p s) + 1)) := by rw [rs_u hU119 rfl, rU115]
                have rU170 : rs9_ U170 p = fy2_ (u2_ (fy2_ (u2_ (rs9_ T p) 466 s (wr_ ((T 466 p s) + 1))) 466 2 0) 467 s (wr_ ((T 467 p s) + 1))) 467 2 0 := by rw [qU170e, rU119]
                have rU174 : rs9_ U174 p = u2_ (fy2_ (u2_ (fy2_ (u2_ (rs9_ T p) 466 s (wr_ ((T 466 p s) + 1))) 466 2 0) 467 s (wr_ ((T 467 p s) + 1))) 467 2 0) 468 s (wr_ ((T 468 p s) + 1)) := by rw [rs_u hU174 rfl, rU170]
                have rU182 : rs9_ U182 p = u2_ (u2_ (fy2_ (u2_ (fy2_ (u2_ (rs9_ T p) 466 s (wr_ ((T 466 p s) + 1))) 466 2 0) 467 s (wr_ ((T 467 p s) + 1))) 467 2 0) 468 s (wr_ ((T 468 p s) + 1))) 103 4 (wr_ ((T 103 p 4) + 1)) := by rw [rs_u hU182 rfl, rU174]
                have rU186 : rs9_ U186 p = u2_ (u2_ (u2_ (fy2_ (u2_ (fy2_ (u2_ (rs9_ T p) 466 s (wr_ ((T 466 p s) + 1))) 466 2 0) 467 s (wr_ ((T 467 p s) + 1))) 467 2 0) 468 s (wr_ ((T 468 p s) + 1))) 103 4 (wr_ ((T 103 p 4) + 1))) 103 5 (1 - (T 103 p 5)) := by rw [rs_u hU186 rfl, rU182]
                exact ⟨rfl, fr_u (fr_u (fr_u (fr_t (fr_u (fr_t (fr_u (fr_0 _ _) hU6 rfl) (fr_s fU115 rfl)) hU119 rfl) (fr_s fU170 rfl)) hU174 rfl) hU182 rfl) hU186 rfl, oi_u (oi_u (oi_u (oi_t (oi_u (oi_t (oi_u (oi_r) hU6) qU115o) hU119) qU170o) hU174) hU182) hU186, by exact fun _ => by omega, Eq.trans rU186 (pt9__7 (r := ru) (a := (rs9_ T p)) (k := k) (s := s) (show ¬ (k = 6) by omega) (show ¬ (T 467 p 0 = ru 11 ∧ T 467 p 1 = ru 11) by omega) (show 4 ≤ wr_ (T 466 p s + 1) ∧ 2 ≤ wr_ (wr_ (T 466 p s + 1) - T 466 p (1 - s)) by omega) (show (ru 11 ≤ wr_ (T 467 p s + 1) ∧ 2 ≤ wr_ (wr_ (T 467 p s + 1) - T 467 p (1 - s))) ∨ ru 11 < wr_ (T 467 p s + 1) by omega) (show ¬ (wr_ (T 468 p s + 1) = 2) by omega)).symm⟩
              · refine bd_i (by omega) ?_
                refine x_nm (fun U194 hU194 => ?_)
                have e195 := up_f hU194
                refine (show po_X3_playTennis_e T p ru k s U194 (none) from ?_)
                have e196 : U194 103 p 3 = 1 := up_f hU194
                have e197 : U194 470 p 0 = T 470 p 0 := (up_k hU194 (by exact Nat.ne_of_beq_eq_false rfl) p 0).trans ((up_k hU174 (by exact Nat.ne_of_beq_eq_false rfl) p 0).trans ((fU170 470 p 0 rfl).trans ((up_k hU119 (by exact Nat.ne_of_beq_eq_false rfl) p 0).trans ((fU115 470 p 0 rfl).trans (up_k hU6 (by exact Nat.ne_of_beq_eq_false rfl) p 0)))))
                have e198 : U194 470 p 1 = T 470 p 1 := (up_k hU194 (by exact Nat.ne_of_beq_eq_false rfl) p 1).trans ((up_k hU174 (by exact Nat.ne_of_beq_eq_false rfl) p 1).trans ((fU170 470 p 1 rfl).trans ((up_k hU119 (by exact Nat.ne_of_beq_eq_false rfl) p 1).trans ((fU115 470 p 1 rfl).trans (up_k hU6 (by exact Nat.ne_of_beq_eq_false rfl) p 1)))))
                have g199 : U194 470 p 0 = T 470 p 0 := (up_k hU194 (by exact Nat.ne_of_beq_eq_false rfl) p 0).trans ((up_k hU174 (by exact Nat.ne_of_beq_eq_false rfl) p 0).trans ((fU170 470 p 0 rfl).trans ((up_k hU119 (by exact Nat.ne_of_beq_eq_false rfl) p 0).trans ((fU115 470 p 0 rfl).trans (up_k hU6 (by exact Nat.ne_of_beq_eq_false rfl) p 0)))))
                have g200 : U194 470 p 1 = T 470 p 1 := (up_k hU194 (by exact Nat.ne_of_beq_eq_false rfl) p 1).trans ((up_k hU174 (by exact Nat.ne_of_beq_eq_false rfl) p 1).trans ((fU170 470 p 1 rfl).trans ((up_k hU119 (by exact Nat.ne_of_beq_eq_false rfl) p 1).trans ((fU115 470 p 1 rfl).trans (up_k hU6 (by exact Nat.ne_of_beq_eq_false rfl) p 1)))))
                have e201 : U194 103 p 3 = 1 := up_f hU194
                have rU6 : rs9_ U6 p = u2_ (rs9_ T p) 466 s (wr_ ((T 466 p s) + 1)) := rs_u hU6 rfl
                have rU115 : rs9_ U115 p = fy2_ (u2_ (rs9_ T p) 466 s (wr_ ((T 466 p s) + 1))) 466 2 0 := by rw [qU115e, rU6]
                have rU119 : rs9_ U119 p = u2_ (fy2_ (u2_ (rs9_ T p) 466 s (wr_ ((T 466 p s) + 1))) 466 2 0) 467 s (wr_ ((T 467 p s) + 1)) := by rw [rs_u hU119 rfl, rU115]
                have rU170 : rs9_ U170 p = fy2_ (u2_ (fy2_ (u2_ (rs9_ T p) 466 s (wr_ ((T 466 p s) + 1))) 466 2 0) 467 s (wr_ ((T 467 p s) + 1))) 467 2 0 := by rw [qU170e, rU119]
                have rU174 : rs9_ U174 p = u2_ (fy2_ (u2_ (fy2_ (u2_ (rs9_ T p) 466 s (wr_ ((T 466 p s) + 1))) 466 2 0) 467 s (wr_ ((T 467 p s) + 1))) 467 2 0) 468 s (wr_ ((T 468 p s) + 1)) := by rw [rs_u hU174 rfl, rU170]
                have rU194 : rs9_ U194 p = u2_ (u2_ (fy2_ (u2_ (fy2_ (u2_ (rs9_ T p) 466 s (wr_ ((T 466 p s) + 1))) 466 2 0) 467 s (wr_ ((T 467 p s) + 1))) 467 2 0) 468 s (wr_ ((T 468 p s) + 1))) 103 3 1 := by rw [rs_u hU194 rfl, rU174]
                exact ⟨rfl, fr_u (fr_u (fr_t (fr_u (fr_t (fr_u (fr_0 _ _) hU6 rfl) (fr_s fU115 rfl)) hU119 rfl) (fr_s fU170 rfl)) hU174 rfl) hU194 rfl, oi_u (oi_u (oi_t (oi_u (oi_t (oi_u (oi_r) hU6) qU115o) hU119) qU170o) hU174) hU194, by exact fun _ => by omega, Eq.trans rU194 (pt9__6 (r := ru) (a := (rs9_ T p)) (k := k) (s := s) (show ¬ (k = 6) by omega) (show ¬ (T 467 p 0 = ru 11 ∧ T 467 p 1 = ru 11) by omega) (show 4 ≤ wr_ (T 466 p s + 1) ∧ 2 ≤ wr_ (wr_ (T 466 p s + 1) - T 466 p (1 - s)) by omega) (show (ru 11 ≤ wr_ (T 467 p s + 1) ∧ 2 ≤ wr_ (wr_ (T 467 p s + 1) - T 467 p (1 - s))) ∨ ru 11 < wr_ (T 467 p s + 1) by omega) (show wr_ (T 468 p s + 1) = 2 by omega)).symm⟩
        · replace hx113 := hx113.resolve_left (fun z => absurd (c114.symm.trans z.1) (by decide))
          clear c114
          refine (show po_X3_playTennis_e T p ru k s U6 (none) from ?_)
          have e202 : U6 103 p 3 = T 103 p 3 := up_k hU6 (by exact Nat.ne_of_beq_eq_false rfl) p 3
          have e203 : U6 470 p 0 = T 470 p 0 := up_k hU6 (by exact Nat.ne_of_beq_eq_false rfl) p 0
          have e204 : U6 470 p 1 = T 470 p 1 := up_k hU6 (by exact Nat.ne_of_beq_eq_false rfl) p 1
          have g205 : U6 470 p 0 = T 470 p 0 := up_k hU6 (by exact Nat.ne_of_beq_eq_false rfl) p 0
          have g206 : U6 470 p 1 = T 470 p 1 := up_k hU6 (by exact Nat.ne_of_beq_eq_false rfl) p 1
          have e207 : U6 103 p 3 = T 103 p 3 := up_k hU6 (by exact Nat.ne_of_beq_eq_false rfl) p 3
          have rU6 : rs9_ U6 p = u2_ (rs9_ T p) 466 s (wr_ ((T 466 p s) + 1)) := rs_u hU6 rfl
          exact ⟨rfl, fr_u (fr_0 _ _) hU6 rfl, oi_u (oi_r) hU6, by exact fun _ => by omega, Eq.trans rU6 (pt9__9 (r := ru) (a := (rs9_ T p)) (k := k) (s := s) (show ¬ (k = 6) by omega) (show ¬ (T 467 p 0 = ru 11 ∧ T 467 p 1 = ru 11) by omega) (show ¬ (4 ≤ wr_ (T 466 p s + 1) ∧ 2 ≤ wr_ (wr_ (T 466 p s + 1) - T 466 p (1 - s))) by omega)).symm⟩
      · refine hK 65 [some (vR 103 p), some (vI k), some (vI s), some (vI (T 401 (T 103 p 0) 11)), none] [vI 7] U6 ?_
        refine j_blx (F := fX3) tb_X3 (nn_ _) bk_X3_playTennis_e_65 bs_X3_playTennis_e_65 hz (fun K hK => ?_)
        refine hK 74 [some (vR 103 p), some (vI k), some (vI s), some (vI (T 401 (T 103 p 0) 11)), some (vI 7)] [vI 7, vI s, vR 466 p] U6 ?_
        have e208 : U6 466 p s = wr_ ((T 466 p s) + 1) := up_f hU6
        have e209 : U6 466 p (1 - s) = T 466 p (1 - s) := up_g hU6 (by omega)
        refine j_callS (y := yX3_isWon) (Yc := zX3_isWon) (rest := []) [vR 466 p, vI s, vI 7] (ct_X3_isWon_466_e (T := U6) (by omega)) cl_X3_125 (qd_c (by decide +kernel)) (nn_ _) rfl (rf_of rfl) (Nat.le_of_ble_eq_true rfl) (Nat.le_of_ble_eq_true rfl) (Nat.le_of_ble_eq_true rfl) rfl ?_
        rintro _ _ ⟨rfl, x210, rfl, hx210⟩
        rw [e208, e209] at hx210
        show J_ zX3_playTennis T (po_X3_playTennis_e T p ru k s) 0 0 77 _ [vI x210] U6
        refine j_blx (F := fX3) tb_X3 (nn_ _) bk_X3_playTennis_e_77 bs_X3_playTennis_e_77 hz (fun K hK => ?_)
        refine And.intro (fun c211 => ?_) (fun c211 => ?_)
        · replace hx210 := hx210.resolve_right (fun z => c211 z.1)
          clear c211
          refine hK 81 _ [] U6 ?_
          refine j_blx (F := fX3) tb_X3 (nn_ _) bk_X3_playTennis_e_81 bs_X3_playTennis_e_81 hz (fun K hK => ?_)
          refine hK 86 _ [vI 0, vR 466 p] U6 ?_
          refine j_callS (y := yJ7_fill_53178) (Yc := zJ7_fill_53178) (rest := []) [vR 466 p, vI 0] (ct_J7_fill_466_e (T := U6) (by omega)) cl_X3_62 (qd_c (by decide +kernel)) (nn_ _) rfl (rf_of rfl) (Nat.le_of_ble_eq_true rfl) (Nat.le_of_ble_eq_true rfl) (Nat.le_of_ble_eq_true rfl) rfl ?_
          rintro U212 _ ⟨rfl, fU212, qU212o, qU212, qU212e⟩
          show J_ zX3_playTennis T (po_X3_playTennis_e T p ru k s) 0 0 89 _ [] U212
          refine j_blx (F := fX3) tb_X3 (nn_ _) bk_X3_playTennis_e_89 bs_X3_playTennis_e_89 hz (fun K hK => ?_)
          refine ix_i (by omega) ?_
          intro b213 b213b
          have e214 : U212 467 p s = T 467 p s := (fU212 467 p s rfl).trans (up_k hU6 (by exact Nat.ne_of_beq_eq_false rfl) p s)
          rw [e214] at b213 b213b ⊢
          intro w215 w215b
          refine iy_i (by omega) (by omega) ?_
          refine x_nm (fun U216 hU216 => ?_)
          have e217 := up_f hU216
          refine hK 105 _ [vI (T 401 (T 103 p 0) 11), vI s, vR 467 p] U216 ?_
          have e218 : U216 467 p s = wr_ ((T 467 p s) + 1) := up_f hU216
          have e219 : U216 467 p (1 - s) = T 467 p (1 - s) := (up_g hU216 (by omega)).trans ((fU212 467 p (1 - s) rfl).trans (up_k hU6 (by exact Nat.ne_of_beq_eq_false rfl) p (1 - s)))
          refine j_callS (y := yX3_isWon) (Yc := zX3_isWon) (rest := []) [vR 467 p, vI s, vI (T 401 (T 103 p 0) 11)] (ct_X3_isWon_467_e (T := U216) (by omega)) cl_X3_125 (qd_c (by decide +kernel)) (nn_ _) rfl (rf_of rfl) (Nat.le_of_ble_eq_true rfl) (Nat.le_of_ble_eq_true rfl) (Nat.le_of_ble_eq_true rfl) rfl ?_
          rintro _ _ ⟨rfl, x220, rfl, hx220⟩
          rw [e218, e219] at hx220
          show J_ zX3_playTennis T (po_X3_playTennis_e T p ru k s) 0 0 108 _ [vI x220] U216
          refine j_blx (F := fX3) tb_X3 (nn_ _) bk_X3_playTennis_e_108 bs_X3_playTennis_e_108 hz (fun K hK => ?_)
          refine And.intro (fun c221 => ?_) (fun c221 => ?_)
          · replace hx220 := hx220.resolve_right (fun z => c221 z.1)
            clear c221
            refine hK 121 _ [] U216 ?_
            refine j_blx (F := fX3) tb_X3 (nn_ _) bk_X3_playTennis_e_121 bs_X3_playTennis_e_121 hz (fun K hK => ?_)
            refine hK 126 _ [vI 0, vR 467 p] U216 ?_
            refine j_callS (y := yJ7_fill_53178) (Yc := zJ7_fill_53178) (rest := []) [vR 467 p, vI 0] (ct_J7_fill_467_e (T := U216) (by omega)) cl_X3_62 (qd_c (by decide +kernel)) (nn_ _) rfl (rf_of rfl) (Nat.le_of_ble_eq_true rfl) (Nat.le_of_ble_eq_true rfl) (Nat.le_of_ble_eq_true rfl) rfl ?_
            rintro U222 _ ⟨rfl, fU222, qU222o, qU222, qU222e⟩
            show J_ zX3_playTennis T (po_X3_playTennis_e T p ru k s) 0 0 129 _ [] U222
            refine j_blx (F := fX3) tb_X3 (nn_ _) bk_X3_playTennis_e_129 bs_X3_playTennis_e_129 hz (fun K hK => ?_)
            refine ix_i (by omega) ?_
            intro b223 b223b
            have e224 : U222 468 p s = T 468 p s := (fU222 468 p s rfl).trans ((up_k hU216 (by exact Nat.ne_of_beq_eq_false rfl) p s).trans ((fU212 468 p s rfl).trans (up_k hU6 (by exact Nat.ne_of_beq_eq_false rfl) p s)))
            rw [e224] at b223 b223b ⊢
            intro w225 w225b
            refine iy_i (by omega) (by omega) ?_
            refine x_nm (fun U226 hU226 => ?_)
            have e227 := up_f hU226
            refine ix_i (by omega) ?_
            intro b228 b228b
            have e229 : U226 468 p s = wr_ ((T 468 p s) + 1) := up_f hU226
            rw [e229] at b228 b228b ⊢
            refine And.intro (fun c230 => ?_) (fun c230 => ?_)
            · refine hK 155 _ [] U226 ?_
              refine j_blx (F := fX3) tb_X3 (nn_ _) bk_X3_playTennis_e_155 bs_X3_playTennis_e_155 hz (fun K hK => ?_)
              intro b231 b231b
              have e232 : U226 103 p 4 = T 103 p 4 := (up_k hU226 (by exact Nat.ne_of_beq_eq_false rfl) p 4).trans ((fU222 103 p 4 rfl).trans ((up_k hU216 (by exact Nat.ne_of_beq_eq_false rfl) p 4).trans ((fU212 103 p 4 rfl).trans (up_k hU6 (by exact Nat.ne_of_beq_eq_false rfl) p 4))))
              rw [e232] at b231 b231b ⊢
              intro w233 w233b
              refine bd_i (by omega) ?_
              refine x_nm (fun U234 hU234 => ?_)
              have e235 := up_f hU234
              intro b236 b236b
              have e237 : U234 103 p 5 = T 103 p 5 := (up_j hU234 (by decide) 103 p).trans ((up_k hU226 (by exact Nat.ne_of_beq_eq_false rfl) p 5).trans ((fU222 103 p 5 rfl).trans ((up_k hU216 (by exact Nat.ne_of_beq_eq_false rfl) p 5).trans ((fU212 103 p 5 rfl).trans (up_k hU6 (by exact Nat.ne_of_beq_eq_false rfl) p 5)))))
              rw [e237] at b236 b236b ⊢
              refine rg_i (by omega) ?_
              refine bd_i (by omega) ?_
              refine x_nm (fun U238 hU238 => ?_)
              have e239 := up_f hU238
              refine (show po_X3_playTennis_e T p ru k s U238 (none) from ?_)
              have e240 : U238 103 p 3 = T 103 p 3 := (up_j hU238 (by decide) 103 p).trans ((up_j hU234 (by decide) 103 p).trans ((up_k hU226 (by exact Nat.ne_of_beq_eq_false rfl) p 3).trans ((fU222 103 p 3 rfl).trans ((up_k hU216 (by exact Nat.ne_of_beq_eq_false rfl) p 3).trans ((fU212 103 p 3 rfl).trans (up_k hU6 (by exact Nat.ne_of_beq_eq_false rfl) p 3))))))
              have e241 : U238 470 p 0 = T 470 p 0 := (up_k hU238 (by exact Nat.ne_of_beq_eq_false rfl) p 0).trans ((up_k hU234 (by exact Nat.ne_of_beq_eq_false rfl) p 0).trans ((up_k hU226 (by exact Nat.ne_of_beq_eq_false rfl) p 0).trans ((fU222 470 p 0 rfl).trans ((up_k hU216 (by exact Nat.ne_of_beq_eq_false rfl) p 0).trans ((fU212 470 p 0 rfl).trans (up_k hU6 (by exact Nat.ne_of_beq_eq_false rfl) p 0))))))
              have e242 : U238 470 p 1 = T 470 p 1 := (up_k hU238 (by exact Nat.ne_of_beq_eq_false rfl) p 1).trans ((up_k hU234 (by exact Nat.ne_of_beq_eq_false rfl) p 1).trans ((up_k hU226 (by exact Nat.ne_of_beq_eq_false rfl) p 1).trans ((fU222 470 p 1 rfl).trans ((up_k hU216 (by exact Nat.ne_of_beq_eq_false rfl) p 1).trans ((fU212 470 p 1 rfl).trans (up_k hU6 (by exact Nat.ne_of_beq_eq_false rfl) p 1))))))
              have g243 : U238 470 p 0 = T 470 p 0 := (up_k hU238 (by exact Nat.ne_of_beq_eq_false rfl) p 0).trans ((up_k hU234 (by exact Nat.ne_of_beq_eq_false rfl) p 0).trans ((up_k hU226 (by exact Nat.ne_of_beq_eq_false rfl) p 0).trans ((fU222 470 p 0 rfl).trans ((up_k hU216 (by exact Nat.ne_of_beq_eq_false rfl) p 0).trans ((fU212 470 p 0 rfl).trans (up_k hU6 (by exact Nat.ne_of_beq_eq_false rfl) p 0))))))
              have g244 : U238 470 p 1 = T 470 p 1 := (up_k hU238 (by exact Nat.ne_of_beq_eq_false rfl) p 1).trans ((up_k hU234 (by exact Nat.ne_of_beq_eq_false rfl) p 1).trans ((up_k hU226 (by exact Nat.ne_of_beq_eq_false rfl) p 1).trans ((fU222 470 p 1 rfl).trans ((up_k hU216 (by exact Nat.ne_of_beq_eq_false rfl) p 1).trans ((fU212 470 p 1 rfl).trans (up_k hU6 (by exact Nat.ne_of_beq_eq_false rfl) p 1))))))
              have e245 : U238 103 p 3 = T 103 p 3 := (up_j hU238 (by decide) 103 p).trans ((up_j hU234 (by decide) 103 p).trans ((up_k hU226 (by exact Nat.ne_of_beq_eq_false rfl) p 3).trans ((fU222 103 p 3 rfl).trans ((up_k hU216 (by exact Nat.ne_of_beq_eq_false rfl) p 3).trans ((fU212 103 p 3 rfl).trans (up_k hU6 (by exact Nat.ne_of_beq_eq_false rfl) p 3))))))
              have rU6 : rs9_ U6 p = u2_ (rs9_ T p) 466 s (wr_ ((T 466 p s) + 1)) := rs_u hU6 rfl
              have rU212 : rs9_ U212 p = fy2_ (u2_ (rs9_ T p) 466 s (wr_ ((T 466 p s) + 1))) 466 2 0 := by rw [qU212e, rU6]
              have rU216 : rs9_ U216 p = u2_ (fy2_ (u2_ (rs9_ T p) 466 s (wr_ ((T 466 p s) + 1))) 466 2 0) 467 s (wr_ ((T 467 p s) + 1)) := by rw [rs_u hU216 rfl, rU212]
              have rU222 : rs9_ U222 p = fy2_ (u2_ (fy2_ (u2_ (rs9_ T p) 466 s (wr_ ((T 466 p s) + 1))) 466 2 0) 467 s (wr_ ((T 467 p s) + 1))) 467 2 0 := by rw [qU222e, rU216]
              have rU226 : rs9_ U226 p = u2_ (fy2_ (u2_ (fy2_ (u2_ (rs9_ T p) 466 s (wr_ ((T 466 p s) + 1))) 466 2 0) 467 s (wr_ ((T 467 p s) + 1))) 467 2 0) 468 s (wr_ ((T 468 p s) + 1)) := by rw [rs_u hU226 rfl, rU222]
              have rU234 : rs9_ U234 p = u2_ (u2_ (fy2_ (u2_ (fy2_ (u2_ (rs9_ T p) 466 s (wr_ ((T 466 p s) + 1))) 466 2 0) 467 s (wr_ ((T 467 p s) + 1))) 467 2 0) 468 s (wr_ ((T 468 p s) + 1))) 103 4 (wr_ ((T 103 p 4) + 1)) := by rw [rs_u hU234 rfl, rU226]
              have rU238 : rs9_ U238 p = u2_ (u2_ (u2_ (fy2_ (u2_ (fy2_ (u2_ (rs9_ T p) 466 s (wr_ ((T 466 p s) + 1))) 466 2 0) 467 s (wr_ ((T 467 p s) + 1))) 467 2 0) 468 s (wr_ ((T 468 p s) + 1))) 103 4 (wr_ ((T 103 p 4) + 1))) 103 5 (1 - (T 103 p 5)) := by rw [rs_u hU238 rfl, rU234]
              exact ⟨rfl, fr_u (fr_u (fr_u (fr_t (fr_u (fr_t (fr_u (fr_0 _ _) hU6 rfl) (fr_s fU212 rfl)) hU216 rfl) (fr_s fU222 rfl)) hU226 rfl) hU234 rfl) hU238 rfl, oi_u (oi_u (oi_u (oi_t (oi_u (oi_t (oi_u (oi_r) hU6) qU212o) hU216) qU222o) hU226) hU234) hU238, by exact fun _ => by omega, Eq.trans rU238 (pt9__3 (r := ru) (a := (rs9_ T p)) (k := k) (s := s) (show ¬ (k = 6) by omega) (show T 467 p 0 = ru 11 ∧ T 467 p 1 = ru 11 by omega) (show 7 ≤ wr_ (T 466 p s + 1) ∧ 2 ≤ wr_ (wr_ (T 466 p s + 1) - T 466 p (1 - s)) by omega) (show (ru 11 ≤ wr_ (T 467 p s + 1) ∧ 2 ≤ wr_ (wr_ (T 467 p s + 1) - T 467 p (1 - s))) ∨ ru 11 < wr_ (T 467 p s + 1) by omega) (show ¬ (wr_ (T 468 p s + 1) = 2) by omega)).symm⟩
            · refine bd_i (by omega) ?_
              refine x_nm (fun U246 hU246 => ?_)
              have e247 := up_f hU246
              refine (show po_X3_playTennis_e T p ru k s U246 (none) from ?_)
              have e248 : U246 103 p 3 = 1 := up_f hU246
              have e249 : U246 470 p 0 = T 470 p 0 := (up_k hU246 (by exact Nat.ne_of_beq_eq_false rfl) p 0).trans ((up_k hU226 (by exact Nat.ne_of_beq_eq_false rfl) p 0).trans ((fU222 470 p 0 rfl).trans ((up_k hU216 (by exact Nat.ne_of_beq_eq_false rfl) p 0).trans ((fU212 470 p 0 rfl).trans (up_k hU6 (by exact Nat.ne_of_beq_eq_false rfl) p 0)))))
              have e250 : U246 470 p 1 = T 470 p 1 := (up_k hU246 (by exact Nat.ne_of_beq_eq_false rfl) p 1).trans ((up_k hU226 (by exact Nat.ne_of_beq_eq_false rfl) p 1).trans ((fU222 470 p 1 rfl).trans ((up_k hU216 (by exact Nat.ne_of_beq_eq_false rfl) p 1).trans ((fU212 470 p 1 rfl).trans (up_k hU6 (by exact Nat.ne_of_beq_eq_false rfl) p 1)))))
              have g251 : U246 470 p 0 = T 470 p 0 := (up_k hU246 (by exact Nat.ne_of_beq_eq_false rfl) p 0).trans ((up_k hU226 (by exact Nat.ne_of_beq_eq_false rfl) p 0).trans ((fU222 470 p 0 rfl).trans ((up_k hU216 (by exact Nat.ne_of_beq_eq_false rfl) p 0).trans ((fU212 470 p 0 rfl).trans (up_k hU6 (by exact Nat.ne_of_beq_eq_false rfl) p 0)))))
              have g252 : U246 470 p 1 = T 470 p 1 := (up_k hU246 (by exact Nat.ne_of_beq_eq_false rfl) p 1).trans ((up_k hU226 (by exact Nat.ne_of_beq_eq_false rfl) p 1).trans ((fU222 470 p 1 rfl).trans ((up_k hU216 (by exact Nat.ne_of_beq_eq_false rfl) p 1).trans ((fU212 470 p 1 rfl).trans (up_k hU6 (by exact Nat.ne_of_beq_eq_false rfl) p 1)))))
              have e253 : U246 103 p 3 = 1 := up_f hU246
              have rU6 : rs9_ U6 p = u2_ (rs9_ T p) 466 s (wr_ ((T 466 p s) + 1)) := rs_u hU6 rfl
              have rU212 : rs9_ U212 p = fy2_ (u2_ (rs9_ T p) 466 s (wr_ ((T 466 p s) + 1))) 466 2 0 := by rw [qU212e, rU6]
              have rU216 : rs9_ U216 p = u2_ (fy2_ (u2_ (rs9_ T p) 466 s (wr_ ((T 466 p s) + 1))) 466 2 0) 467 s (wr_ ((T 467 p s) + 1)) := by rw [rs_u hU216 rfl, rU212]
              have rU222 : rs9_ U222 p = fy2_ (u2_ (fy2_ (u2_ (rs9_ T p) 466 s (wr_ ((T 466 p s) + 1))) 466 2 0) 467 s (wr_ ((T 467 p s) + 1))) 467 2 0 := by rw [qU222e, rU216]
              have rU226 : rs9_ U226 p = u2_ (fy2_ (u2_ (fy2_ (u2_ (rs9_ T p) 466 s (wr_ ((T 466 p s) + 1))) 466 2 0) 467 s (wr_ ((T 467 p s) + 1))) 467 2 0) 468 s (wr_ ((T 468 p s) + 1)) := by rw [rs_u hU226 rfl, rU222]
              have rU246 : rs9_ U246 p = u2_ (u2_ (fy2_ (u2_ (fy2_ (u2_ (rs9_ T p) 466 s (wr_ ((T 466 p s) + 1))) 466 2 0) 467 s (wr_ ((T 467 p s) + 1))) 467 2 0) 468 s (wr_ ((T 468 p s) + 1))) 103 3 1 := by rw [rs_u hU246 rfl, rU226]
              exact ⟨rfl, fr_u (fr_u (fr_t (fr_u (fr_t (fr_u (fr_0 _ _) hU6 rfl) (fr_s fU212 rfl)) hU216 rfl) (fr_s fU222 rfl)) hU226 rfl) hU246 rfl, oi_u (oi_u (oi_t (oi_u (oi_t (oi_u (oi_r) hU6) qU212o) hU216) qU222o) hU226) hU246, by exact fun _ => by omega, Eq.trans rU246 (pt9__2 (r := ru) (a := (rs9_ T p)) (k := k) (s := s) (show ¬ (k = 6) by omega) (show T 467 p 0 = ru 11 ∧ T 467 p 1 = ru 11 by omega) (show 7 ≤ wr_ (T 466 p s + 1) ∧ 2 ≤ wr_ (wr_ (T 466 p s + 1) - T 466 p (1 - s)) by omega) (show (ru 11 ≤ wr_ (T 467 p s + 1) ∧ 2 ≤ wr_ (wr_ (T 467 p s + 1) - T 467 p (1 - s))) ∨ ru 11 < wr_ (T 467 p s + 1) by omega) (show wr_ (T 468 p s + 1) = 2 by omega)).symm⟩
          · replace hx220 := hx220.resolve_left (fun z => absurd (c221.symm.trans z.1) (by decide))
            clear c221
            refine ix_i (by omega) ?_
            intro b254 b254b
            have e255 : U216 467 p s = wr_ ((T 467 p s) + 1) := up_f hU216
            rw [e255] at b254 b254b ⊢
            refine And.intro (fun c256 => ?_) (fun c256 => ?_)
            · refine hK 165 _ [] U216 ?_
              refine j_blx (F := fX3) tb_X3 (nn_ _) bk_X3_playTennis_e_165 bs_X3_playTennis_e_165 hz (fun K hK => ?_)
              intro b257 b257b
              have e258 : U216 103 p 5 = T 103 p 5 := (up_k hU216 (by exact Nat.ne_of_beq_eq_false rfl) p 5).trans ((fU212 103 p 5 rfl).trans (up_k hU6 (by exact Nat.ne_of_beq_eq_false rfl) p 5))
              rw [e258] at b257 b257b ⊢
              refine rg_i (by omega) ?_
              refine bd_i (by omega) ?_
              refine x_nm (fun U259 hU259 => ?_)
              have e260 := up_f hU259
              refine (show po_X3_playTennis_e T p ru k s U259 (none) from ?_)
              have e261 : U259 103 p 3 = T 103 p 3 := (up_j hU259 (by decide) 103 p).trans ((up_k hU216 (by exact Nat.ne_of_beq_eq_false rfl) p 3).trans ((fU212 103 p 3 rfl).trans (up_k hU6 (by exact Nat.ne_of_beq_eq_false rfl) p 3)))
              have e262 : U259 470 p 0 = T 470 p 0 := (up_k hU259 (by exact Nat.ne_of_beq_eq_false rfl) p 0).trans ((up_k hU216 (by exact Nat.ne_of_beq_eq_false rfl) p 0).trans ((fU212 470 p 0 rfl).trans (up_k hU6 (by exact Nat.ne_of_beq_eq_false rfl) p 0)))
              have e263 : U259 470 p 1 = T 470 p 1 := (up_k hU259 (by exact Nat.ne_of_beq_eq_false rfl) p 1).trans ((up_k hU216 (by exact Nat.ne_of_beq_eq_false rfl) p 1).trans ((fU212 470 p 1 rfl).trans (up_k hU6 (by exact Nat.ne_of_beq_eq_false rfl) p 1)))
              have g264 : U259 470 p 0 = T 470 p 0 := (up_k hU259 (by exact Nat.ne_of_beq_eq_false rfl) p 0).trans ((up_k hU216 (by exact Nat.ne_of_beq_eq_false rfl) p 0).trans ((fU212 470 p 0 rfl).trans (up_k hU6 (by exact Nat.ne_of_beq_eq_false rfl) p 0)))
              have g265 : U259 470 p 1 = T 470 p 1 := (up_k hU259 (by exact Nat.ne_of_beq_eq_false rfl) p 1).trans ((up_k hU216 (by exact Nat.ne_of_beq_eq_false rfl) p 1).trans ((fU212 470 p 1 rfl).trans (up_k hU6 (by exact Nat.ne_of_beq_eq_false rfl) p 1)))
              have e266 : U259 103 p 3 = T 103 p 3 := (up_j hU259 (by decide) 103 p).trans ((up_k hU216 (by exact Nat.ne_of_beq_eq_false rfl) p 3).trans ((fU212 103 p 3 rfl).trans (up_k hU6 (by exact Nat.ne_of_beq_eq_false rfl) p 3)))
              have rU6 : rs9_ U6 p = u2_ (rs9_ T p) 466 s (wr_ ((T 466 p s) + 1)) := rs_u hU6 rfl
              have rU212 : rs9_ U212 p = fy2_ (u2_ (rs9_ T p) 466 s (wr_ ((T 466 p s) + 1))) 466 2 0 := by rw [qU212e, rU6]
              have rU216 : rs9_ U216 p = u2_ (fy2_ (u2_ (rs9_ T p) 466 s (wr_ ((T 466 p s) + 1))) 466 2 0) 467 s (wr_ ((T 467 p s) + 1)) := by rw [rs_u hU216 rfl, rU212]
              have rU259 : rs9_ U259 p = u2_ (u2_ (fy2_ (u2_ (rs9_ T p) 466 s (wr_ ((T 466 p s) + 1))) 466 2 0) 467 s (wr_ ((T 467 p s) + 1))) 103 5 (1 - (T 103 p 5)) := by rw [rs_u hU259 rfl, rU216]
              exact ⟨rfl, fr_u (fr_u (fr_t (fr_u (fr_0 _ _) hU6 rfl) (fr_s fU212 rfl)) hU216 rfl) hU259 rfl, oi_u (oi_u (oi_t (oi_u (oi_r) hU6) qU212o) hU216) hU259, by exact fun _ => by omega, Eq.trans rU259 (pt9__4 (r := ru) (a := (rs9_ T p)) (k := k) (s := s) (show ¬ (k = 6) by omega) (show T 467 p 0 = ru 11 ∧ T 467 p 1 = ru 11 by omega) (show 7 ≤ wr_ (T 466 p s + 1) ∧ 2 ≤ wr_ (wr_ (T 466 p s + 1) - T 466 p (1 - s)) by omega) (show ¬ ((ru 11 ≤ wr_ (T 467 p s + 1) ∧ 2 ≤ wr_ (wr_ (T 467 p s + 1) - T 467 p (1 - s))) ∨ ru 11 < wr_ (T 467 p s + 1)) by omega)).symm⟩
            · refine hK 126 _ [vI 0, vR 467 p] U216 ?_
              refine j_callS (y := yJ7_fill_53178) (Yc := zJ7_fill_53178) (rest := []) [vR 467 p, vI 0] (ct_J7_fill_467_e (T := U216) (by omega)) cl_X3_62 (qd_c (by decide +kernel)) (nn_ _) rfl (rf_of rfl) (Nat.le_of_ble_eq_true rfl) (Nat.le_of_ble_eq_true rfl) (Nat.le_of_ble_eq_true rfl) rfl ?_
              rintro U267 _ ⟨rfl, fU267, qU267o, qU267, qU267e⟩
              show J_ zX3_playTennis T (po_X3_playTennis_e T p ru k s) 0 0 129 _ [] U267
              refine j_blx (F := fX3) tb_X3 (nn_ _) bk_X3_playTennis_e_129 bs_X3_playTennis_e_129 hz (fun K hK => ?_)
              refine ix_i (by omega) ?_
              intro b268 b268b
              have e269 : U267 468 p s = T 468 p s := (fU267 468 p s rfl).trans ((up_k hU216 (by exact Nat.ne_of_beq_eq_false rfl) p s).trans ((fU212 468 p s rfl).trans (up_k hU6 (by exact Nat.ne_of_beq_eq_false rfl) p s)))
              rw [e269] at b268 b268b ⊢
              intro w270 w270b
              refine iy_i (by omega) (by omega) ?_
              refine x_nm (fun U271 hU271 => ?_)
              have e272 := up_f hU271
              refine ix_i (by omega) ?_
              intro b273 b273b
              have e274 : U271 468 p s = wr_ ((T 468 p s) + 1) := up_f hU271
              rw [e274] at b273 b273b ⊢
              refine And.intro (fun c275 => ?_) (fun c275 => ?_)
              · refine hK 155 _ [] U271 ?_
                refine j_blx (F := fX3) tb_X3 (nn_ _) bk_X3_playTennis_e_155 bs_X3_playTennis_e_155 hz (fun K hK => ?_)
                intro b276 b276b
                have e277 : U271 103 p 4 = T 103 p 4 := (up_k hU271 (by exact Nat.ne_of_beq_eq_false rfl) p 4).trans ((fU267 103 p 4 rfl).trans ((up_k hU216 (by exact Nat.ne_of_beq_eq_false rfl) p 4).trans ((fU212 103 p 4 rfl).trans (up_k hU6 (by exact Nat.ne_of_beq_eq_false rfl) p 4))))
                rw [e277] at b276 b276b ⊢
                intro w278 w278b
                refine bd_i (by omega) ?_
                refine x_nm (fun U279 hU279 => ?_)
                have e280 := up_f hU279
                intro b281 b281b
                have e282 : U279 103 p 5 = T 103 p 5 := (up_j hU279 (by decide) 103 p).trans ((up_k hU271 (by exact Nat.ne_of_beq_eq_false rfl) p 5).trans ((fU267 103 p 5 rfl).trans ((up_k hU216 (by exact Nat.ne_of_beq_eq_false rfl) p 5).trans ((fU212 103 p 5 rfl).trans (up_k hU6 (by exact Nat.ne_of_beq_eq_false rfl) p 5)))))
                rw [e282] at b281 b281b ⊢
                refine rg_i (by omega) ?_
                refine bd_i (by omega) ?_
                refine x_nm (fun U283 hU283 => ?_)
                have e284 := up_f hU283
                refine (show po_X3_playTennis_e T p ru k s U283 (none) from ?_)
                have e285 : U283 103 p 3 = T 103 p 3 := (up_j hU283 (by decide) 103 p).trans ((up_j hU279 (by decide) 103 p).trans ((up_k hU271 (by exact Nat.ne_of_beq_eq_false rfl) p 3).trans ((fU267 103 p 3 rfl).trans ((up_k hU216 (by exact Nat.ne_of_beq_eq_false rfl) p 3).trans ((fU212 103 p 3 rfl).trans (up_k hU6 (by exact Nat.ne_of_beq_eq_false rfl) p 3))))))
                have e286 : U283 470 p 0 = T 470 p 0 := (up_k hU283 (by exact Nat.ne_of_beq_eq_false rfl) p 0).trans ((up_k hU279 (by exact Nat.ne_of_beq_eq_false rfl) p 0).trans ((up_k hU271 (by exact Nat.ne_of_beq_eq_false rfl) p 0).trans ((fU267 470 p 0 rfl).trans ((up_k hU216 (by exact Nat.ne_of_beq_eq_false rfl) p 0).trans ((fU212 470 p 0 rfl).trans (up_k hU6 (by exact Nat.ne_of_beq_eq_false rfl) p 0))))))
                have e287 : U283 470 p 1 = T 470 p 1 := (up_k hU283 (by exact Nat.ne_of_beq_eq_false rfl) p 1).trans ((up_k hU279 (by exact Nat.ne_of_beq_eq_false rfl) p 1).trans ((up_k hU271 (by exact Nat.ne_of_beq_eq_false rfl) p 1).trans ((fU267 470 p 1 rfl).trans ((up_k hU216 (by exact Nat.ne_of_beq_eq_false rfl) p 1).trans ((fU212 470 p 1 rfl).trans (up_k hU6 (by exact Nat.ne_of_beq_eq_false rfl) p 1))))))
                have g288 : U283 470 p 0 = T 470 p 0 := (up_k hU283 (by exact Nat.ne_of_beq_eq_false rfl) p 0).trans ((up_k hU279 (by exact Nat.ne_of_beq_eq_false rfl) p 0).trans ((up_k hU271 (by exact Nat.ne_of_beq_eq_false rfl) p 0).trans ((fU267 470 p 0 rfl).trans ((up_k hU216 (by exact Nat.ne_of_beq_eq_false rfl) p 0).trans ((fU212 470 p 0 rfl).trans (up_k hU6 (by exact Nat.ne_of_beq_eq_false rfl) p 0))))))
                have g289 : U283 470 p 1 = T 470 p 1 := (up_k hU283 (by exact Nat.ne_of_beq_eq_false rfl) p 1).trans ((up_k hU279 (by exact Nat.ne_of_beq_eq_false rfl) p 1).trans ((up_k hU271 (by exact Nat.ne_of_beq_eq_false rfl) p 1).trans ((fU267 470 p 1 rfl).trans ((up_k hU216 (by exact Nat.ne_of_beq_eq_false rfl) p 1).trans ((fU212 470 p 1 rfl).trans (up_k hU6 (by exact Nat.ne_of_beq_eq_false rfl) p 1))))))
                have e290 : U283 103 p 3 = T 103 p 3 := (up_j hU283 (by decide) 103 p).trans ((up_j hU279 (by decide) 103 p).trans ((up_k hU271 (by exact Nat.ne_of_beq_eq_false rfl) p 3).trans ((fU267 103 p 3 rfl).trans ((up_k hU216 (by exact Nat.ne_of_beq_eq_false rfl) p 3).trans ((fU212 103 p 3 rfl).trans (up_k hU6 (by exact Nat.ne_of_beq_eq_false rfl) p 3))))))
                have rU6 : rs9_ U6 p = u2_ (rs9_ T p) 466 s (wr_ ((T 466 p s) + 1)) := rs_u hU6 rfl
                have rU212 : rs9_ U212 p = fy2_ (u2_ (rs9_ T p) 466 s (wr_ ((T 466 p s) + 1))) 466 2 0 := by rw [qU212e, rU6]
                have rU216 : rs9_ U216 p = u2_ (fy2_ (u2_ (rs9_ T p) 466 s (wr_ ((T 466 p s) + 1))) 466 2 0) 467 s (wr_ ((T 467 p s) + 1)) := by rw [rs_u hU216 rfl, rU212]
                have rU267 : rs9_ U267 p = fy2_ (u2_ (fy2_ (u2_ (rs9_ T p) 466 s (wr_ ((T 466 p s) + 1))) 466 2 0) 467 s (wr_ ((T 467 p s) + 1))) 467 2 0 := by rw [qU267e, rU216]
                have rU271 : rs9_ U271 p = u2_ (fy2_ (u2_ (fy2_ (u2_ (rs9_ T p) 466 s (wr_ ((T 466 p s) + 1))) 466 2 0) 467 s (wr_ ((T 467 p s) + 1))) 467 2 0) 468 s (wr_ ((T 468 p s) + 1)) := by rw [rs_u hU271 rfl, rU267]
                have rU279 : rs9_ U279 p = u2_ (u2_ (fy2_ (u2_ (fy2_ (u2_ (rs9_ T p) 466 s (wr_ ((T 466 p s) + 1))) 466 2 0) 467 s (wr_ ((T 467 p s) + 1))) 467 2 0) 468 s (wr_ ((T 468 p s) + 1))) 103 4 (wr_ ((T 103 p 4) + 1)) := by rw [rs_u hU279 rfl, rU271]
                have rU283 : rs9_ U283 p = u2_ (u2_ (u2_ (fy2_ (u2_ (fy2_ (u2_ (rs9_ T p) 466 s (wr_ ((T 466 p s) + 1))) 466 2 0) 467 s (wr_ ((T 467 p s) + 1))) 467 2 0) 468 s (wr_ ((T 468 p s) + 1))) 103 4 (wr_ ((T 103 p 4) + 1))) 103 5 (1 - (T 103 p 5)) := by rw [rs_u hU283 rfl, rU279]
                exact ⟨rfl, fr_u (fr_u (fr_u (fr_t (fr_u (fr_t (fr_u (fr_0 _ _) hU6 rfl) (fr_s fU212 rfl)) hU216 rfl) (fr_s fU267 rfl)) hU271 rfl) hU279 rfl) hU283 rfl, oi_u (oi_u (oi_u (oi_t (oi_u (oi_t (oi_u (oi_r) hU6) qU212o) hU216) qU267o) hU271) hU279) hU283, by exact fun _ => by omega, Eq.trans rU283 (pt9__3 (r := ru) (a := (rs9_ T p)) (k := k) (s := s) (show ¬ (k = 6) by omega) (show T 467 p 0 = ru 11 ∧ T 467 p 1 = ru 11 by omega) (show 7 ≤ wr_ (T 466 p s + 1) ∧ 2 ≤ wr_ (wr_ (T 466 p s + 1) - T 466 p (1 - s)) by omega) (show (ru 11 ≤ wr_ (T 467 p s + 1) ∧ 2 ≤ wr_ (wr_ (T 467 p s + 1) - T 467 p (1 - s))) ∨ ru 11 < wr_ (T 467 p s + 1) by omega) (show ¬ (wr_ (T 468 p s + 1) = 2) by omega)).symm⟩
              · refine bd_i (by omega) ?_
                refine x_nm (fun U291 hU291 => ?_)
                have e292 := up_f hU291
                refine (show po_X3_playTennis_e T p ru k s U291 (none) from ?_)
                have e293 : U291 103 p 3 = 1 := up_f hU291
                have e294 : U291 470 p 0 = T 470 p 0 := (up_k hU291 (by exact Nat.ne_of_beq_eq_false rfl) p 0).trans ((up_k hU271 (by exact Nat.ne_of_beq_eq_false rfl) p 0).trans ((fU267 470 p 0 rfl).trans ((up_k hU216 (by exact Nat.ne_of_beq_eq_false rfl) p 0).trans ((fU212 470 p 0 rfl).trans (up_k hU6 (by exact Nat.ne_of_beq_eq_false rfl) p 0)))))
                have e295 : U291 470 p 1 = T 470 p 1 := (up_k hU291 (by exact Nat.ne_of_beq_eq_false rfl) p 1).trans ((up_k hU271 (by exact Nat.ne_of_beq_eq_false rfl) p 1).trans ((fU267 470 p 1 rfl).trans ((up_k hU216 (by exact Nat.ne_of_beq_eq_false rfl) p 1).trans ((fU212 470 p 1 rfl).trans (up_k hU6 (by exact Nat.ne_of_beq_eq_false rfl) p 1)))))
                have g296 : U291 470 p 0 = T 470 p 0 := (up_k hU291 (by exact Nat.ne_of_beq_eq_false rfl) p 0).trans ((up_k hU271 (by exact Nat.ne_of_beq_eq_false rfl) p 0).trans ((fU267 470 p 0 rfl).trans ((up_k hU216 (by exact Nat.ne_of_beq_eq_false rfl) p 0).trans ((fU212 470 p 0 rfl).trans (up_k hU6 (by exact Nat.ne_of_beq_eq_false rfl) p 0)))))
                have g297 : U291 470 p 1 = T 470 p 1 := (up_k hU291 (by exact Nat.ne_of_beq_eq_false rfl) p 1).trans ((up_k hU271 (by exact Nat.ne_of_beq_eq_false rfl) p 1).trans ((fU267 470 p 1 rfl).trans ((up_k hU216 (by exact Nat.ne_of_beq_eq_false rfl) p 1).trans ((fU212 470 p 1 rfl).trans (up_k hU6 (by exact Nat.ne_of_beq_eq_false rfl) p 1)))))
                have e298 : U291 103 p 3 = 1 := up_f hU291
                have rU6 : rs9_ U6 p = u2_ (rs9_ T p) 466 s (wr_ ((T 466 p s) + 1)) := rs_u hU6 rfl
                have rU212 : rs9_ U212 p = fy2_ (u2_ (rs9_ T p) 466 s (wr_ ((T 466 p s) + 1))) 466 2 0 := by rw [qU212e, rU6]
                have rU216 : rs9_ U216 p = u2_ (fy2_ (u2_ (rs9_ T p) 466 s (wr_ ((T 466 p s) + 1))) 466 2 0) 467 s (wr_ ((T 467 p s) + 1)) := by rw [rs_u hU216 rfl, rU212]
                have rU267 : rs9_ U267 p = fy2_ (u2_ (fy2_ (u2_ (rs9_ T p) 466 s (wr_ ((T 466 p s) + 1))) 466 2 0) 467 s (wr_ ((T 467 p s) + 1))) 467 2 0 := by rw [qU267e, rU216]
                have rU271 : rs9_ U271 p = u2_ (fy2_ (u2_ (fy2_ (u2_ (rs9_ T p) 466 s (wr_ ((T 466 p s) + 1))) 466 2 0) 467 s (wr_ ((T 467 p s) + 1))) 467 2 0) 468 s (wr_ ((T 468 p s) + 1)) := by rw [rs_u hU271 rfl, rU267]
                have rU291 : rs9_ U291 p = u2_ (u2_ (fy2_ (u2_ (fy2_ (u2_ (rs9_ T p) 466 s (wr_ ((T 466 p s) + 1))) 466 2 0) 467 s (wr_ ((T 467 p s) + 1))) 467 2 0) 468 s (wr_ ((T 468 p s) + 1))) 103 3 1 := by rw [rs_u hU291 rfl, rU271]
                exact ⟨rfl, fr_u (fr_u (fr_t (fr_u (fr_t (fr_u (fr_0 _ _) hU6 rfl) (fr_s fU212 rfl)) hU216 rfl) (fr_s fU267 rfl)) hU271 rfl) hU291 rfl, oi_u (oi_u (oi_t (oi_u (oi_t (oi_u (oi_r) hU6) qU212o) hU216) qU267o) hU271) hU291, by exact fun _ => by omega, Eq.trans rU291 (pt9__2 (r := ru) (a := (rs9_ T p)) (k := k) (s := s) (show ¬ (k = 6) by omega) (show T 467 p 0 = ru 11 ∧ T 467 p 1 = ru 11 by omega) (show 7 ≤ wr_ (T 466 p s + 1) ∧ 2 ≤ wr_ (wr_ (T 466 p s + 1) - T 466 p (1 - s)) by omega) (show (ru 11 ≤ wr_ (T 467 p s + 1) ∧ 2 ≤ wr_ (wr_ (T 467 p s + 1) - T 467 p (1 - s))) ∨ ru 11 < wr_ (T 467 p s + 1) by omega) (show wr_ (T 468 p s + 1) = 2 by omega)).symm⟩
        · replace hx210 := hx210.resolve_left (fun z => absurd (c211.symm.trans z.1) (by decide))
          clear c211
          refine (show po_X3_playTennis_e T p ru k s U6 (none) from ?_)
          have e299 : U6 103 p 3 = T 103 p 3 := up_k hU6 (by exact Nat.ne_of_beq_eq_false rfl) p 3
          have e300 : U6 470 p 0 = T 470 p 0 := up_k hU6 (by exact Nat.ne_of_beq_eq_false rfl) p 0
          have e301 : U6 470 p 1 = T 470 p 1 := up_k hU6 (by exact Nat.ne_of_beq_eq_false rfl) p 1
          have g302 : U6 470 p 0 = T 470 p 0 := up_k hU6 (by exact Nat.ne_of_beq_eq_false rfl) p 0
          have g303 : U6 470 p 1 = T 470 p 1 := up_k hU6 (by exact Nat.ne_of_beq_eq_false rfl) p 1
          have e304 : U6 103 p 3 = T 103 p 3 := up_k hU6 (by exact Nat.ne_of_beq_eq_false rfl) p 3
          have rU6 : rs9_ U6 p = u2_ (rs9_ T p) 466 s (wr_ ((T 466 p s) + 1)) := rs_u hU6 rfl
          exact ⟨rfl, fr_u (fr_0 _ _) hU6 rfl, oi_u (oi_r) hU6, by exact fun _ => by omega, Eq.trans rU6 (pt9__5 (r := ru) (a := (rs9_ T p)) (k := k) (s := s) (show ¬ (k = 6) by omega) (show T 467 p 0 = ru 11 ∧ T 467 p 1 = ru 11 by omega) (show ¬ (7 ≤ wr_ (T 466 p s + 1) ∧ 2 ≤ wr_ (wr_ (T 466 p s + 1) - T 466 p (1 - s))) by omega)).symm⟩
  · refine rg_i (by omega) ?_
    refine iy_i (by omega) (by omega) ?_
    refine x_nm (fun U305 hU305 => ?_)
    have e306 := up_f hU305
    refine bd_i (by omega) ?_
    refine x_nm (fun U307 hU307 => ?_)
    have e308 := up_f hU307
    refine (show po_X3_playTennis_e T p ru k s U307 (none) from ?_)
    have e309 : U307 103 p 3 = 1 := up_f hU307
    have e310 : U307 470 p 0 = T 470 p 0 := (up_k hU307 (by exact Nat.ne_of_beq_eq_false rfl) p 0).trans (up_k hU305 (by exact Nat.ne_of_beq_eq_false rfl) p 0)
    have e311 : U307 470 p 1 = T 470 p 1 := (up_k hU307 (by exact Nat.ne_of_beq_eq_false rfl) p 1).trans (up_k hU305 (by exact Nat.ne_of_beq_eq_false rfl) p 1)
    have g312 : U307 470 p 0 = T 470 p 0 := (up_k hU307 (by exact Nat.ne_of_beq_eq_false rfl) p 0).trans (up_k hU305 (by exact Nat.ne_of_beq_eq_false rfl) p 0)
    have g313 : U307 470 p 1 = T 470 p 1 := (up_k hU307 (by exact Nat.ne_of_beq_eq_false rfl) p 1).trans (up_k hU305 (by exact Nat.ne_of_beq_eq_false rfl) p 1)
    have e314 : U307 103 p 3 = 1 := up_f hU307
    have rU305 : rs9_ U305 p = u2_ (rs9_ T p) 468 (1 - s) 2 := rs_u hU305 rfl
    have rU307 : rs9_ U307 p = u2_ (u2_ (rs9_ T p) 468 (1 - s) 2) 103 3 1 := by rw [rs_u hU307 rfl, rU305]
    exact ⟨rfl, fr_u (fr_u (fr_0 _ _) hU305 rfl) hU307 rfl, oi_u (oi_u (oi_r) hU305) hU307, by exact fun _ => by omega, Eq.trans rU307 (pt9__1 (r := ru) (a := (rs9_ T p)) (k := k) (s := s) (show k = 6 by omega)).symm⟩
theorem bk_X3_endHalf_e_0 : ck_ fX3 none cX3_endHalf 0 [.aload 0, .tableswitch 0 3 5 #[], .iconst 1, .if_icmp .ne 44, .aload 0] 9 = true := qck_r (nn_ _) (by decide +kernel)
theorem bs_X3_endHalf_e_0 {P : Zt → Option Zv → Prop} (K : Int → Zl → List Zv → Zt → Prop) : sx_ K P [.aload 0, .tableswitch 0 3 5 #[], .iconst 1, .if_icmp .ne 44, .aload 0] 9 = x_aload 0 (x_g0 103 5 0 1 (x_iconst 1 (x_if_icmp .ne 44 K (x_aload 0 (K 9))))) := ((xe_aload 0).trans (congrArg (x_aload 0) ((xe_g0 (kk := 103) rfl tl_3_5).trans (congrArg (x_g0 103 5 0 1) ((xe_iconst 1).trans (congrArg (x_iconst 1) ((xe_if_icmp .ne 44).trans (congrArg (x_if_icmp .ne 44 K) ((xe_aload 0).trans (congrArg (x_aload 0) xe_nil))))))))))
theorem bk_X3_endHalf_e_44 : ck_ fX3 none cX3_endHalf 44 [.aload 0, .tableswitch 0 3 8 #[], .iconst 0, .iaload, .aload 0, .tableswitch 0 3 8 #[], .iconst 1, .iaload, .if_icmp .eq 63, .iconst 1, .goto 64] 63 = true := qck_r (nn_ _) (by decide +kernel)
theorem bs_X3_endHalf_e_44 {P : Zt → Option Zv → Prop} (K : Int → Zl → List Zv → Zt → Prop) : sx_ K P [.aload 0, .tableswitch 0 3 8 #[], .iconst 0, .iaload, .aload 0, .tableswitch 0 3 8 #[], .iconst 1, .iaload, .if_icmp .eq 63, .iconst 1, .goto 64] 63 = x_aload 0 (x_g2 103 468 (x_iconst 0 (x_iaload (x_aload 0 (x_g2 103 468 (x_iconst 1 (x_iaload (x_if_icmp .eq 63 K (x_iconst 1 (x_goto 64 K)))))))))) := ((xe_aload 0).trans (congrArg (x_aload 0) ((xe_g2 (kk := 103) rfl tl_3_8).trans (congrArg (x_g2 103 468) ((xe_iconst 0).trans (congrArg (x_iconst 0) ((xe_iaload).trans (congrArg (x_iaload) ((xe_aload 0).trans (congrArg (x_aload 0) ((xe_g2 (kk := 103) rfl tl_3_8).trans (congrArg (x_g2 103 468) ((xe_iconst 1).trans (congrArg (x_iconst 1) ((xe_iaload).trans (congrArg (x_iaload) ((xe_if_icmp .eq 63).trans (congrArg (x_if_icmp .eq 63 K) ((xe_iconst 1).trans (congrArg (x_iconst 1) (xe_goto 64)))))))))))))))))))))
theorem bk_X3_endHalf_e_63 : ck_ fX3 none cX3_endHalf 63 [.iconst 0, .istore 1, .aload 0] 66 = true := qck_r (nn_ _) (by decide +kernel)
theorem bs_X3_endHalf_e_63 {P : Zt → Option Zv → Prop} (K : Int → Zl → List Zv → Zt → Prop) : sx_ K P [.iconst 0, .istore 1, .aload 0] 66 = x_iconst 0 (x_istore 1 (x_aload 0 (K 66))) := ((xe_iconst 0).trans (congrArg (x_iconst 0) ((xe_istore 1).trans (congrArg (x_istore 1) ((xe_aload 0).trans (congrArg (x_aload 0) xe_nil))))))
theorem bk_X3_endHalf_e_69 : ck_ fX3 none cX3_endHalf 69 [.ifCond .eq 76, .iload 1, .ifCond .ne 95, .aload 0, .tableswitch 0 3 4 #[], .iconst 1, .fadd, .aload 0, .tableswitch 0 3 0 #[], .iconst 11, .iaload, .iconst 20, .fadd, .if_icmp .ne 101, .aload 0, .iconst 1, .tableswitch 1 3 3 #[], .return_] 101 = true := qck_r (nn_ _) (by decide +kernel)
theorem bs_X3_endHalf_e_69 {P : Zt → Option Zv → Prop} (K : Int → Zl → List Zv → Zt → Prop) : sx_ K P [.ifCond .eq 76, .iload 1, .ifCond .ne 95, .aload 0, .tableswitch 0 3 4 #[], .iconst 1, .fadd, .aload 0, .tableswitch 0 3 0 #[], .iconst 11, .iaload, .iconst 20, .fadd, .if_icmp .ne 101, .aload 0, .iconst 1, .tableswitch 1 3 3 #[], .return_] 101 = x_ifCond .eq 76 K (x_iload 1 (x_ifCond .ne 95 K (x_aload 0 (x_g0 103 4 (-2147483648) 2147483647 (x_iconst 1 (x_fadd (x_aload 0 (x_g3 103 401 0 (x_iconst 11 (x_iaload (x_iconst 20 (x_fadd (x_if_icmp .ne 101 K (x_aload 0 (x_iconst 1 (x_p 103 3 0 1 (x_return_ P))))))))))))))))) := ((xe_ifCond .eq 76).trans (congrArg (x_ifCond .eq 76 K) ((xe_iload 1).trans (congrArg (x_iload 1) ((xe_ifCond .ne 95).trans (congrArg (x_ifCond .ne 95 K) ((xe_aload 0).trans (congrArg (x_aload 0) ((xe_g0 (kk := 103) rfl tl_3_4).trans (congrArg (x_g0 103 4 (-2147483648) 2147483647) ((xe_iconst 1).trans (congrArg (x_iconst 1) ((xe_fadd).trans (congrArg (x_fadd) ((xe_aload 0).trans (congrArg (x_aload 0) ((xe_g3 (kk := 103) rfl tl_3_0).trans (congrArg (x_g3 103 401 0) ((xe_iconst 11).trans (congrArg (x_iconst 11) ((xe_iaload).trans (congrArg (x_iaload) ((xe_iconst 20).trans (congrArg (x_iconst 20) ((xe_fadd).trans (congrArg (x_fadd) ((xe_if_icmp .ne 101).trans (congrArg (x_if_icmp .ne 101 K) ((xe_aload 0).trans (congrArg (x_aload 0) ((xe_iconst 1).trans (congrArg (x_iconst 1) ((xe_p (kk := 103) rfl tl_3_3).trans (congrArg (x_p 103 3 0 1) (xe_return_)))))))))))))))))))))))))))))))))))
theorem bk_X3_endHalf_e_76 : ck_ fX3 none cX3_endHalf 76 [.aload 0, .tableswitch 0 3 4 #[], .iconst 1, .fadd, .aload 0, .tableswitch 0 3 0 #[], .iconst 11, .iaload, .iconst 20, .fadd, .if_icmp .ne 101, .aload 0, .iconst 1, .tableswitch 1 3 3 #[], .return_] 101 = true := qck_r (nn_ _) (by decide +kernel)
theorem bs_X3_endHalf_e_76 {P : Zt → Option Zv → Prop} (K : Int → Zl → List Zv → Zt → Prop) : sx_ K P [.aload 0, .tableswitch 0 3 4 #[], .iconst 1, .fadd, .aload 0, .tableswitch 0 3 0 #[], .iconst 11, .iaload, .iconst 20, .fadd, .if_icmp .ne 101, .aload 0, .iconst 1, .tableswitch 1 3 3 #[], .return_] 101 = x_aload 0 (x_g0 103 4 (-2147483648) 2147483647 (x_iconst 1 (x_fadd (x_aload 0 (x_g3 103 401 0 (x_iconst 11 (x_iaload (x_iconst 20 (x_fadd (x_if_icmp .ne 101 K (x_aload 0 (x_iconst 1 (x_p 103 3 0 1 (x_return_ P)))))))))))))) := ((xe_aload 0).trans (congrArg (x_aload 0) ((xe_g0 (kk := 103) rfl tl_3_4).trans (congrArg (x_g0 103 4 (-2147483648) 2147483647) ((xe_iconst 1).trans (congrArg (x_iconst 1) ((xe_fadd).trans (congrArg (x_fadd) ((xe_aload 0).trans (congrArg (x_aload 0) ((xe_g3 (kk := 103) rfl tl_3_0).trans (congrArg (x_g3 103 401 0) ((xe_iconst 11).trans (congrArg (x_iconst 11) ((xe_iaload).trans (congrArg (x_iaload) ((xe_iconst 20).trans (congrArg (x_iconst 20) ((xe_fadd).trans (congrArg (x_fadd) ((xe_if_icmp .ne 101).trans (congrArg (x_if_icmp .ne 101 K) ((xe_aload 0).trans (congrArg (x_aload 0) ((xe_iconst 1).trans (congrArg (x_iconst 1) ((xe_p (kk := 103) rfl tl_3_3).trans (congrArg (x_p 103 3 0 1) (xe_return_)))))))))))))))))))))))))))))
theorem bk_X3_endHalf_e_101 : ck_ fX3 none cX3_endHalf 101 [.aload 0, .dup, .tableswitch 0 3 4 #[], .iconst 1, .fadd, .tableswitch 1 3 4 #[], .aload 0, .iconst 1, .tableswitch 1 3 5 #[], .return_] 117 = true := qck_r (nn_ _) (by decide +kernel)
theorem bs_X3_endHalf_e_101 {P : Zt → Option Zv → Prop} (K : Int → Zl → List Zv → Zt → Prop) : sx_ K P [.aload 0, .dup, .tableswitch 0 3 4 #[], .iconst 1, .fadd, .tableswitch 1 3 4 #[], .aload 0, .iconst 1, .tableswitch 1 3 5 #[], .return_] 117 = x_aload 0 (x_dup (x_g0 103 4 (-2147483648) 2147483647 (x_iconst 1 (x_fadd (x_p 103 4 (-2147483648) 2147483647 (x_aload 0 (x_iconst 1 (x_p 103 5 0 1 (x_return_ P))))))))) := ((xe_aload 0).trans (congrArg (x_aload 0) ((xe_dup).trans (congrArg (x_dup) ((xe_g0 (kk := 103) rfl tl_3_4).trans (congrArg (x_g0 103 4 (-2147483648) 2147483647) ((xe_iconst 1).trans (congrArg (x_iconst 1) ((xe_fadd).trans (congrArg (x_fadd) ((xe_p (kk := 103) rfl tl_3_4).trans (congrArg (x_p 103 4 (-2147483648) 2147483647) ((xe_aload 0).trans (congrArg (x_aload 0) ((xe_iconst 1).trans (congrArg (x_iconst 1) ((xe_p (kk := 103) rfl tl_3_5).trans (congrArg (x_p 103 5 0 1) (xe_return_)))))))))))))))))))
theorem bk_X3_endHalf_e_95 : ck_ fX3 none cX3_endHalf 95 [.aload 0, .iconst 1, .tableswitch 1 3 3 #[], .return_] 101 = true := qck_r (nn_ _) (by decide +kernel)
theorem bs_X3_endHalf_e_95 {P : Zt → Option Zv → Prop} (K : Int → Zl → List Zv → Zt → Prop) : sx_ K P [.aload 0, .iconst 1, .tableswitch 1 3 3 #[], .return_] 101 = x_aload 0 (x_iconst 1 (x_p 103 3 0 1 (x_return_ P))) := ((xe_aload 0).trans (congrArg (x_aload 0) ((xe_iconst 1).trans (congrArg (x_iconst 1) ((xe_p (kk := 103) rfl tl_3_3).trans (congrArg (x_p 103 3 0 1) (xe_return_)))))))
theorem bk_X3_endHalf_e_64 : ck_ fX3 none cX3_endHalf 64 [.istore 1, .aload 0] 66 = true := qck_r (nn_ _) (by decide +kernel)
theorem bs_X3_endHalf_e_64 {P : Zt → Option Zv → Prop} (K : Int → Zl → List Zv → Zt → Prop) : sx_ K P [.istore 1, .aload 0] 66 = x_istore 1 (x_aload 0 (K 66)) := ((xe_istore 1).trans (congrArg (x_istore 1) ((xe_aload 0).trans (congrArg (x_aload 0) xe_nil))))
theorem bk_X3_endHalf_e_12 : ck_ fX3 none cX3_endHalf 12 [.ifCond .eq 38, .aload 0, .tableswitch 0 3 8 #[], .iconst 0, .iaload, .aload 0, .tableswitch 0 3 8 #[], .iconst 1, .iaload, .if_icmp .le 38, .aload 0, .iconst 1, .tableswitch 1 3 3 #[], .goto 43] 38 = true := qck_r (nn_ _) (by decide +kernel)
theorem bs_X3_endHalf_e_12 {P : Zt → Option Zv → Prop} (K : Int → Zl → List Zv → Zt → Prop) : sx_ K P [.ifCond .eq 38, .aload 0, .tableswitch 0 3 8 #[], .iconst 0, .iaload, .aload 0, .tableswitch 0 3 8 #[], .iconst 1, .iaload, .if_icmp .le 38, .aload 0, .iconst 1, .tableswitch 1 3 3 #[], .goto 43] 38 = x_ifCond .eq 38 K (x_aload 0 (x_g2 103 468 (x_iconst 0 (x_iaload (x_aload 0 (x_g2 103 468 (x_iconst 1 (x_iaload (x_if_icmp .le 38 K (x_aload 0 (x_iconst 1 (x_p 103 3 0 1 (x_goto 43 K))))))))))))) := ((xe_ifCond .eq 38).trans (congrArg (x_ifCond .eq 38 K) ((xe_aload 0).trans (congrArg (x_aload 0) ((xe_g2 (kk := 103) rfl tl_3_8).trans (congrArg (x_g2 103 468) ((xe_iconst 0).trans (congrArg (x_iconst 0) ((xe_iaload).trans (congrArg (x_iaload) ((xe_aload 0).trans (congrArg (x_aload 0) ((xe_g2 (kk := 103) rfl tl_3_8).trans (congrArg (x_g2 103 468) ((xe_iconst 1).trans (congrArg (x_iconst 1) ((xe_iaload).trans (congrArg (x_iaload) ((xe_if_icmp .le 38).trans (congrArg (x_if_icmp .le 38 K) ((xe_aload 0).trans (congrArg (x_aload 0) ((xe_iconst 1).trans (congrArg (x_iconst 1) ((xe_p (kk := 103) rfl tl_3_3).trans (congrArg (x_p 103 3 0 1) (xe_goto 43)))))))))))))))))))))))))))
theorem bk_X3_endHalf_e_38 : ck_ fX3 none cX3_endHalf 38 [.aload 0, .iconst 0, .tableswitch 1 3 5 #[], .return_] 44 = true := qck_r (nn_ _) (by decide +kernel)
theorem bs_X3_endHalf_e_38 {P : Zt → Option Zv → Prop} (K : Int → Zl → List Zv → Zt → Prop) : sx_ K P [.aload 0, .iconst 0, .tableswitch 1 3 5 #[], .return_] 44 = x_aload 0 (x_iconst 0 (x_p 103 5 0 1 (x_return_ P))) := ((xe_aload 0).trans (congrArg (x_aload 0) ((xe_iconst 0).trans (congrArg (x_iconst 0) ((xe_p (kk := 103) rfl tl_3_5).trans (congrArg (x_p 103 5 0 1) (xe_return_)))))))
theorem bk_X3_endHalf_e_43 : ck_ fX3 none cX3_endHalf 43 [.return_] 44 = true := qck_r (nn_ _) (by decide +kernel)
theorem bs_X3_endHalf_e_43 {P : Zt → Option Zv → Prop} (K : Int → Zl → List Zv → Zt → Prop) : sx_ K P [.return_] 44 = x_return_ P := (xe_return_)
abbrev po_X3_endHalf_e (T : Zt) (p : Int) (ru : Int → Int) : Zt → Option Zv → Prop := fun T' r => r = none ∧ fr_ [(103, [3, 4, 5])] T T' ∧ (oi_ T T' p ∧ (T' 103 p 3 = 0 → 1 ≤ T' 470 p 0 ∧ 1 ≤ T' 470 p 1) ∧ rs9_ T' p = eh9_ ru (rs9_ T p))
set_option maxHeartbeats 4000000 in
theorem ct_X3_endHalf_e {T : Zt} {p : Int} {ru : Int → Int} (hr : RLP_ T p ru) (hfd : 1 ≤ T 470 p 0 ∧ 1 ≤ T 470 p 1) : Ct_ yX3_endHalf zX3_endHalf T [vR 103 p] (po_X3_endHalf_e T p ru) := by
  refine ct_of pn_3 rfl rfl (Nat.le_of_ble_eq_true rfl) (fun hT hav => ?_)
  have hz : zX3_endHalf.2.2.2.1 = some .boolean → ∀ (T' : Zt) (x : Int), po_X3_endHalf_e T p ru T' (some (vI x)) → 0 ≤ x ∧ x ≤ 1 := fun h => by cases h
  have hr0 := hr 0 (by decide) (by decide)
  have hr9 := hr 9 (by decide) (by decide)
  have hr10 := hr 10 (by decide) (by decide)
  have hr11 := hr 11 (by decide) (by decide)
  have hr12 := hr 12 (by decide) (by decide)
  have hw20 : wr_ (T 401 (T 103 p 0) 11 + 20) = wr_ (ru 11 + 20) := by rw [hr11]
  show J_ zX3_endHalf T (po_X3_endHalf_e T p ru) 0 0 0 [some (vR 103 p), none] [] T
  refine j_blx (F := fX3) tb_X3 (nn_ _) bk_X3_endHalf_e_0 bs_X3_endHalf_e_0 hz (fun K hK => ?_)
  intro b1 b1b
  refine And.intro (fun c2 => ?_) (fun c2 => ?_)
  · refine hK 44 _ [] T ?_
    refine j_blx (F := fX3) tb_X3 (nn_ _) bk_X3_endHalf_e_44 bs_X3_endHalf_e_44 hz (fun K hK => ?_)
    refine ix_i (by omega) ?_
    intro b3 b3b
    refine ix_i (by omega) ?_
    intro b4 b4b
    refine And.intro (fun c5 => ?_) (fun c5 => ?_)
    · refine hK 63 _ [] T ?_
      refine j_blx (F := fX3) tb_X3 (nn_ _) bk_X3_endHalf_e_63 bs_X3_endHalf_e_63 hz (fun K hK => ?_)
      refine hK 66 [some (vR 103 p), some (vI 0)] [vR 103 p] T ?_
      refine j_callV (y := yX3_isLastInning) (Yc := zX3_isLastInning) (rest := []) [] (ct_X3_isLastInning_e (T := T) (ru := ru) (by exact hr)) cl_X3_147 (qd_c (by decide +kernel)) (nn_ _) rfl (rf_of rfl) (Nat.le_of_ble_eq_true rfl) (Nat.le_of_ble_eq_true rfl) (Nat.le_of_ble_eq_true rfl) rfl ?_
      rintro _ _ ⟨rfl, x6, rfl, hx6⟩
      show J_ zX3_endHalf T (po_X3_endHalf_e T p ru) 0 0 69 _ [vI x6] T
      refine j_blx (F := fX3) tb_X3 (nn_ _) bk_X3_endHalf_e_69 bs_X3_endHalf_e_69 hz (fun K hK => ?_)
      refine And.intro (fun c7 => ?_) (fun c7 => ?_)
      · replace hx6 := hx6.resolve_left (fun z => absurd (c7.symm.trans z.1) (by decide))
        clear c7
        refine hK 76 _ [] T ?_
        refine j_blx (F := fX3) tb_X3 (nn_ _) bk_X3_endHalf_e_76 bs_X3_endHalf_e_76 hz (fun K hK => ?_)
        intro b8 b8b
        intro w9 w9b
        refine ix_i (by omega) ?_
        intro b11 b11b
        intro w12 w12b
        refine And.intro (fun c13 => ?_) (fun c13 => ?_)
        · refine hK 101 _ [] T ?_
          refine j_blx (F := fX3) tb_X3 (nn_ _) bk_X3_endHalf_e_101 bs_X3_endHalf_e_101 hz (fun K hK => ?_)
          intro b14 b14b
          intro w15 w15b
          refine bd_i (by omega) ?_
          refine x_nm (fun U16 hU16 => ?_)
          have e17 := up_f hU16
          refine bd_i (by omega) ?_
          refine x_nm (fun U18 hU18 => ?_)
          have e19 := up_f hU18
          refine (show po_X3_endHalf_e T p ru U18 (none) from ?_)
          have e20 : U18 103 p 3 = T 103 p 3 := (up_j hU18 (by decide) 103 p).trans (up_j hU16 (by decide) 103 p)
          have e21 : U18 470 p 0 = T 470 p 0 := (up_k hU18 (by exact Nat.ne_of_beq_eq_false rfl) p 0).trans (up_k hU16 (by exact Nat.ne_of_beq_eq_false rfl) p 0)
          have e22 : U18 470 p 1 = T 470 p 1 := (up_k hU18 (by exact Nat.ne_of_beq_eq_false rfl) p 1).trans (up_k hU16 (by exact Nat.ne_of_beq_eq_false rfl) p 1)
          have g23 : U18 470 p 0 = T 470 p 0 := (up_k hU18 (by exact Nat.ne_of_beq_eq_false rfl) p 0).trans (up_k hU16 (by exact Nat.ne_of_beq_eq_false rfl) p 0)
          have g24 : U18 470 p 1 = T 470 p 1 := (up_k hU18 (by exact Nat.ne_of_beq_eq_false rfl) p 1).trans (up_k hU16 (by exact Nat.ne_of_beq_eq_false rfl) p 1)
          have e25 : U18 103 p 3 = T 103 p 3 := (up_j hU18 (by decide) 103 p).trans (up_j hU16 (by decide) 103 p)
          have rU16 : rs9_ U16 p = u2_ (rs9_ T p) 103 4 (wr_ ((T 103 p 4) + 1)) := rs_u hU16 rfl
          have rU18 : rs9_ U18 p = u2_ (u2_ (rs9_ T p) 103 4 (wr_ ((T 103 p 4) + 1))) 103 5 1 := by rw [rs_u hU18 rfl, rU16]
          exact ⟨rfl, fr_u (fr_u (fr_0 _ _) hU16 rfl) hU18 rfl, oi_u (oi_u (oi_r) hU16) hU18, by exact fun _ => by omega, Eq.trans rU18 (eh9__4 (r := ru) (a := (rs9_ T p)) (show ¬ (T 103 p 5 = 1) by omega) (show ¬ ((wr_ (ru 11 - 1) ≤ T 103 p 4 ∧ T 468 p 0 ≠ T 468 p 1) ∨ wr_ (T 103 p 4 + 1) = wr_ (ru 11 + 20)) by omega)).symm⟩
        · refine bd_i (by omega) ?_
          refine x_nm (fun U26 hU26 => ?_)
          have e27 := up_f hU26
          refine (show po_X3_endHalf_e T p ru U26 (none) from ?_)
          have e28 : U26 103 p 3 = 1 := up_f hU26
          have e29 : U26 470 p 0 = T 470 p 0 := up_k hU26 (by exact Nat.ne_of_beq_eq_false rfl) p 0
          have e30 : U26 470 p 1 = T 470 p 1 := up_k hU26 (by exact Nat.ne_of_beq_eq_false rfl) p 1
          have g31 : U26 470 p 0 = T 470 p 0 := up_k hU26 (by exact Nat.ne_of_beq_eq_false rfl) p 0
          have g32 : U26 470 p 1 = T 470 p 1 := up_k hU26 (by exact Nat.ne_of_beq_eq_false rfl) p 1
          have e33 : U26 103 p 3 = 1 := up_f hU26
          have rU26 : rs9_ U26 p = u2_ (rs9_ T p) 103 3 1 := rs_u hU26 rfl
          exact ⟨rfl, fr_u (fr_0 _ _) hU26 rfl, oi_u (oi_r) hU26, by exact fun _ => by omega, Eq.trans rU26 (eh9__3 (r := ru) (a := (rs9_ T p)) (show ¬ (T 103 p 5 = 1) by omega) (show (wr_ (ru 11 - 1) ≤ T 103 p 4 ∧ T 468 p 0 ≠ T 468 p 1) ∨ wr_ (T 103 p 4 + 1) = wr_ (ru 11 + 20) by omega)).symm⟩
      · replace hx6 := hx6.resolve_right (fun z => c7 z.1)
        clear c7
        refine And.intro (fun c34 => ?_) (fun c34 => ?_)
        · refine hK 95 _ [] T ?_
          refine j_blx (F := fX3) tb_X3 (nn_ _) bk_X3_endHalf_e_95 bs_X3_endHalf_e_95 hz (fun K hK => ?_)
          refine bd_i (by omega) ?_
          refine x_nm (fun U35 hU35 => ?_)
          have e36 := up_f hU35
          refine (show po_X3_endHalf_e T p ru U35 (none) from ?_)
          have e37 : U35 103 p 3 = 1 := up_f hU35
          have e38 : U35 470 p 0 = T 470 p 0 := up_k hU35 (by exact Nat.ne_of_beq_eq_false rfl) p 0
          have e39 : U35 470 p 1 = T 470 p 1 := up_k hU35 (by exact Nat.ne_of_beq_eq_false rfl) p 1
          have g40 : U35 470 p 0 = T 470 p 0 := up_k hU35 (by exact Nat.ne_of_beq_eq_false rfl) p 0
          have g41 : U35 470 p 1 = T 470 p 1 := up_k hU35 (by exact Nat.ne_of_beq_eq_false rfl) p 1
          have e42 : U35 103 p 3 = 1 := up_f hU35
          have rU35 : rs9_ U35 p = u2_ (rs9_ T p) 103 3 1 := rs_u hU35 rfl
          exact ⟨rfl, fr_u (fr_0 _ _) hU35 rfl, oi_u (oi_r) hU35, by exact fun _ => by omega, Eq.trans rU35 (eh9__1 (r := ru) (a := (rs9_ T p)) (show T 103 p 5 = 1 by omega) (show wr_ (ru 11 - 1) ≤ T 103 p 4 ∧ T 468 p 1 < T 468 p 0 by omega)).symm⟩
        · intro b43 b43b
          intro w44 w44b
          refine ix_i (by omega) ?_
          intro b46 b46b
          intro w47 w47b
          refine And.intro (fun c48 => ?_) (fun c48 => ?_)
          · refine hK 101 _ [] T ?_
            refine j_blx (F := fX3) tb_X3 (nn_ _) bk_X3_endHalf_e_101 bs_X3_endHalf_e_101 hz (fun K hK => ?_)
            intro b49 b49b
            intro w50 w50b
            refine bd_i (by omega) ?_
            refine x_nm (fun U51 hU51 => ?_)
            have e52 := up_f hU51
            refine bd_i (by omega) ?_
            refine x_nm (fun U53 hU53 => ?_)
            have e54 := up_f hU53
            refine (show po_X3_endHalf_e T p ru U53 (none) from ?_)
            have e55 : U53 103 p 3 = T 103 p 3 := (up_j hU53 (by decide) 103 p).trans (up_j hU51 (by decide) 103 p)
            have e56 : U53 470 p 0 = T 470 p 0 := (up_k hU53 (by exact Nat.ne_of_beq_eq_false rfl) p 0).trans (up_k hU51 (by exact Nat.ne_of_beq_eq_false rfl) p 0)
            have e57 : U53 470 p 1 = T 470 p 1 := (up_k hU53 (by exact Nat.ne_of_beq_eq_false rfl) p 1).trans (up_k hU51 (by exact Nat.ne_of_beq_eq_false rfl) p 1)
            have g58 : U53 470 p 0 = T 470 p 0 := (up_k hU53 (by exact Nat.ne_of_beq_eq_false rfl) p 0).trans (up_k hU51 (by exact Nat.ne_of_beq_eq_false rfl) p 0)
            have g59 : U53 470 p 1 = T 470 p 1 := (up_k hU53 (by exact Nat.ne_of_beq_eq_false rfl) p 1).trans (up_k hU51 (by exact Nat.ne_of_beq_eq_false rfl) p 1)
            have e60 : U53 103 p 3 = T 103 p 3 := (up_j hU53 (by decide) 103 p).trans (up_j hU51 (by decide) 103 p)
            have rU51 : rs9_ U51 p = u2_ (rs9_ T p) 103 4 (wr_ ((T 103 p 4) + 1)) := rs_u hU51 rfl
            have rU53 : rs9_ U53 p = u2_ (u2_ (rs9_ T p) 103 4 (wr_ ((T 103 p 4) + 1))) 103 5 1 := by rw [rs_u hU53 rfl, rU51]
            exact ⟨rfl, fr_u (fr_u (fr_0 _ _) hU51 rfl) hU53 rfl, oi_u (oi_u (oi_r) hU51) hU53, by exact fun _ => by omega, Eq.trans rU53 (eh9__4 (r := ru) (a := (rs9_ T p)) (show ¬ (T 103 p 5 = 1) by omega) (show ¬ ((wr_ (ru 11 - 1) ≤ T 103 p 4 ∧ T 468 p 0 ≠ T 468 p 1) ∨ wr_ (T 103 p 4 + 1) = wr_ (ru 11 + 20)) by omega)).symm⟩
          · refine bd_i (by omega) ?_
            refine x_nm (fun U61 hU61 => ?_)
            have e62 := up_f hU61
            refine (show po_X3_endHalf_e T p ru U61 (none) from ?_)
            have e63 : U61 103 p 3 = 1 := up_f hU61
            have e64 : U61 470 p 0 = T 470 p 0 := up_k hU61 (by exact Nat.ne_of_beq_eq_false rfl) p 0
            have e65 : U61 470 p 1 = T 470 p 1 := up_k hU61 (by exact Nat.ne_of_beq_eq_false rfl) p 1
            have g66 : U61 470 p 0 = T 470 p 0 := up_k hU61 (by exact Nat.ne_of_beq_eq_false rfl) p 0
            have g67 : U61 470 p 1 = T 470 p 1 := up_k hU61 (by exact Nat.ne_of_beq_eq_false rfl) p 1
            have e68 : U61 103 p 3 = 1 := up_f hU61
            have rU61 : rs9_ U61 p = u2_ (rs9_ T p) 103 3 1 := rs_u hU61 rfl
            exact ⟨rfl, fr_u (fr_0 _ _) hU61 rfl, oi_u (oi_r) hU61, by exact fun _ => by omega, Eq.trans rU61 (eh9__3 (r := ru) (a := (rs9_ T p)) (show ¬ (T 103 p 5 = 1) by omega) (show (wr_ (ru 11 - 1) ≤ T 103 p 4 ∧ T 468 p 0 ≠ T 468 p 1) ∨ wr_ (T 103 p 4 + 1) = wr_ (ru 11 + 20) by omega)).symm⟩
    · refine hK 64 [some (vR 103 p), none] [vI 1] T ?_
      refine j_blx (F := fX3) tb_X3 (nn_ _) bk_X3_endHalf_e_64 bs_X3_endHalf_e_64 hz (fun K hK => ?_)
      refine hK 66 [some (vR 103 p), some (vI 1)] [vR 103 p] T ?_
      refine j_callV (y := yX3_isLastInning) (Yc := zX3_isLastInning) (rest := []) [] (ct_X3_isLastInning_e (T := T) (ru := ru) (by exact hr)) cl_X3_147 (qd_c (by decide +kernel)) (nn_ _) rfl (rf_of rfl) (Nat.le_of_ble_eq_true rfl) (Nat.le_of_ble_eq_true rfl) (Nat.le_of_ble_eq_true rfl) rfl ?_
      rintro _ _ ⟨rfl, x69, rfl, hx69⟩
      show J_ zX3_endHalf T (po_X3_endHalf_e T p ru) 0 0 69 _ [vI x69] T
      refine j_blx (F := fX3) tb_X3 (nn_ _) bk_X3_endHalf_e_69 bs_X3_endHalf_e_69 hz (fun K hK => ?_)
      refine And.intro (fun c70 => ?_) (fun c70 => ?_)
      · replace hx69 := hx69.resolve_left (fun z => absurd (c70.symm.trans z.1) (by decide))
        clear c70
        refine hK 76 _ [] T ?_
        refine j_blx (F := fX3) tb_X3 (nn_ _) bk_X3_endHalf_e_76 bs_X3_endHalf_e_76 hz (fun K hK => ?_)
        intro b71 b71b
        intro w72 w72b
        refine ix_i (by omega) ?_
        intro b74 b74b
        intro w75 w75b
        refine And.intro (fun c76 => ?_) (fun c76 => ?_)
        · refine hK 101 _ [] T ?_
          refine j_blx (F := fX3) tb_X3 (nn_ _) bk_X3_endHalf_e_101 bs_X3_endHalf_e_101 hz (fun K hK => ?_)
          intro b77 b77b
          intro w78 w78b
          refine bd_i (by omega) ?_
          refine x_nm (fun U79 hU79 => ?_)
          have e80 := up_f hU79
          refine bd_i (by omega) ?_
          refine x_nm (fun U81 hU81 => ?_)
          have e82 := up_f hU81
          refine (show po_X3_endHalf_e T p ru U81 (none) from ?_)
          have e83 : U81 103 p 3 = T 103 p 3 := (up_j hU81 (by decide) 103 p).trans (up_j hU79 (by decide) 103 p)
          have e84 : U81 470 p 0 = T 470 p 0 := (up_k hU81 (by exact Nat.ne_of_beq_eq_false rfl) p 0).trans (up_k hU79 (by exact Nat.ne_of_beq_eq_false rfl) p 0)
          have e85 : U81 470 p 1 = T 470 p 1 := (up_k hU81 (by exact Nat.ne_of_beq_eq_false rfl) p 1).trans (up_k hU79 (by exact Nat.ne_of_beq_eq_false rfl) p 1)
          have g86 : U81 470 p 0 = T 470 p 0 := (up_k hU81 (by exact Nat.ne_of_beq_eq_false rfl) p 0).trans (up_k hU79 (by exact Nat.ne_of_beq_eq_false rfl) p 0)
          have g87 : U81 470 p 1 = T 470 p 1 := (up_k hU81 (by exact Nat.ne_of_beq_eq_false rfl) p 1).trans (up_k hU79 (by exact Nat.ne_of_beq_eq_false rfl) p 1)
          have e88 : U81 103 p 3 = T 103 p 3 := (up_j hU81 (by decide) 103 p).trans (up_j hU79 (by decide) 103 p)
          have rU79 : rs9_ U79 p = u2_ (rs9_ T p) 103 4 (wr_ ((T 103 p 4) + 1)) := rs_u hU79 rfl
          have rU81 : rs9_ U81 p = u2_ (u2_ (rs9_ T p) 103 4 (wr_ ((T 103 p 4) + 1))) 103 5 1 := by rw [rs_u hU81 rfl, rU79]
          exact ⟨rfl, fr_u (fr_u (fr_0 _ _) hU79 rfl) hU81 rfl, oi_u (oi_u (oi_r) hU79) hU81, by exact fun _ => by omega, Eq.trans rU81 (eh9__4 (r := ru) (a := (rs9_ T p)) (show ¬ (T 103 p 5 = 1) by omega) (show ¬ ((wr_ (ru 11 - 1) ≤ T 103 p 4 ∧ T 468 p 0 ≠ T 468 p 1) ∨ wr_ (T 103 p 4 + 1) = wr_ (ru 11 + 20)) by omega)).symm⟩
        · refine bd_i (by omega) ?_
          refine x_nm (fun U89 hU89 => ?_)
          have e90 := up_f hU89
          refine (show po_X3_endHalf_e T p ru U89 (none) from ?_)
          have e91 : U89 103 p 3 = 1 := up_f hU89
          have e92 : U89 470 p 0 = T 470 p 0 := up_k hU89 (by exact Nat.ne_of_beq_eq_false rfl) p 0
          have e93 : U89 470 p 1 = T 470 p 1 := up_k hU89 (by exact Nat.ne_of_beq_eq_false rfl) p 1
          have g94 : U89 470 p 0 = T 470 p 0 := up_k hU89 (by exact Nat.ne_of_beq_eq_false rfl) p 0
          have g95 : U89 470 p 1 = T 470 p 1 := up_k hU89 (by exact Nat.ne_of_beq_eq_false rfl) p 1
          have e96 : U89 103 p 3 = 1 := up_f hU89
          have rU89 : rs9_ U89 p = u2_ (rs9_ T p) 103 3 1 := rs_u hU89 rfl
          exact ⟨rfl, fr_u (fr_0 _ _) hU89 rfl, oi_u (oi_r) hU89, by exact fun _ => by omega, Eq.trans rU89 (eh9__3 (r := ru) (a := (rs9_ T p)) (show ¬ (T 103 p 5 = 1) by omega) (show (wr_ (ru 11 - 1) ≤ T 103 p 4 ∧ T 468 p 0 ≠ T 468 p 1) ∨ wr_ (T 103 p 4 + 1) = wr_ (ru 11 + 20) by omega)).symm⟩
      · replace hx69 := hx69.resolve_right (fun z => c70 z.1)
        clear c70
        refine And.intro (fun c97 => ?_) (fun c97 => ?_)
        · refine hK 95 _ [] T ?_
          refine j_blx (F := fX3) tb_X3 (nn_ _) bk_X3_endHalf_e_95 bs_X3_endHalf_e_95 hz (fun K hK => ?_)
          refine bd_i (by omega) ?_
          refine x_nm (fun U98 hU98 => ?_)
          have e99 := up_f hU98
          refine (show po_X3_endHalf_e T p ru U98 (none) from ?_)
          have e100 : U98 103 p 3 = 1 := up_f hU98
          have e101 : U98 470 p 0 = T 470 p 0 := up_k hU98 (by exact Nat.ne_of_beq_eq_false rfl) p 0
          have e102 : U98 470 p 1 = T 470 p 1 := up_k hU98 (by exact Nat.ne_of_beq_eq_false rfl) p 1
          have g103 : U98 470 p 0 = T 470 p 0 := up_k hU98 (by exact Nat.ne_of_beq_eq_false rfl) p 0
          have g104 : U98 470 p 1 = T 470 p 1 := up_k hU98 (by exact Nat.ne_of_beq_eq_false rfl) p 1
          have e105 : U98 103 p 3 = 1 := up_f hU98
          have rU98 : rs9_ U98 p = u2_ (rs9_ T p) 103 3 1 := rs_u hU98 rfl
          exact ⟨rfl, fr_u (fr_0 _ _) hU98 rfl, oi_u (oi_r) hU98, by exact fun _ => by omega, Eq.trans rU98 (eh9__3 (r := ru) (a := (rs9_ T p)) (show ¬ (T 103 p 5 = 1) by omega) (show (wr_ (ru 11 - 1) ≤ T 103 p 4 ∧ T 468 p 0 ≠ T 468 p 1) ∨ wr_ (T 103 p 4 + 1) = wr_ (ru 11 + 20) by omega)).symm⟩
        · intro b106 b106b
          intro w107 w107b
          refine ix_i (by omega) ?_
          intro b109 b109b
          intro w110 w110b
          refine And.intro (fun c111 => ?_) (fun c111 => ?_)
          · refine hK 101 _ [] T ?_
            refine j_blx (F := fX3) tb_X3 (nn_ _) bk_X3_endHalf_e_101 bs_X3_endHalf_e_101 hz (fun K hK => ?_)
            intro b112 b112b
            intro w113 w113b
            refine bd_i (by omega) ?_
            refine x_nm (fun U114 hU114 => ?_)
            have e115 := up_f hU114
            refine bd_i (by omega) ?_
            refine x_nm (fun U116 hU116 => ?_)
            have e117 := up_f hU116
            refine (show po_X3_endHalf_e T p ru U116 (none) from ?_)
            have e118 : U116 103 p 3 = T 103 p 3 := (up_j hU116 (by decide) 103 p).trans (up_j hU114 (by decide) 103 p)
            have e119 : U116 470 p 0 = T 470 p 0 := (up_k hU116 (by exact Nat.ne_of_beq_eq_false rfl) p 0).trans (up_k hU114 (by exact Nat.ne_of_beq_eq_false rfl) p 0)
            have e120 : U116 470 p 1 = T 470 p 1 := (up_k hU116 (by exact Nat.ne_of_beq_eq_false rfl) p 1).trans (up_k hU114 (by exact Nat.ne_of_beq_eq_false rfl) p 1)
            have g121 : U116 470 p 0 = T 470 p 0 := (up_k hU116 (by exact Nat.ne_of_beq_eq_false rfl) p 0).trans (up_k hU114 (by exact Nat.ne_of_beq_eq_false rfl) p 0)
            have g122 : U116 470 p 1 = T 470 p 1 := (up_k hU116 (by exact Nat.ne_of_beq_eq_false rfl) p 1).trans (up_k hU114 (by exact Nat.ne_of_beq_eq_false rfl) p 1)
            have e123 : U116 103 p 3 = T 103 p 3 := (up_j hU116 (by decide) 103 p).trans (up_j hU114 (by decide) 103 p)
            have rU114 : rs9_ U114 p = u2_ (rs9_ T p) 103 4 (wr_ ((T 103 p 4) + 1)) := rs_u hU114 rfl
            have rU116 : rs9_ U116 p = u2_ (u2_ (rs9_ T p) 103 4 (wr_ ((T 103 p 4) + 1))) 103 5 1 := by rw [rs_u hU116 rfl, rU114]
            exact ⟨rfl, fr_u (fr_u (fr_0 _ _) hU114 rfl) hU116 rfl, oi_u (oi_u (oi_r) hU114) hU116, by exact fun _ => by omega, Eq.trans rU116 (eh9__4 (r := ru) (a := (rs9_ T p)) (show ¬ (T 103 p 5 = 1) by omega) (show ¬ ((wr_ (ru 11 - 1) ≤ T 103 p 4 ∧ T 468 p 0 ≠ T 468 p 1) ∨ wr_ (T 103 p 4 + 1) = wr_ (ru 11 + 20)) by omega)).symm⟩
          · refine bd_i (by omega) ?_
            refine x_nm (fun U124 hU124 => ?_)
            have e125 := up_f hU124
            refine (show po_X3_endHalf_e T p ru U124 (none) from ?_)
            have e126 : U124 103 p 3 = 1 := up_f hU124
            have e127 : U124 470 p 0 = T 470 p 0 := up_k hU124 (by exact Nat.ne_of_beq_eq_false rfl) p 0
            have e128 : U124 470 p 1 = T 470 p 1 := up_k hU124 (by exact Nat.ne_of_beq_eq_false rfl) p 1
            have g129 : U124 470 p 0 = T 470 p 0 := up_k hU124 (by exact Nat.ne_of_beq_eq_false rfl) p 0
            have g130 : U124 470 p 1 = T 470 p 1 := up_k hU124 (by exact Nat.ne_of_beq_eq_false rfl) p 1
            have e131 : U124 103 p 3 = 1 := up_f hU124
            have rU124 : rs9_ U124 p = u2_ (rs9_ T p) 103 3 1 := rs_u hU124 rfl
            exact ⟨rfl, fr_u (fr_0 _ _) hU124 rfl, oi_u (oi_r) hU124, by exact fun _ => by omega, Eq.trans rU124 (eh9__1 (r := ru) (a := (rs9_ T p)) (show T 103 p 5 = 1 by omega) (show wr_ (ru 11 - 1) ≤ T 103 p 4 ∧ T 468 p 1 < T 468 p 0 by omega)).symm⟩
  · refine hK 9 _ [vR 103 p] T ?_
    refine j_callV (y := yX3_isLastInning) (Yc := zX3_isLastInning) (rest := []) [] (ct_X3_isLastInning_e (T := T) (ru := ru) (by exact hr)) cl_X3_147 (qd_c (by decide +kernel)) (nn_ _) rfl (rf_of rfl) (Nat.le_of_ble_eq_true rfl) (Nat.le_of_ble_eq_true rfl) (Nat.le_of_ble_eq_true rfl) rfl ?_
    rintro _ _ ⟨rfl, x132, rfl, hx132⟩
    show J_ zX3_endHalf T (po_X3_endHalf_e T p ru) 0 0 12 _ [vI x132] T
    refine j_blx (F := fX3) tb_X3 (nn_ _) bk_X3_endHalf_e_12 bs_X3_endHalf_e_12 hz (fun K hK => ?_)
    refine And.intro (fun c133 => ?_) (fun c133 => ?_)
    · replace hx132 := hx132.resolve_left (fun z => absurd (c133.symm.trans z.1) (by decide))
      clear c133
      refine hK 38 _ [] T ?_
      refine j_blx (F := fX3) tb_X3 (nn_ _) bk_X3_endHalf_e_38 bs_X3_endHalf_e_38 hz (fun K hK => ?_)
      refine bd_i (by omega) ?_
      refine x_nm (fun U134 hU134 => ?_)
      have e135 := up_f hU134
      refine (show po_X3_endHalf_e T p ru U134 (none) from ?_)
      have e136 : U134 103 p 3 = T 103 p 3 := up_j hU134 (by decide) 103 p
      have e137 : U134 470 p 0 = T 470 p 0 := up_k hU134 (by exact Nat.ne_of_beq_eq_false rfl) p 0
      have e138 : U134 470 p 1 = T 470 p 1 := up_k hU134 (by exact Nat.ne_of_beq_eq_false rfl) p 1
      have g139 : U134 470 p 0 = T 470 p 0 := up_k hU134 (by exact Nat.ne_of_beq_eq_false rfl) p 0
      have g140 : U134 470 p 1 = T 470 p 1 := up_k hU134 (by exact Nat.ne_of_beq_eq_false rfl) p 1
      have e141 : U134 103 p 3 = T 103 p 3 := up_j hU134 (by decide) 103 p
      have rU134 : rs9_ U134 p = u2_ (rs9_ T p) 103 5 0 := rs_u hU134 rfl
      exact ⟨rfl, fr_u (fr_0 _ _) hU134 rfl, oi_u (oi_r) hU134, by exact fun _ => by omega, Eq.trans rU134 (eh9__2 (r := ru) (a := (rs9_ T p)) (show T 103 p 5 = 1 by omega) (show ¬ (wr_ (ru 11 - 1) ≤ T 103 p 4 ∧ T 468 p 1 < T 468 p 0) by omega)).symm⟩
    · replace hx132 := hx132.resolve_right (fun z => c133 z.1)
      clear c133
      refine ix_i (by omega) ?_
      intro b142 b142b
      refine ix_i (by omega) ?_
      intro b143 b143b
      refine And.intro (fun c144 => ?_) (fun c144 => ?_)
      · refine hK 38 _ [] T ?_
        refine j_blx (F := fX3) tb_X3 (nn_ _) bk_X3_endHalf_e_38 bs_X3_endHalf_e_38 hz (fun K hK => ?_)
        refine bd_i (by omega) ?_
        refine x_nm (fun U145 hU145 => ?_)
        have e146 := up_f hU145
        refine (show po_X3_endHalf_e T p ru U145 (none) from ?_)
        have e147 : U145 103 p 3 = T 103 p 3 := up_j hU145 (by decide) 103 p
        have e148 : U145 470 p 0 = T 470 p 0 := up_k hU145 (by exact Nat.ne_of_beq_eq_false rfl) p 0
        have e149 : U145 470 p 1 = T 470 p 1 := up_k hU145 (by exact Nat.ne_of_beq_eq_false rfl) p 1
        have g150 : U145 470 p 0 = T 470 p 0 := up_k hU145 (by exact Nat.ne_of_beq_eq_false rfl) p 0
        have g151 : U145 470 p 1 = T 470 p 1 := up_k hU145 (by exact Nat.ne_of_beq_eq_false rfl) p 1
        have e152 : U145 103 p 3 = T 103 p 3 := up_j hU145 (by decide) 103 p
        have rU145 : rs9_ U145 p = u2_ (rs9_ T p) 103 5 0 := rs_u hU145 rfl
        exact ⟨rfl, fr_u (fr_0 _ _) hU145 rfl, oi_u (oi_r) hU145, by exact fun _ => by omega, Eq.trans rU145 (eh9__2 (r := ru) (a := (rs9_ T p)) (show T 103 p 5 = 1 by omega) (show ¬ (wr_ (ru 11 - 1) ≤ T 103 p 4 ∧ T 468 p 1 < T 468 p 0) by omega)).symm⟩
      · refine bd_i (by omega) ?_
        refine x_nm (fun U153 hU153 => ?_)
        have e154 := up_f hU153
        refine hK 43 _ [] U153 ?_
        refine j_blx (F := fX3) tb_X3 (nn_ _) bk_X3_endHalf_e_43 bs_X3_endHalf_e_43 hz (fun K hK => ?_)
        refine (show po_X3_endHalf_e T p ru U153 (none) from ?_)
        have e155 : U153 103 p 3 = 1 := up_f hU153
        have e156 : U153 470 p 0 = T 470 p 0 := up_k hU153 (by exact Nat.ne_of_beq_eq_false rfl) p 0
        have e157 : U153 470 p 1 = T 470 p 1 := up_k hU153 (by exact Nat.ne_of_beq_eq_false rfl) p 1
        have g158 : U153 470 p 0 = T 470 p 0 := up_k hU153 (by exact Nat.ne_of_beq_eq_false rfl) p 0
        have g159 : U153 470 p 1 = T 470 p 1 := up_k hU153 (by exact Nat.ne_of_beq_eq_false rfl) p 1
        have e160 : U153 103 p 3 = 1 := up_f hU153
        have rU153 : rs9_ U153 p = u2_ (rs9_ T p) 103 3 1 := rs_u hU153 rfl
        exact ⟨rfl, fr_u (fr_0 _ _) hU153 rfl, oi_u (oi_r) hU153, by exact fun _ => by omega, Eq.trans rU153 (eh9__1 (r := ru) (a := (rs9_ T p)) (show T 103 p 5 = 1 by omega) (show wr_ (ru 11 - 1) ≤ T 103 p 4 ∧ T 468 p 1 < T 468 p 0 by omega)).symm⟩
theorem bk_X3_countOut_e_0 : ck_ fX3 none cX3_countOut 0 [.aload 0, .tableswitch 0 3 6 #[], .iconst 0] 5 = true := qck_r (nn_ _) (by decide +kernel)
theorem bs_X3_countOut_e_0 {P : Zt → Option Zv → Prop} (K : Int → Zl → List Zv → Zt → Prop) : sx_ K P [.aload 0, .tableswitch 0 3 6 #[], .iconst 0] 5 = x_aload 0 (x_g2 103 466 (x_iconst 0 (K 5))) := ((xe_aload 0).trans (congrArg (x_aload 0) ((xe_g2 (kk := 103) rfl tl_3_6).trans (congrArg (x_g2 103 466) ((xe_iconst 0).trans (congrArg (x_iconst 0) xe_nil))))))
theorem bk_X3_countOut_e_8 : ck_ fX3 none cX3_countOut 8 [.aload 0, .tableswitch 0 3 7 #[], .iconst 0, .dup2, .iaload, .iconst 1, .fadd, .iastore, .aload 0, .tableswitch 0 3 7 #[], .iconst 0, .iaload, .iconst 3, .if_icmp .ne 40, .aload 0, .tableswitch 0 3 7 #[], .iconst 0] 33 = true := qck_r (nn_ _) (by decide +kernel)
theorem bs_X3_countOut_e_8 {P : Zt → Option Zv → Prop} (K : Int → Zl → List Zv → Zt → Prop) : sx_ K P [.aload 0, .tableswitch 0 3 7 #[], .iconst 0, .dup2, .iaload, .iconst 1, .fadd, .iastore, .aload 0, .tableswitch 0 3 7 #[], .iconst 0, .iaload, .iconst 3, .if_icmp .ne 40, .aload 0, .tableswitch 0 3 7 #[], .iconst 0] 33 = x_aload 0 (x_g2 103 467 (x_iconst 0 (x_dup2 (x_iaload (x_iconst 1 (x_fadd (x_iastore (x_aload 0 (x_g2 103 467 (x_iconst 0 (x_iaload (x_iconst 3 (x_if_icmp .ne 40 K (x_aload 0 (x_g2 103 467 (x_iconst 0 (K 33))))))))))))))))) := ((xe_aload 0).trans (congrArg (x_aload 0) ((xe_g2 (kk := 103) rfl tl_3_7).trans (congrArg (x_g2 103 467) ((xe_iconst 0).trans (congrArg (x_iconst 0) ((xe_dup2).trans (congrArg (x_dup2) ((xe_iaload).trans (congrArg (x_iaload) ((xe_iconst 1).trans (congrArg (x_iconst 1) ((xe_fadd).trans (congrArg (x_fadd) ((xe_iastore).trans (congrArg (x_iastore) ((xe_aload 0).trans (congrArg (x_aload 0) ((xe_g2 (kk := 103) rfl tl_3_7).trans (congrArg (x_g2 103 467) ((xe_iconst 0).trans (congrArg (x_iconst 0) ((xe_iaload).trans (congrArg (x_iaload) ((xe_iconst 3).trans (congrArg (x_iconst 3) ((xe_if_icmp .ne 40).trans (congrArg (x_if_icmp .ne 40 K) ((xe_aload 0).trans (congrArg (x_aload 0) ((xe_g2 (kk := 103) rfl tl_3_7).trans (congrArg (x_g2 103 467) ((xe_iconst 0).trans (congrArg (x_iconst 0) xe_nil))))))))))))))))))))))))))))))))))
theorem bk_X3_countOut_e_40 : ck_ fX3 none cX3_countOut 40 [.return_] 41 = true := qck_r (nn_ _) (by decide +kernel)
theorem bs_X3_countOut_e_40 {P : Zt → Option Zv → Prop} (K : Int → Zl → List Zv → Zt → Prop) : sx_ K P [.return_] 41 = x_return_ P := (xe_return_)
theorem bk_X3_countOut_e_36 : ck_ fX3 none cX3_countOut 36 [.aload 0] 37 = true := qck_r (nn_ _) (by decide +kernel)
theorem bs_X3_countOut_e_36 {P : Zt → Option Zv → Prop} (K : Int → Zl → List Zv → Zt → Prop) : sx_ K P [.aload 0] 37 = x_aload 0 (K 37) := ((xe_aload 0).trans (congrArg (x_aload 0) xe_nil))
abbrev po_X3_countOut_e (T : Zt) (p : Int) (ru : Int → Int) : Zt → Option Zv → Prop := fun T' r => r = none ∧ fr_ [(103, [3, 4, 5]), (466, []), (467, [])] T T' ∧ (oi_ T T' p ∧ (T' 103 p 3 = 0 → 1 ≤ T' 470 p 0 ∧ 1 ≤ T' 470 p 1) ∧ rs9_ T' p = co9_ ru (rs9_ T p))
set_option maxHeartbeats 4000000 in
theorem ct_X3_countOut_e {T : Zt} {p : Int} {ru : Int → Int} (hr : RLP_ T p ru) (hfd : 1 ≤ T 470 p 0 ∧ 1 ≤ T 470 p 1) : Ct_ yX3_countOut zX3_countOut T [vR 103 p] (po_X3_countOut_e T p ru) := by
  refine ct_of pn_3 rfl rfl (Nat.le_of_ble_eq_true rfl) (fun hT hav => ?_)
  have hz : zX3_countOut.2.2.2.1 = some .boolean → ∀ (T' : Zt) (x : Int), po_X3_countOut_e T p ru T' (some (vI x)) → 0 ≤ x ∧ x ≤ 1 := fun h => by cases h
  have hr0 := hr 0 (by decide) (by decide)
  have hr9 := hr 9 (by decide) (by decide)
  have hr10 := hr 10 (by decide) (by decide)
  have hr11 := hr 11 (by decide) (by decide)
  have hr12 := hr 12 (by decide) (by decide)
  show J_ zX3_countOut T (po_X3_countOut_e T p ru) 0 0 0 [some (vR 103 p)] [] T
  refine j_blx (F := fX3) tb_X3 (nn_ _) bk_X3_countOut_e_0 bs_X3_countOut_e_0 hz (fun K hK => ?_)
  refine hK 5 _ [vI 0, vR 466 p] T ?_
  refine j_callS (y := yJ7_fill_53178) (Yc := zJ7_fill_53178) (rest := []) [vR 466 p, vI 0] (ct_J7_fill_466_e (T := T) (by omega)) cl_X3_62 (qd_c (by decide +kernel)) (nn_ _) rfl (rf_of rfl) (Nat.le_of_ble_eq_true rfl) (Nat.le_of_ble_eq_true rfl) (Nat.le_of_ble_eq_true rfl) rfl ?_
  rintro U1 _ ⟨rfl, fU1, qU1o, qU1, qU1e⟩
  show J_ zX3_countOut T (po_X3_countOut_e T p ru) 0 0 8 _ [] U1
  refine j_blx (F := fX3) tb_X3 (nn_ _) bk_X3_countOut_e_8 bs_X3_countOut_e_8 hz (fun K hK => ?_)
  refine ix_i (by omega) ?_
  intro b2 b2b
  have e3 : U1 467 p 0 = T 467 p 0 := fU1 467 p 0 rfl
  rw [e3] at b2 b2b ⊢
  intro w4 w4b
  refine iy_i (by omega) (by omega) ?_
  refine x_nm (fun U5 hU5 => ?_)
  have e6 := up_f hU5
  refine ix_i (by omega) ?_
  intro b7 b7b
  have e8 : U5 467 p 0 = wr_ ((T 467 p 0) + 1) := up_f hU5
  rw [e8] at b7 b7b ⊢
  refine And.intro (fun c9 => ?_) (fun c9 => ?_)
  · refine hK 40 _ [] U5 ?_
    refine j_blx (F := fX3) tb_X3 (nn_ _) bk_X3_countOut_e_40 bs_X3_countOut_e_40 hz (fun K hK => ?_)
    refine (show po_X3_countOut_e T p ru U5 (none) from ?_)
    have e10 : U5 103 p 3 = T 103 p 3 := (up_k hU5 (by exact Nat.ne_of_beq_eq_false rfl) p 3).trans (fU1 103 p 3 rfl)
    have e11 : U5 470 p 0 = T 470 p 0 := (up_k hU5 (by exact Nat.ne_of_beq_eq_false rfl) p 0).trans (fU1 470 p 0 rfl)
    have e12 : U5 470 p 1 = T 470 p 1 := (up_k hU5 (by exact Nat.ne_of_beq_eq_false rfl) p 1).trans (fU1 470 p 1 rfl)
    have g13 : U5 470 p 0 = T 470 p 0 := (up_k hU5 (by exact Nat.ne_of_beq_eq_false rfl) p 0).trans (fU1 470 p 0 rfl)
    have g14 : U5 470 p 1 = T 470 p 1 := (up_k hU5 (by exact Nat.ne_of_beq_eq_false rfl) p 1).trans (fU1 470 p 1 rfl)
    have e15 : U5 103 p 3 = T 103 p 3 := (up_k hU5 (by exact Nat.ne_of_beq_eq_false rfl) p 3).trans (fU1 103 p 3 rfl)
    have rU1 : rs9_ U1 p = fy2_ (rs9_ T p) 466 2 0 := qU1e
    have rU5 : rs9_ U5 p = u2_ (fy2_ (rs9_ T p) 466 2 0) 467 0 (wr_ ((T 467 p 0) + 1)) := by rw [rs_u hU5 rfl, rU1]
    exact ⟨rfl, fr_u (fr_t (fr_0 _ _) (fr_s fU1 rfl)) hU5 rfl, oi_u (oi_t (oi_r) qU1o) hU5, by exact fun _ => by omega, Eq.trans rU5 (co9__2 (r := ru) (a := (rs9_ T p)) (show ¬ (wr_ (T 467 p 0 + 1) = 3) by omega)).symm⟩
  · refine hK 33 _ [vI 0, vR 467 p] U5 ?_
    refine j_callS (y := yJ7_fill_53178) (Yc := zJ7_fill_53178) (rest := []) [vR 467 p, vI 0] (ct_J7_fill_467_e (T := U5) (by omega)) cl_X3_62 (qd_c (by decide +kernel)) (nn_ _) rfl (rf_of rfl) (Nat.le_of_ble_eq_true rfl) (Nat.le_of_ble_eq_true rfl) (Nat.le_of_ble_eq_true rfl) rfl ?_
    rintro U16 _ ⟨rfl, fU16, qU16o, qU16, qU16e⟩
    show J_ zX3_countOut T (po_X3_countOut_e T p ru) 0 0 36 _ [] U16
    refine j_blx (F := fX3) tb_X3 (nn_ _) bk_X3_countOut_e_36 bs_X3_countOut_e_36 hz (fun K hK => ?_)
    refine hK 37 _ [vR 103 p] U16 ?_
    have e17 : U16 470 p 0 = T 470 p 0 := (fU16 470 p 0 rfl).trans ((up_k hU5 (by exact Nat.ne_of_beq_eq_false rfl) p 0).trans (fU1 470 p 0 rfl))
    have e18 : U16 470 p 1 = T 470 p 1 := (fU16 470 p 1 rfl).trans ((up_k hU5 (by exact Nat.ne_of_beq_eq_false rfl) p 1).trans (fU1 470 p 1 rfl))
    refine j_callV (y := yX3_endHalf) (Yc := zX3_endHalf) (rest := []) [] (ct_X3_endHalf_e (T := U16) (ru := ru) (by exact rl_f (ws := [(467, []), (466, [])]) hr (fr_t (fr_u (fr_t (fr_0 _ _) (fr_s fU1 rfl)) hU5 rfl) (fr_s fU16 rfl)) rfl (fun _ => rfl)) (by omega)) cl_X3_151 (qd_c (by decide +kernel)) (nn_ _) rfl (rf_of rfl) (Nat.le_of_ble_eq_true rfl) (Nat.le_of_ble_eq_true rfl) (Nat.le_of_ble_eq_true rfl) rfl ?_
    rintro U19 _ ⟨rfl, fU19, qU19o, qU19, qU19e⟩
    show J_ zX3_countOut T (po_X3_countOut_e T p ru) 0 0 40 _ [] U19
    refine j_blx (F := fX3) tb_X3 (nn_ _) bk_X3_countOut_e_40 bs_X3_countOut_e_40 hz (fun K hK => ?_)
    refine (show po_X3_countOut_e T p ru U19 (none) from ?_)
    have e20 : U19 470 p 0 = T 470 p 0 := (fU19 470 p 0 rfl).trans ((fU16 470 p 0 rfl).trans ((up_k hU5 (by exact Nat.ne_of_beq_eq_false rfl) p 0).trans (fU1 470 p 0 rfl)))
    have e21 : U19 470 p 1 = T 470 p 1 := (fU19 470 p 1 rfl).trans ((fU16 470 p 1 rfl).trans ((up_k hU5 (by exact Nat.ne_of_beq_eq_false rfl) p 1).trans (fU1 470 p 1 rfl)))
    have g22 : U19 470 p 0 = T 470 p 0 := (fU19 470 p 0 rfl).trans ((fU16 470 p 0 rfl).trans ((up_k hU5 (by exact Nat.ne_of_beq_eq_false rfl) p 0).trans (fU1 470 p 0 rfl)))
    have g23 : U19 470 p 1 = T 470 p 1 := (fU19 470 p 1 rfl).trans ((fU16 470 p 1 rfl).trans ((up_k hU5 (by exact Nat.ne_of_beq_eq_false rfl) p 1).trans (fU1 470 p 1 rfl)))
    have rU1 : rs9_ U1 p = fy2_ (rs9_ T p) 466 2 0 := qU1e
    have rU5 : rs9_ U5 p = u2_ (fy2_ (rs9_ T p) 466 2 0) 467 0 (wr_ ((T 467 p 0) + 1)) := by rw [rs_u hU5 rfl, rU1]
    have rU16 : rs9_ U16 p = fy2_ (u2_ (fy2_ (rs9_ T p) 466 2 0) 467 0 (wr_ ((T 467 p 0) + 1))) 467 2 0 := by rw [qU16e, rU5]
    have rU19 : rs9_ U19 p = eh9_ ru (fy2_ (u2_ (fy2_ (rs9_ T p) 466 2 0) 467 0 (wr_ ((T 467 p 0) + 1))) 467 2 0) := by rw [qU19e, rU16]
    exact ⟨rfl, fr_t (fr_t (fr_u (fr_t (fr_0 _ _) (fr_s fU1 rfl)) hU5 rfl) (fr_s fU16 rfl)) (fr_s fU19 rfl), oi_t (oi_t (oi_u (oi_t (oi_r) qU1o) hU5) qU16o) qU19o, by exact fun _ => by omega, Eq.trans rU19 (co9__1 (r := ru) (a := (rs9_ T p)) (show wr_ (T 467 p 0 + 1) = 3 by omega)).symm⟩
theorem bk_X3_goOnBase_e_0 : ck_ fX3 none cX3_goOnBase 0 [.aload 0, .tableswitch 0 3 6 #[], .iconst 0] 5 = true := qck_r (nn_ _) (by decide +kernel)
theorem bs_X3_goOnBase_e_0 {P : Zt → Option Zv → Prop} (K : Int → Zl → List Zv → Zt → Prop) : sx_ K P [.aload 0, .tableswitch 0 3 6 #[], .iconst 0] 5 = x_aload 0 (x_g2 103 466 (x_iconst 0 (K 5))) := ((xe_aload 0).trans (congrArg (x_aload 0) ((xe_g2 (kk := 103) rfl tl_3_6).trans (congrArg (x_g2 103 466) ((xe_iconst 0).trans (congrArg (x_iconst 0) xe_nil))))))
theorem bk_X3_goOnBase_e_8 : ck_ fX3 none cX3_goOnBase 8 [.aload 0, .tableswitch 0 3 8 #[], .iload 1, .dup2, .iaload, .iload 2, .fadd, .iastore, .aload 0] 19 = true := qck_r (nn_ _) (by decide +kernel)
theorem bs_X3_goOnBase_e_8 {P : Zt → Option Zv → Prop} (K : Int → Zl → List Zv → Zt → Prop) : sx_ K P [.aload 0, .tableswitch 0 3 8 #[], .iload 1, .dup2, .iaload, .iload 2, .fadd, .iastore, .aload 0] 19 = x_aload 0 (x_g2 103 468 (x_iload 1 (x_dup2 (x_iaload (x_iload 2 (x_fadd (x_iastore (x_aload 0 (K 19))))))))) := ((xe_aload 0).trans (congrArg (x_aload 0) ((xe_g2 (kk := 103) rfl tl_3_8).trans (congrArg (x_g2 103 468) ((xe_iload 1).trans (congrArg (x_iload 1) ((xe_dup2).trans (congrArg (x_dup2) ((xe_iaload).trans (congrArg (x_iaload) ((xe_iload 2).trans (congrArg (x_iload 2) ((xe_fadd).trans (congrArg (x_fadd) ((xe_iastore).trans (congrArg (x_iastore) ((xe_aload 0).trans (congrArg (x_aload 0) xe_nil))))))))))))))))))
theorem bk_X3_goOnBase_e_22 : ck_ fX3 none cX3_goOnBase 22 [.ifCond .eq 49, .iload 1, .ifCond .ne 49, .aload 0, .tableswitch 0 3 8 #[], .iconst 0, .iaload, .aload 0, .tableswitch 0 3 8 #[], .iconst 1, .iaload, .if_icmp .le 49, .aload 0, .iconst 1, .tableswitch 1 3 3 #[], .return_] 50 = true := qck_r (nn_ _) (by decide +kernel)
theorem bs_X3_goOnBase_e_22 {P : Zt → Option Zv → Prop} (K : Int → Zl → List Zv → Zt → Prop) : sx_ K P [.ifCond .eq 49, .iload 1, .ifCond .ne 49, .aload 0, .tableswitch 0 3 8 #[], .iconst 0, .iaload, .aload 0, .tableswitch 0 3 8 #[], .iconst 1, .iaload, .if_icmp .le 49, .aload 0, .iconst 1, .tableswitch 1 3 3 #[], .return_] 50 = x_ifCond .eq 49 K (x_iload 1 (x_ifCond .ne 49 K (x_aload 0 (x_g2 103 468 (x_iconst 0 (x_iaload (x_aload 0 (x_g2 103 468 (x_iconst 1 (x_iaload (x_if_icmp .le 49 K (x_aload 0 (x_iconst 1 (x_p 103 3 0 1 (x_return_ P))))))))))))))) := ((xe_ifCond .eq 49).trans (congrArg (x_ifCond .eq 49 K) ((xe_iload 1).trans (congrArg (x_iload 1) ((xe_ifCond .ne 49).trans (congrArg (x_ifCond .ne 49 K) ((xe_aload 0).trans (congrArg (x_aload 0) ((xe_g2 (kk := 103) rfl tl_3_8).trans (congrArg (x_g2 103 468) ((xe_iconst 0).trans (congrArg (x_iconst 0) ((xe_iaload).trans (congrArg (x_iaload) ((xe_aload 0).trans (congrArg (x_aload 0) ((xe_g2 (kk := 103) rfl tl_3_8).trans (congrArg (x_g2 103 468) ((xe_iconst 1).trans (congrArg (x_iconst 1) ((xe_iaload).trans (congrArg (x_iaload) ((xe_if_icmp .le 49).trans (congrArg (x_if_icmp .le 49 K) ((xe_aload 0).trans (congrArg (x_aload 0) ((xe_iconst 1).trans (congrArg (x_iconst 1) ((xe_p (kk := 103) rfl tl_3_3).trans (congrArg (x_p 103 3 0 1) (xe_return_)))))))))))))))))))))))))))))))
theorem bk_X3_goOnBase_e_49 : ck_ fX3 none cX3_goOnBase 49 [.return_] 50 = true := qck_r (nn_ _) (by decide +kernel)
theorem bs_X3_goOnBase_e_49 {P : Zt → Option Zv → Prop} (K : Int → Zl → List Zv → Zt → Prop) : sx_ K P [.return_] 50 = x_return_ P := (xe_return_)
abbrev po_X3_goOnBase_e (T : Zt) (p : Int) (ru : Int → Int) (s v : Int) : Zt → Option Zv → Prop := fun T' r => r = none ∧ fr_ [(103, [3]), (466, []), (468, [])] T T' ∧ (oi_ T T' p ∧ (T' 103 p 3 = 0 → 1 ≤ T' 470 p 0 ∧ 1 ≤ T' 470 p 1) ∧ rs9_ T' p = gb9_ ru (rs9_ T p) s v)
set_option maxHeartbeats 4000000 in
theorem ct_X3_goOnBase_e {T : Zt} {p : Int} {ru : Int → Int} {s v : Int} (hr : RLP_ T p ru) (hs : 0 ≤ s ∧ s ≤ 1) (hfd : 1 ≤ T 470 p 0 ∧ 1 ≤ T 470 p 1) : Ct_ yX3_goOnBase zX3_goOnBase T [vR 103 p, vI s, vI v] (po_X3_goOnBase_e T p ru s v) := by
  refine ct_of pn_3 rfl rfl (Nat.le_of_ble_eq_true rfl) (fun hT hav => ?_)
  have hr_s : -2147483648 ≤ s ∧ s ≤ 2147483647 := hav (vI s) (List.mem_cons_of_mem _ List.mem_cons_self)
  have hr_v : -2147483648 ≤ v ∧ v ≤ 2147483647 := hav (vI v) (List.mem_cons_of_mem _ (List.mem_cons_of_mem _ List.mem_cons_self))
  have hz : zX3_goOnBase.2.2.2.1 = some .boolean → ∀ (T' : Zt) (x : Int), po_X3_goOnBase_e T p ru s v T' (some (vI x)) → 0 ≤ x ∧ x ≤ 1 := fun h => by cases h
  have hr0 := hr 0 (by decide) (by decide)
  have hr9 := hr 9 (by decide) (by decide)
  have hr10 := hr 10 (by decide) (by decide)
  have hr11 := hr 11 (by decide) (by decide)
  have hr12 := hr 12 (by decide) (by decide)
  show J_ zX3_goOnBase T (po_X3_goOnBase_e T p ru s v) 0 0 0 [some (vR 103 p), some (vI s), some (vI v)] [] T
  refine j_blx (F := fX3) tb_X3 (nn_ _) bk_X3_goOnBase_e_0 bs_X3_goOnBase_e_0 hz (fun K hK => ?_)
  refine hK 5 _ [vI 0, vR 466 p] T ?_
  refine j_callS (y := yJ7_fill_53178) (Yc := zJ7_fill_53178) (rest := []) [vR 466 p, vI 0] (ct_J7_fill_466_e (T := T) (by omega)) cl_X3_62 (qd_c (by decide +kernel)) (nn_ _) rfl (rf_of rfl) (Nat.le_of_ble_eq_true rfl) (Nat.le_of_ble_eq_true rfl) (Nat.le_of_ble_eq_true rfl) rfl ?_
  rintro U1 _ ⟨rfl, fU1, qU1o, qU1, qU1e⟩
  show J_ zX3_goOnBase T (po_X3_goOnBase_e T p ru s v) 0 0 8 _ [] U1
  refine j_blx (F := fX3) tb_X3 (nn_ _) bk_X3_goOnBase_e_8 bs_X3_goOnBase_e_8 hz (fun K hK => ?_)
  refine ix_i (by omega) ?_
  intro b2 b2b
  have e3 : U1 468 p s = T 468 p s := fU1 468 p s rfl
  rw [e3] at b2 b2b ⊢
  intro w4 w4b
  refine iy_i (by omega) (by omega) ?_
  refine x_nm (fun U5 hU5 => ?_)
  have e6 := up_f hU5
  refine hK 19 _ [vR 103 p] U5 ?_
  have e7 : U5 103 p 4 = T 103 p 4 := (up_k hU5 (by exact Nat.ne_of_beq_eq_false rfl) p 4).trans (fU1 103 p 4 rfl)
  refine j_callV (y := yX3_isLastInning) (Yc := zX3_isLastInning) (rest := []) [] (ct_X3_isLastInning_e (T := U5) (ru := ru) (by exact rl_f (ws := [(468, []), (466, [])]) hr (fr_u (fr_t (fr_0 _ _) (fr_s fU1 rfl)) hU5 rfl) rfl (fun _ => rfl))) cl_X3_147 (qd_c (by decide +kernel)) (nn_ _) rfl (rf_of rfl) (Nat.le_of_ble_eq_true rfl) (Nat.le_of_ble_eq_true rfl) (Nat.le_of_ble_eq_true rfl) rfl ?_
  rintro _ _ ⟨rfl, x8, rfl, hx8⟩
  show J_ zX3_goOnBase T (po_X3_goOnBase_e T p ru s v) 0 0 22 _ [vI x8] U5
  refine j_blx (F := fX3) tb_X3 (nn_ _) bk_X3_goOnBase_e_22 bs_X3_goOnBase_e_22 hz (fun K hK => ?_)
  refine And.intro (fun c9 => ?_) (fun c9 => ?_)
  · replace hx8 := hx8.resolve_left (fun z => absurd (c9.symm.trans z.1) (by decide))
    clear c9
    refine hK 49 _ [] U5 ?_
    refine j_blx (F := fX3) tb_X3 (nn_ _) bk_X3_goOnBase_e_49 bs_X3_goOnBase_e_49 hz (fun K hK => ?_)
    refine (show po_X3_goOnBase_e T p ru s v U5 (none) from ?_)
    have e10 : U5 103 p 3 = T 103 p 3 := (up_k hU5 (by exact Nat.ne_of_beq_eq_false rfl) p 3).trans (fU1 103 p 3 rfl)
    have e11 : U5 470 p 0 = T 470 p 0 := (up_k hU5 (by exact Nat.ne_of_beq_eq_false rfl) p 0).trans (fU1 470 p 0 rfl)
    have e12 : U5 470 p 1 = T 470 p 1 := (up_k hU5 (by exact Nat.ne_of_beq_eq_false rfl) p 1).trans (fU1 470 p 1 rfl)
    have g13 : U5 470 p 0 = T 470 p 0 := (up_k hU5 (by exact Nat.ne_of_beq_eq_false rfl) p 0).trans (fU1 470 p 0 rfl)
    have g14 : U5 470 p 1 = T 470 p 1 := (up_k hU5 (by exact Nat.ne_of_beq_eq_false rfl) p 1).trans (fU1 470 p 1 rfl)
    have e15 : U5 103 p 3 = T 103 p 3 := (up_k hU5 (by exact Nat.ne_of_beq_eq_false rfl) p 3).trans (fU1 103 p 3 rfl)
    have rU1 : rs9_ U1 p = fy2_ (rs9_ T p) 466 2 0 := qU1e
    have rU5 : rs9_ U5 p = u2_ (fy2_ (rs9_ T p) 466 2 0) 468 s (wr_ ((T 468 p s) + v)) := by rw [rs_u hU5 rfl, rU1]
    exact ⟨rfl, fr_u (fr_t (fr_0 _ _) (fr_s fU1 rfl)) hU5 rfl, oi_u (oi_t (oi_r) qU1o) hU5, by exact fun _ => by omega, Eq.trans rU5 (gb9__2 (r := ru) (a := (rs9_ T p)) (s := s) (v := v) (show ¬ (wr_ (ru 11 - 1) ≤ T 103 p 4 ∧ s = 0 ∧ T 468 p 1 < wr_ (T 468 p 0 + v)) by omega)).symm⟩
  · replace hx8 := hx8.resolve_right (fun z => c9 z.1)
    clear c9
    refine And.intro (fun c16 => ?_) (fun c16 => ?_)
    · refine hK 49 _ [] U5 ?_
      refine j_blx (F := fX3) tb_X3 (nn_ _) bk_X3_goOnBase_e_49 bs_X3_goOnBase_e_49 hz (fun K hK => ?_)
      refine (show po_X3_goOnBase_e T p ru s v U5 (none) from ?_)
      have e17 : U5 103 p 3 = T 103 p 3 := (up_k hU5 (by exact Nat.ne_of_beq_eq_false rfl) p 3).trans (fU1 103 p 3 rfl)
      have e18 : U5 470 p 0 = T 470 p 0 := (up_k hU5 (by exact Nat.ne_of_beq_eq_false rfl) p 0).trans (fU1 470 p 0 rfl)
      have e19 : U5 470 p 1 = T 470 p 1 := (up_k hU5 (by exact Nat.ne_of_beq_eq_false rfl) p 1).trans (fU1 470 p 1 rfl)
      have g20 : U5 470 p 0 = T 470 p 0 := (up_k hU5 (by exact Nat.ne_of_beq_eq_false rfl) p 0).trans (fU1 470 p 0 rfl)
      have g21 : U5 470 p 1 = T 470 p 1 := (up_k hU5 (by exact Nat.ne_of_beq_eq_false rfl) p 1).trans (fU1 470 p 1 rfl)
      have e22 : U5 103 p 3 = T 103 p 3 := (up_k hU5 (by exact Nat.ne_of_beq_eq_false rfl) p 3).trans (fU1 103 p 3 rfl)
      have rU1 : rs9_ U1 p = fy2_ (rs9_ T p) 466 2 0 := qU1e
      have rU5 : rs9_ U5 p = u2_ (fy2_ (rs9_ T p) 466 2 0) 468 s (wr_ ((T 468 p s) + v)) := by rw [rs_u hU5 rfl, rU1]
      exact ⟨rfl, fr_u (fr_t (fr_0 _ _) (fr_s fU1 rfl)) hU5 rfl, oi_u (oi_t (oi_r) qU1o) hU5, by exact fun _ => by omega, Eq.trans rU5 (gb9__2 (r := ru) (a := (rs9_ T p)) (s := s) (v := v) (show ¬ (wr_ (ru 11 - 1) ≤ T 103 p 4 ∧ s = 0 ∧ T 468 p 1 < wr_ (T 468 p 0 + v)) by omega)).symm⟩
    · refine ix_i (by omega) ?_
      intro b23 b23b
      refine ix_i (by omega) ?_
      intro b24 b24b
      have y0 : U5 468 p 0 = wr_ (T 468 p 0 + v) := by have y := up_f hU5; rw [show s = 0 by omega] at y; exact y
      have y1 : U5 468 p 1 = T 468 p 1 := (up_g hU5 (by omega)).trans (fU1 468 p 1 rfl)
      refine And.intro (fun c25 => ?_) (fun c25 => ?_)
      · refine hK 49 _ [] U5 ?_
        refine j_blx (F := fX3) tb_X3 (nn_ _) bk_X3_goOnBase_e_49 bs_X3_goOnBase_e_49 hz (fun K hK => ?_)
        refine (show po_X3_goOnBase_e T p ru s v U5 (none) from ?_)
        have e26 : U5 103 p 3 = T 103 p 3 := (up_k hU5 (by exact Nat.ne_of_beq_eq_false rfl) p 3).trans (fU1 103 p 3 rfl)
        have e27 : U5 470 p 0 = T 470 p 0 := (up_k hU5 (by exact Nat.ne_of_beq_eq_false rfl) p 0).trans (fU1 470 p 0 rfl)
        have e28 : U5 470 p 1 = T 470 p 1 := (up_k hU5 (by exact Nat.ne_of_beq_eq_false rfl) p 1).trans (fU1 470 p 1 rfl)
        have g29 : U5 470 p 0 = T 470 p 0 := (up_k hU5 (by exact Nat.ne_of_beq_eq_false rfl) p 0).trans (fU1 470 p 0 rfl)
        have g30 : U5 470 p 1 = T 470 p 1 := (up_k hU5 (by exact Nat.ne_of_beq_eq_false rfl) p 1).trans (fU1 470 p 1 rfl)
        have e31 : U5 103 p 3 = T 103 p 3 := (up_k hU5 (by exact Nat.ne_of_beq_eq_false rfl) p 3).trans (fU1 103 p 3 rfl)
        have rU1 : rs9_ U1 p = fy2_ (rs9_ T p) 466 2 0 := qU1e
        have rU5 : rs9_ U5 p = u2_ (fy2_ (rs9_ T p) 466 2 0) 468 s (wr_ ((T 468 p s) + v)) := by rw [rs_u hU5 rfl, rU1]
        exact ⟨rfl, fr_u (fr_t (fr_0 _ _) (fr_s fU1 rfl)) hU5 rfl, oi_u (oi_t (oi_r) qU1o) hU5, by exact fun _ => by omega, Eq.trans rU5 (gb9__2 (r := ru) (a := (rs9_ T p)) (s := s) (v := v) (show ¬ (wr_ (ru 11 - 1) ≤ T 103 p 4 ∧ s = 0 ∧ T 468 p 1 < wr_ (T 468 p 0 + v)) by omega)).symm⟩
      · refine bd_i (by omega) ?_
        refine x_nm (fun U32 hU32 => ?_)
        have e33 := up_f hU32
        refine (show po_X3_goOnBase_e T p ru s v U32 (none) from ?_)
        have e34 : U32 103 p 3 = 1 := up_f hU32
        have e35 : U32 470 p 0 = T 470 p 0 := (up_k hU32 (by exact Nat.ne_of_beq_eq_false rfl) p 0).trans ((up_k hU5 (by exact Nat.ne_of_beq_eq_false rfl) p 0).trans (fU1 470 p 0 rfl))
        have e36 : U32 470 p 1 = T 470 p 1 := (up_k hU32 (by exact Nat.ne_of_beq_eq_false rfl) p 1).trans ((up_k hU5 (by exact Nat.ne_of_beq_eq_false rfl) p 1).trans (fU1 470 p 1 rfl))
        have g37 : U32 470 p 0 = T 470 p 0 := (up_k hU32 (by exact Nat.ne_of_beq_eq_false rfl) p 0).trans ((up_k hU5 (by exact Nat.ne_of_beq_eq_false rfl) p 0).trans (fU1 470 p 0 rfl))
        have g38 : U32 470 p 1 = T 470 p 1 := (up_k hU32 (by exact Nat.ne_of_beq_eq_false rfl) p 1).trans ((up_k hU5 (by exact Nat.ne_of_beq_eq_false rfl) p 1).trans (fU1 470 p 1 rfl))
        have e39 : U32 103 p 3 = 1 := up_f hU32
        have rU1 : rs9_ U1 p = fy2_ (rs9_ T p) 466 2 0 := qU1e
        have rU5 : rs9_ U5 p = u2_ (fy2_ (rs9_ T p) 466 2 0) 468 s (wr_ ((T 468 p s) + v)) := by rw [rs_u hU5 rfl, rU1]
        have rU32 : rs9_ U32 p = u2_ (u2_ (fy2_ (rs9_ T p) 466 2 0) 468 s (wr_ ((T 468 p s) + v))) 103 3 1 := by rw [rs_u hU32 rfl, rU5]
        exact ⟨rfl, fr_u (fr_u (fr_t (fr_0 _ _) (fr_s fU1 rfl)) hU5 rfl) hU32 rfl, oi_u (oi_u (oi_t (oi_r) qU1o) hU5) hU32, by exact fun _ => by omega, Eq.trans rU32 (gb9__1 (r := ru) (a := (rs9_ T p)) (s := s) (v := v) (show wr_ (ru 11 - 1) ≤ T 103 p 4 ∧ s = 0 ∧ T 468 p 1 < wr_ (T 468 p 0 + v) by omega)).symm⟩
theorem bk_X3_walk_e_0 : ck_ fX3 none cX3_walk 0 [.aload 0, .tableswitch 0 3 7 #[], .iconst 1, .iaload, .istore 2, .aload 0, .tableswitch 0 3 7 #[], .iconst 1, .iload 2, .iconst 1, .iand, .ifCond .ne 24, .iload 2, .iconst 1, .ior, .goto 38] 24 = true := qck_r (nn_ _) (by decide +kernel)
theorem bs_X3_walk_e_0 {P : Zt → Option Zv → Prop} (K : Int → Zl → List Zv → Zt → Prop) : sx_ K P [.aload 0, .tableswitch 0 3 7 #[], .iconst 1, .iaload, .istore 2, .aload 0, .tableswitch 0 3 7 #[], .iconst 1, .iload 2, .iconst 1, .iand, .ifCond .ne 24, .iload 2, .iconst 1, .ior, .goto 38] 24 = x_aload 0 (x_g2 103 467 (x_iconst 1 (x_iaload (x_istore 2 (x_aload 0 (x_g2 103 467 (x_iconst 1 (x_iload 2 (x_iconst 1 (x_iand (x_ifCond .ne 24 K (x_iload 2 (x_iconst 1 (x_ior (x_goto 38 K))))))))))))))) := ((xe_aload 0).trans (congrArg (x_aload 0) ((xe_g2 (kk := 103) rfl tl_3_7).trans (congrArg (x_g2 103 467) ((xe_iconst 1).trans (congrArg (x_iconst 1) ((xe_iaload).trans (congrArg (x_iaload) ((xe_istore 2).trans (congrArg (x_istore 2) ((xe_aload 0).trans (congrArg (x_aload 0) ((xe_g2 (kk := 103) rfl tl_3_7).trans (congrArg (x_g2 103 467) ((xe_iconst 1).trans (congrArg (x_iconst 1) ((xe_iload 2).trans (congrArg (x_iload 2) ((xe_iconst 1).trans (congrArg (x_iconst 1) ((xe_iand).trans (congrArg (x_iand) ((xe_ifCond .ne 24).trans (congrArg (x_ifCond .ne 24 K) ((xe_iload 2).trans (congrArg (x_iload 2) ((xe_iconst 1).trans (congrArg (x_iconst 1) ((xe_ior).trans (congrArg (x_ior) (xe_goto 38)))))))))))))))))))))))))))))))
theorem bk_X3_walk_e_24 : ck_ fX3 none cX3_walk 24 [.iload 2, .iconst 2, .iand, .ifCond .ne 36, .iload 2, .iconst 2, .ior, .goto 38] 36 = true := qck_r (nn_ _) (by decide +kernel)
theorem bs_X3_walk_e_24 {P : Zt → Option Zv → Prop} (K : Int → Zl → List Zv → Zt → Prop) : sx_ K P [.iload 2, .iconst 2, .iand, .ifCond .ne 36, .iload 2, .iconst 2, .ior, .goto 38] 36 = x_iload 2 (x_iconst 2 (x_iand (x_ifCond .ne 36 K (x_iload 2 (x_iconst 2 (x_ior (x_goto 38 K))))))) := ((xe_iload 2).trans (congrArg (x_iload 2) ((xe_iconst 2).trans (congrArg (x_iconst 2) ((xe_iand).trans (congrArg (x_iand) ((xe_ifCond .ne 36).trans (congrArg (x_ifCond .ne 36 K) ((xe_iload 2).trans (congrArg (x_iload 2) ((xe_iconst 2).trans (congrArg (x_iconst 2) ((xe_ior).trans (congrArg (x_ior) (xe_goto 38)))))))))))))))
theorem bk_X3_walk_e_36 : ck_ fX3 none cX3_walk 36 [.iconst 7, .iastore, .aload 0, .iload 1, .iload 2, .iconst 7, .if_icmp .ne 51, .iconst 1, .goto 52] 51 = true := qck_r (nn_ _) (by decide +kernel)
theorem bs_X3_walk_e_36 {P : Zt → Option Zv → Prop} (K : Int → Zl → List Zv → Zt → Prop) : sx_ K P [.iconst 7, .iastore, .aload 0, .iload 1, .iload 2, .iconst 7, .if_icmp .ne 51, .iconst 1, .goto 52] 51 = x_iconst 7 (x_iastore (x_aload 0 (x_iload 1 (x_iload 2 (x_iconst 7 (x_if_icmp .ne 51 K (x_iconst 1 (x_goto 52 K)))))))) := ((xe_iconst 7).trans (congrArg (x_iconst 7) ((xe_iastore).trans (congrArg (x_iastore) ((xe_aload 0).trans (congrArg (x_aload 0) ((xe_iload 1).trans (congrArg (x_iload 1) ((xe_iload 2).trans (congrArg (x_iload 2) ((xe_iconst 7).trans (congrArg (x_iconst 7) ((xe_if_icmp .ne 51).trans (congrArg (x_if_icmp .ne 51 K) ((xe_iconst 1).trans (congrArg (x_iconst 1) (xe_goto 52)))))))))))))))))
theorem bk_X3_walk_e_51 : ck_ fX3 none cX3_walk 51 [.iconst 0] 52 = true := qck_r (nn_ _) (by decide +kernel)
theorem bs_X3_walk_e_51 {P : Zt → Option Zv → Prop} (K : Int → Zl → List Zv → Zt → Prop) : sx_ K P [.iconst 0] 52 = x_iconst 0 (K 52) := ((xe_iconst 0).trans (congrArg (x_iconst 0) xe_nil))
theorem bk_X3_walk_e_55 : ck_ fX3 none cX3_walk 55 [.return_] 56 = true := qck_r (nn_ _) (by decide +kernel)
theorem bs_X3_walk_e_55 {P : Zt → Option Zv → Prop} (K : Int → Zl → List Zv → Zt → Prop) : sx_ K P [.return_] 56 = x_return_ P := (xe_return_)
theorem bk_X3_walk_e_38 : ck_ fX3 none cX3_walk 38 [.iastore, .aload 0, .iload 1, .iload 2, .iconst 7, .if_icmp .ne 51, .iconst 1, .goto 52] 51 = true := qck_r (nn_ _) (by decide +kernel)
theorem bs_X3_walk_e_38 {P : Zt → Option Zv → Prop} (K : Int → Zl → List Zv → Zt → Prop) : sx_ K P [.iastore, .aload 0, .iload 1, .iload 2, .iconst 7, .if_icmp .ne 51, .iconst 1, .goto 52] 51 = x_iastore (x_aload 0 (x_iload 1 (x_iload 2 (x_iconst 7 (x_if_icmp .ne 51 K (x_iconst 1 (x_goto 52 K))))))) := ((xe_iastore).trans (congrArg (x_iastore) ((xe_aload 0).trans (congrArg (x_aload 0) ((xe_iload 1).trans (congrArg (x_iload 1) ((xe_iload 2).trans (congrArg (x_iload 2) ((xe_iconst 7).trans (congrArg (x_iconst 7) ((xe_if_icmp .ne 51).trans (congrArg (x_if_icmp .ne 51 K) ((xe_iconst 1).trans (congrArg (x_iconst 1) (xe_goto 52)))))))))))))))
abbrev po_X3_walk_e (T : Zt) (p : Int) (ru : Int → Int) (s : Int) : Zt → Option Zv → Prop := fun T' r => r = none ∧ fr_ [(103, [3]), (466, []), (468, []), (467, [])] T T' ∧ (oi_ T T' p ∧ (T' 103 p 3 = 0 → 1 ≤ T' 470 p 0 ∧ 1 ≤ T' 470 p 1) ∧ rs9_ T' p = wk9_ ru (rs9_ T p) s)
set_option maxHeartbeats 4000000 in
theorem ct_X3_walk_e {T : Zt} {p : Int} {ru : Int → Int} {s : Int} (hr : RLP_ T p ru) (hs : 0 ≤ s ∧ s ≤ 1) (hfd : 1 ≤ T 470 p 0 ∧ 1 ≤ T 470 p 1) : Ct_ yX3_walk zX3_walk T [vR 103 p, vI s] (po_X3_walk_e T p ru s) := by
  refine ct_of pn_3 rfl rfl (Nat.le_of_ble_eq_true rfl) (fun hT hav => ?_)
  have hr_s : -2147483648 ≤ s ∧ s ≤ 2147483647 := hav (vI s) (List.mem_cons_of_mem _ List.mem_cons_self)
  have hz : zX3_walk.2.2.2.1 = some .boolean → ∀ (T' : Zt) (x : Int), po_X3_walk_e T p ru s T' (some (vI x)) → 0 ≤ x ∧ x ≤ 1 := fun h => by cases h
  have hr0 := hr 0 (by decide) (by decide)
  have hr9 := hr 9 (by decide) (by decide)
  have hr10 := hr 10 (by decide) (by decide)
  have hr11 := hr 11 (by decide) (by decide)
  have hr12 := hr 12 (by decide) (by decide)
  show J_ zX3_walk T (po_X3_walk_e T p ru s) 0 0 0 [some (vR 103 p), some (vI s), none] [] T
  refine j_blx (F := fX3) tb_X3 (nn_ _) bk_X3_walk_e_0 bs_X3_walk_e_0 hz (fun K hK => ?_)
  refine ix_i (by omega) ?_
  intro b1 b1b
  intro w2 w2b
  refine And.intro (fun c3 => ?_) (fun c3 => ?_)
  · refine hK 24 [some (vR 103 p), some (vI s), some (vI (T 467 p 1))] [vI 1, vR 467 p] T ?_
    refine j_blx (F := fX3) tb_X3 (nn_ _) bk_X3_walk_e_24 bs_X3_walk_e_24 hz (fun K hK => ?_)
    intro w4 w4b
    refine And.intro (fun c5 => ?_) (fun c5 => ?_)
    · refine hK 36 _ [vI 1, vR 467 p] T ?_
      refine j_blx (F := fX3) tb_X3 (nn_ _) bk_X3_walk_e_36 bs_X3_walk_e_36 hz (fun K hK => ?_)
      refine iy_i (by omega) (by omega) ?_
      refine x_nm (fun U6 hU6 => ?_)
      have e7 := up_f hU6
      refine And.intro (fun c8 => ?_) (fun c8 => ?_)
      · refine hK 51 _ [vI s, vR 103 p] U6 ?_
        refine j_blx (F := fX3) tb_X3 (nn_ _) bk_X3_walk_e_51 bs_X3_walk_e_51 hz (fun K hK => ?_)
        refine hK 52 _ [vI 0, vI s, vR 103 p] U6 ?_
        have e9 : U6 470 p 0 = T 470 p 0 := up_k hU6 (by exact Nat.ne_of_beq_eq_false rfl) p 0
        have e10 : U6 470 p 1 = T 470 p 1 := up_k hU6 (by exact Nat.ne_of_beq_eq_false rfl) p 1
        refine j_callV (y := yX3_goOnBase) (Yc := zX3_goOnBase) (rest := []) [vI s, vI 0] (ct_X3_goOnBase_e (T := U6) (ru := ru) (by exact rl_f (ws := [(467, [])]) hr (fr_u (fr_0 _ _) hU6 rfl) rfl (fun _ => rfl)) (by omega) (by omega)) cl_X3_144 (qd_c (by decide +kernel)) (nn_ _) rfl (rf_of rfl) (Nat.le_of_ble_eq_true rfl) (Nat.le_of_ble_eq_true rfl) (Nat.le_of_ble_eq_true rfl) rfl ?_
        rintro U11 _ ⟨rfl, fU11, qU11o, qU11, qU11e⟩
        show J_ zX3_walk T (po_X3_walk_e T p ru s) 0 0 55 _ [] U11
        refine j_blx (F := fX3) tb_X3 (nn_ _) bk_X3_walk_e_55 bs_X3_walk_e_55 hz (fun K hK => ?_)
        refine (show po_X3_walk_e T p ru s U11 (none) from ?_)
        have e12 : U11 470 p 0 = T 470 p 0 := (fU11 470 p 0 rfl).trans (up_k hU6 (by exact Nat.ne_of_beq_eq_false rfl) p 0)
        have e13 : U11 470 p 1 = T 470 p 1 := (fU11 470 p 1 rfl).trans (up_k hU6 (by exact Nat.ne_of_beq_eq_false rfl) p 1)
        have g14 : U11 470 p 0 = T 470 p 0 := (fU11 470 p 0 rfl).trans (up_k hU6 (by exact Nat.ne_of_beq_eq_false rfl) p 0)
        have g15 : U11 470 p 1 = T 470 p 1 := (fU11 470 p 1 rfl).trans (up_k hU6 (by exact Nat.ne_of_beq_eq_false rfl) p 1)
        have rU6 : rs9_ U6 p = u2_ (rs9_ T p) 467 1 7 := rs_u hU6 rfl
        have rU11 : rs9_ U11 p = gb9_ ru (u2_ (rs9_ T p) 467 1 7) s 0 := by rw [qU11e, rU6]
        exact ⟨rfl, fr_t (fr_u (fr_0 _ _) hU6 rfl) (fr_s fU11 rfl), oi_t (oi_u (oi_r) hU6) qU11o, by exact fun _ => by omega, Eq.trans rU11 (wk9__6 (r := ru) (a := (rs9_ T p)) (s := s) (show ¬ (an_ (T 467 p 1) 1 = 0) by omega) (show ¬ (an_ (T 467 p 1) 2 = 0) by omega) (show ¬ (T 467 p 1 = 7) by omega)).symm⟩
      · refine hK 52 _ [vI 1, vI s, vR 103 p] U6 ?_
        have e16 : U6 470 p 0 = T 470 p 0 := up_k hU6 (by exact Nat.ne_of_beq_eq_false rfl) p 0
        have e17 : U6 470 p 1 = T 470 p 1 := up_k hU6 (by exact Nat.ne_of_beq_eq_false rfl) p 1
        refine j_callV (y := yX3_goOnBase) (Yc := zX3_goOnBase) (rest := []) [vI s, vI 1] (ct_X3_goOnBase_e (T := U6) (ru := ru) (by exact rl_f (ws := [(467, [])]) hr (fr_u (fr_0 _ _) hU6 rfl) rfl (fun _ => rfl)) (by omega) (by omega)) cl_X3_144 (qd_c (by decide +kernel)) (nn_ _) rfl (rf_of rfl) (Nat.le_of_ble_eq_true rfl) (Nat.le_of_ble_eq_true rfl) (Nat.le_of_ble_eq_true rfl) rfl ?_
        rintro U18 _ ⟨rfl, fU18, qU18o, qU18, qU18e⟩
        show J_ zX3_walk T (po_X3_walk_e T p ru s) 0 0 55 _ [] U18
        refine j_blx (F := fX3) tb_X3 (nn_ _) bk_X3_walk_e_55 bs_X3_walk_e_55 hz (fun K hK => ?_)
        refine (show po_X3_walk_e T p ru s U18 (none) from ?_)
        have e19 : U18 470 p 0 = T 470 p 0 := (fU18 470 p 0 rfl).trans (up_k hU6 (by exact Nat.ne_of_beq_eq_false rfl) p 0)
        have e20 : U18 470 p 1 = T 470 p 1 := (fU18 470 p 1 rfl).trans (up_k hU6 (by exact Nat.ne_of_beq_eq_false rfl) p 1)
        have g21 : U18 470 p 0 = T 470 p 0 := (fU18 470 p 0 rfl).trans (up_k hU6 (by exact Nat.ne_of_beq_eq_false rfl) p 0)
        have g22 : U18 470 p 1 = T 470 p 1 := (fU18 470 p 1 rfl).trans (up_k hU6 (by exact Nat.ne_of_beq_eq_false rfl) p 1)
        have rU6 : rs9_ U6 p = u2_ (rs9_ T p) 467 1 7 := rs_u hU6 rfl
        have rU18 : rs9_ U18 p = gb9_ ru (u2_ (rs9_ T p) 467 1 7) s 1 := by rw [qU18e, rU6]
        exact ⟨rfl, fr_t (fr_u (fr_0 _ _) hU6 rfl) (fr_s fU18 rfl), oi_t (oi_u (oi_r) hU6) qU18o, by exact fun _ => by omega, Eq.trans rU18 (wk9__5 (r := ru) (a := (rs9_ T p)) (s := s) (show ¬ (an_ (T 467 p 1) 1 = 0) by omega) (show ¬ (an_ (T 467 p 1) 2 = 0) by omega) (show T 467 p 1 = 7 by omega)).symm⟩
    · intro w23 w23b
      refine hK 38 _ [vI (or_ (T 467 p 1) 2), vI 1, vR 467 p] T ?_
      refine j_blx (F := fX3) tb_X3 (nn_ _) bk_X3_walk_e_38 bs_X3_walk_e_38 hz (fun K hK => ?_)
      refine iy_i (by omega) (by omega) ?_
      refine x_nm (fun U24 hU24 => ?_)
      have e25 := up_f hU24
      refine And.intro (fun c26 => ?_) (fun c26 => ?_)
      · refine hK 51 _ [vI s, vR 103 p] U24 ?_
        refine j_blx (F := fX3) tb_X3 (nn_ _) bk_X3_walk_e_51 bs_X3_walk_e_51 hz (fun K hK => ?_)
        refine hK 52 _ [vI 0, vI s, vR 103 p] U24 ?_
        have e27 : U24 470 p 0 = T 470 p 0 := up_k hU24 (by exact Nat.ne_of_beq_eq_false rfl) p 0
        have e28 : U24 470 p 1 = T 470 p 1 := up_k hU24 (by exact Nat.ne_of_beq_eq_false rfl) p 1
        refine j_callV (y := yX3_goOnBase) (Yc := zX3_goOnBase) (rest := []) [vI s, vI 0] (ct_X3_goOnBase_e (T := U24) (ru := ru) (by exact rl_f (ws := [(467, [])]) hr (fr_u (fr_0 _ _) hU24 rfl) rfl (fun _ => rfl)) (by omega) (by omega)) cl_X3_144 (qd_c (by decide +kernel)) (nn_ _) rfl (rf_of rfl) (Nat.le_of_ble_eq_true rfl) (Nat.le_of_ble_eq_true rfl) (Nat.le_of_ble_eq_true rfl) rfl ?_
        rintro U29 _ ⟨rfl, fU29, qU29o, qU29, qU29e⟩
        show J_ zX3_walk T (po_X3_walk_e T p ru s) 0 0 55 _ [] U29
        refine j_blx (F := fX3) tb_X3 (nn_ _) bk_X3_walk_e_55 bs_X3_walk_e_55 hz (fun K hK => ?_)
        refine (show po_X3_walk_e T p ru s U29 (none) from ?_)
        have e30 : U29 470 p 0 = T 470 p 0 := (fU29 470 p 0 rfl).trans (up_k hU24 (by exact Nat.ne_of_beq_eq_false rfl) p 0)
        have e31 : U29 470 p 1 = T 470 p 1 := (fU29 470 p 1 rfl).trans (up_k hU24 (by exact Nat.ne_of_beq_eq_false rfl) p 1)
        have g32 : U29 470 p 0 = T 470 p 0 := (fU29 470 p 0 rfl).trans (up_k hU24 (by exact Nat.ne_of_beq_eq_false rfl) p 0)
        have g33 : U29 470 p 1 = T 470 p 1 := (fU29 470 p 1 rfl).trans (up_k hU24 (by exact Nat.ne_of_beq_eq_false rfl) p 1)
        have rU24 : rs9_ U24 p = u2_ (rs9_ T p) 467 1 (or_ (T 467 p 1) 2) := rs_u hU24 rfl
        have rU29 : rs9_ U29 p = gb9_ ru (u2_ (rs9_ T p) 467 1 (or_ (T 467 p 1) 2)) s 0 := by rw [qU29e, rU24]
        exact ⟨rfl, fr_t (fr_u (fr_0 _ _) hU24 rfl) (fr_s fU29 rfl), oi_t (oi_u (oi_r) hU24) qU29o, by exact fun _ => by omega, Eq.trans rU29 (wk9__4 (r := ru) (a := (rs9_ T p)) (s := s) (show ¬ (an_ (T 467 p 1) 1 = 0) by omega) (show an_ (T 467 p 1) 2 = 0 by omega) (show ¬ (T 467 p 1 = 7) by omega)).symm⟩
      · refine hK 52 _ [vI 1, vI s, vR 103 p] U24 ?_
        have e34 : U24 470 p 0 = T 470 p 0 := up_k hU24 (by exact Nat.ne_of_beq_eq_false rfl) p 0
        have e35 : U24 470 p 1 = T 470 p 1 := up_k hU24 (by exact Nat.ne_of_beq_eq_false rfl) p 1
        refine j_callV (y := yX3_goOnBase) (Yc := zX3_goOnBase) (rest := []) [vI s, vI 1] (ct_X3_goOnBase_e (T := U24) (ru := ru) (by exact rl_f (ws := [(467, [])]) hr (fr_u (fr_0 _ _) hU24 rfl) rfl (fun _ => rfl)) (by omega) (by omega)) cl_X3_144 (qd_c (by decide +kernel)) (nn_ _) rfl (rf_of rfl) (Nat.le_of_ble_eq_true rfl) (Nat.le_of_ble_eq_true rfl) (Nat.le_of_ble_eq_true rfl) rfl ?_
        rintro U36 _ ⟨rfl, fU36, qU36o, qU36, qU36e⟩
        show J_ zX3_walk T (po_X3_walk_e T p ru s) 0 0 55 _ [] U36
        refine j_blx (F := fX3) tb_X3 (nn_ _) bk_X3_walk_e_55 bs_X3_walk_e_55 hz (fun K hK => ?_)
        refine (show po_X3_walk_e T p ru s U36 (none) from ?_)
        have e37 : U36 470 p 0 = T 470 p 0 := (fU36 470 p 0 rfl).trans (up_k hU24 (by exact Nat.ne_of_beq_eq_false rfl) p 0)
        have e38 : U36 470 p 1 = T 470 p 1 := (fU36 470 p 1 rfl).trans (up_k hU24 (by exact Nat.ne_of_beq_eq_false rfl) p 1)
        have g39 : U36 470 p 0 = T 470 p 0 := (fU36 470 p 0 rfl).trans (up_k hU24 (by exact Nat.ne_of_beq_eq_false rfl) p 0)
        have g40 : U36 470 p 1 = T 470 p 1 := (fU36 470 p 1 rfl).trans (up_k hU24 (by exact Nat.ne_of_beq_eq_false rfl) p 1)
        have rU24 : rs9_ U24 p = u2_ (rs9_ T p) 467 1 (or_ (T 467 p 1) 2) := rs_u hU24 rfl
        have rU36 : rs9_ U36 p = gb9_ ru (u2_ (rs9_ T p) 467 1 (or_ (T 467 p 1) 2)) s 1 := by rw [qU36e, rU24]
        exact ⟨rfl, fr_t (fr_u (fr_0 _ _) hU24 rfl) (fr_s fU36 rfl), oi_t (oi_u (oi_r) hU24) qU36o, by exact fun _ => by omega, Eq.trans rU36 (wk9__3 (r := ru) (a := (rs9_ T p)) (s := s) (show ¬ (an_ (T 467 p 1) 1 = 0) by omega) (show an_ (T 467 p 1) 2 = 0 by omega) (show T 467 p 1 = 7 by omega)).symm⟩
  · intro w41 w41b
    refine hK 38 _ [vI (or_ (T 467 p 1) 1), vI 1, vR 467 p] T ?_
    refine j_blx (F := fX3) tb_X3 (nn_ _) bk_X3_walk_e_38 bs_X3_walk_e_38 hz (fun K hK => ?_)
    refine iy_i (by omega) (by omega) ?_
    refine x_nm (fun U42 hU42 => ?_)
    have e43 := up_f hU42
    refine And.intro (fun c44 => ?_) (fun c44 => ?_)
    · refine hK 51 _ [vI s, vR 103 p] U42 ?_
      refine j_blx (F := fX3) tb_X3 (nn_ _) bk_X3_walk_e_51 bs_X3_walk_e_51 hz (fun K hK => ?_)
      refine hK 52 _ [vI 0, vI s, vR 103 p] U42 ?_
      have e45 : U42 470 p 0 = T 470 p 0 := up_k hU42 (by exact Nat.ne_of_beq_eq_false rfl) p 0
      have e46 : U42 470 p 1 = T 470 p 1 := up_k hU42 (by exact Nat.ne_of_beq_eq_false rfl) p 1
      refine j_callV (y := yX3_goOnBase) (Yc := zX3_goOnBase) (rest := []) [vI s, vI 0] (ct_X3_goOnBase_e (T := U42) (ru := ru) (by exact rl_f (ws := [(467, [])]) hr (fr_u (fr_0 _ _) hU42 rfl) rfl (fun _ => rfl)) (by omega) (by omega)) cl_X3_144 (qd_c (by decide +kernel)) (nn_ _) rfl (rf_of rfl) (Nat.le_of_ble_eq_true rfl) (Nat.le_of_ble_eq_true rfl) (Nat.le_of_ble_eq_true rfl) rfl ?_
      rintro U47 _ ⟨rfl, fU47, qU47o, qU47, qU47e⟩
      show J_ zX3_walk T (po_X3_walk_e T p ru s) 0 0 55 _ [] U47
      refine j_blx (F := fX3) tb_X3 (nn_ _) bk_X3_walk_e_55 bs_X3_walk_e_55 hz (fun K hK => ?_)
      refine (show po_X3_walk_e T p ru s U47 (none) from ?_)
      have e48 : U47 470 p 0 = T 470 p 0 := (fU47 470 p 0 rfl).trans (up_k hU42 (by exact Nat.ne_of_beq_eq_false rfl) p 0)
      have e49 : U47 470 p 1 = T 470 p 1 := (fU47 470 p 1 rfl).trans (up_k hU42 (by exact Nat.ne_of_beq_eq_false rfl) p 1)
      have g50 : U47 470 p 0 = T 470 p 0 := (fU47 470 p 0 rfl).trans (up_k hU42 (by exact Nat.ne_of_beq_eq_false rfl) p 0)
      have g51 : U47 470 p 1 = T 470 p 1 := (fU47 470 p 1 rfl).trans (up_k hU42 (by exact Nat.ne_of_beq_eq_false rfl) p 1)
      have rU42 : rs9_ U42 p = u2_ (rs9_ T p) 467 1 (or_ (T 467 p 1) 1) := rs_u hU42 rfl
      have rU47 : rs9_ U47 p = gb9_ ru (u2_ (rs9_ T p) 467 1 (or_ (T 467 p 1) 1)) s 0 := by rw [qU47e, rU42]
      exact ⟨rfl, fr_t (fr_u (fr_0 _ _) hU42 rfl) (fr_s fU47 rfl), oi_t (oi_u (oi_r) hU42) qU47o, by exact fun _ => by omega, Eq.trans rU47 (wk9__2 (r := ru) (a := (rs9_ T p)) (s := s) (show an_ (T 467 p 1) 1 = 0 by omega) (show ¬ (T 467 p 1 = 7) by omega)).symm⟩
    · refine hK 52 _ [vI 1, vI s, vR 103 p] U42 ?_
      have e52 : U42 470 p 0 = T 470 p 0 := up_k hU42 (by exact Nat.ne_of_beq_eq_false rfl) p 0
      have e53 : U42 470 p 1 = T 470 p 1 := up_k hU42 (by exact Nat.ne_of_beq_eq_false rfl) p 1
      refine j_callV (y := yX3_goOnBase) (Yc := zX3_goOnBase) (rest := []) [vI s, vI 1] (ct_X3_goOnBase_e (T := U42) (ru := ru) (by exact rl_f (ws := [(467, [])]) hr (fr_u (fr_0 _ _) hU42 rfl) rfl (fun _ => rfl)) (by omega) (by omega)) cl_X3_144 (qd_c (by decide +kernel)) (nn_ _) rfl (rf_of rfl) (Nat.le_of_ble_eq_true rfl) (Nat.le_of_ble_eq_true rfl) (Nat.le_of_ble_eq_true rfl) rfl ?_
      rintro U54 _ ⟨rfl, fU54, qU54o, qU54, qU54e⟩
      show J_ zX3_walk T (po_X3_walk_e T p ru s) 0 0 55 _ [] U54
      refine j_blx (F := fX3) tb_X3 (nn_ _) bk_X3_walk_e_55 bs_X3_walk_e_55 hz (fun K hK => ?_)
      refine (show po_X3_walk_e T p ru s U54 (none) from ?_)
      have e55 : U54 470 p 0 = T 470 p 0 := (fU54 470 p 0 rfl).trans (up_k hU42 (by exact Nat.ne_of_beq_eq_false rfl) p 0)
      have e56 : U54 470 p 1 = T 470 p 1 := (fU54 470 p 1 rfl).trans (up_k hU42 (by exact Nat.ne_of_beq_eq_false rfl) p 1)
      have g57 : U54 470 p 0 = T 470 p 0 := (fU54 470 p 0 rfl).trans (up_k hU42 (by exact Nat.ne_of_beq_eq_false rfl) p 0)
      have g58 : U54 470 p 1 = T 470 p 1 := (fU54 470 p 1 rfl).trans (up_k hU42 (by exact Nat.ne_of_beq_eq_false rfl) p 1)
      have rU42 : rs9_ U42 p = u2_ (rs9_ T p) 467 1 (or_ (T 467 p 1) 1) := rs_u hU42 rfl
      have rU54 : rs9_ U54 p = gb9_ ru (u2_ (rs9_ T p) 467 1 (or_ (T 467 p 1) 1)) s 1 := by rw [qU54e, rU42]
      exact ⟨rfl, fr_t (fr_u (fr_0 _ _) hU42 rfl) (fr_s fU54 rfl), oi_t (oi_u (oi_r) hU42) qU54o, by exact fun _ => by omega, Eq.trans rU54 (wk9__1 (r := ru) (a := (rs9_ T p)) (s := s) (show an_ (T 467 p 1) 1 = 0 by omega) (show T 467 p 1 = 7 by omega)).symm⟩
theorem bk_X3_hit_e_0 : ck_ fX3 none cX3_hit 0 [.aload 0, .tableswitch 0 3 7 #[], .iconst 1, .iaload, .iload 2, .ishl, .iconst 1, .iload 2, .iconst 1, .fsub, .ishl, .ior, .istore 3, .aload 0, .tableswitch 0 3 7 #[], .iconst 1, .iload 3, .iconst 7, .iand, .iastore, .aload 0, .iload 1, .iload 3, .iconst 3, .ishr] 30 = true := qck_r (nn_ _) (by decide +kernel)
theorem bs_X3_hit_e_0 {P : Zt → Option Zv → Prop} (K : Int → Zl → List Zv → Zt → Prop) : sx_ K P [.aload 0, .tableswitch 0 3 7 #[], .iconst 1, .iaload, .iload 2, .ishl, .iconst 1, .iload 2, .iconst 1, .fsub, .ishl, .ior, .istore 3, .aload 0, .tableswitch 0 3 7 #[], .iconst 1, .iload 3, .iconst 7, .iand, .iastore, .aload 0, .iload 1, .iload 3, .iconst 3, .ishr] 30 = x_aload 0 (x_g2 103 467 (x_iconst 1 (x_iaload (x_iload 2 (x_ishl (x_iconst 1 (x_iload 2 (x_iconst 1 (x_fsub (x_ishl (x_ior (x_istore 3 (x_aload 0 (x_g2 103 467 (x_iconst 1 (x_iload 3 (x_iconst 7 (x_iand (x_iastore (x_aload 0 (x_iload 1 (x_iload 3 (x_iconst 3 (x_ishr (K 30))))))))))))))))))))))))) := ((xe_aload 0).trans (congrArg (x_aload 0) ((xe_g2 (kk := 103) rfl tl_3_7).trans (congrArg (x_g2 103 467) ((xe_iconst 1).trans (congrArg (x_iconst 1) ((xe_iaload).trans (congrArg (x_iaload) ((xe_iload 2).trans (congrArg (x_iload 2) ((xe_ishl).trans (congrArg (x_ishl) ((xe_iconst 1).trans (congrArg (x_iconst 1) ((xe_iload 2).trans (congrArg (x_iload 2) ((xe_iconst 1).trans (congrArg (x_iconst 1) ((xe_fsub).trans (congrArg (x_fsub) ((xe_ishl).trans (congrArg (x_ishl) ((xe_ior).trans (congrArg (x_ior) ((xe_istore 3).trans (congrArg (x_istore 3) ((xe_aload 0).trans (congrArg (x_aload 0) ((xe_g2 (kk := 103) rfl tl_3_7).trans (congrArg (x_g2 103 467) ((xe_iconst 1).trans (congrArg (x_iconst 1) ((xe_iload 3).trans (congrArg (x_iload 3) ((xe_iconst 7).trans (congrArg (x_iconst 7) ((xe_iand).trans (congrArg (x_iand) ((xe_iastore).trans (congrArg (x_iastore) ((xe_aload 0).trans (congrArg (x_aload 0) ((xe_iload 1).trans (congrArg (x_iload 1) ((xe_iload 3).trans (congrArg (x_iload 3) ((xe_iconst 3).trans (congrArg (x_iconst 3) ((xe_ishr).trans (congrArg (x_ishr) xe_nil))))))))))))))))))))))))))))))))))))))))))))))))))
theorem bk_X3_hit_e_36 : ck_ fX3 none cX3_hit 36 [.return_] 37 = true := qck_r (nn_ _) (by decide +kernel)
theorem bs_X3_hit_e_36 {P : Zt → Option Zv → Prop} (K : Int → Zl → List Zv → Zt → Prop) : sx_ K P [.return_] 37 = x_return_ P := (xe_return_)
abbrev po_X3_hit_e (T : Zt) (p : Int) (ru : Int → Int) (s v : Int) : Zt → Option Zv → Prop := fun T' r => r = none ∧ fr_ [(103, [3]), (466, []), (468, []), (467, [])] T T' ∧ (oi_ T T' p ∧ (T' 103 p 3 = 0 → 1 ≤ T' 470 p 0 ∧ 1 ≤ T' 470 p 1) ∧ rs9_ T' p = ht9_ ru (rs9_ T p) s v)
set_option maxHeartbeats 4000000 in
theorem ct_X3_hit_e {T : Zt} {p : Int} {ru : Int → Int} {s v : Int} (hr : RLP_ T p ru) (hs : 0 ≤ s ∧ s ≤ 1) (hfd : 1 ≤ T 470 p 0 ∧ 1 ≤ T 470 p 1) : Ct_ yX3_hit zX3_hit T [vR 103 p, vI s, vI v] (po_X3_hit_e T p ru s v) := by
  refine ct_of pn_3 rfl rfl (Nat.le_of_ble_eq_true rfl) (fun hT hav => ?_)
  have hr_s : -2147483648 ≤ s ∧ s ≤ 2147483647 := hav (vI s) (List.mem_cons_of_mem _ List.mem_cons_self)
  have hr_v : -2147483648 ≤ v ∧ v ≤ 2147483647 := hav (vI v) (List.mem_cons_of_mem _ (List.mem_cons_of_mem _ List.mem_cons_self))
  have hz : zX3_hit.2.2.2.1 = some .boolean → ∀ (T' : Zt) (x : Int), po_X3_hit_e T p ru s v T' (some (vI x)) → 0 ≤ x ∧ x ≤ 1 := fun h => by cases h
  have hr0 := hr 0 (by decide) (by decide)
  have hr9 := hr 9 (by decide) (by decide)
  have hr10 := hr 10 (by decide) (by decide)
  have hr11 := hr 11 (by decide) (by decide)
  have hr12 := hr 12 (by decide) (by decide)
  show J_ zX3_hit T (po_X3_hit_e T p ru s v) 0 0 0 [some (vR 103 p), some (vI s), some (vI v), none] [] T
  refine j_blx (F := fX3) tb_X3 (nn_ _) bk_X3_hit_e_0 bs_X3_hit_e_0 hz (fun K hK => ?_)
  refine ix_i (by omega) ?_
  intro b1 b1b
  intro w2 w2b
  intro w3 w3b
  intro w4 w4b
  intro w5 w5b
  intro w6 w6b
  refine iy_i (by omega) (by omega) ?_
  refine x_nm (fun U7 hU7 => ?_)
  have e8 := up_f hU7
  intro w9 w9b
  refine hK 30 [some (vR 103 p), some (vI s), some (vI v), some (vI (or_ (sl_ (T 467 p 1) v) (sl_ 1 (wr_ (v - 1)))))] [vI (sr_ (or_ (sl_ (T 467 p 1) v) (sl_ 1 (wr_ (v - 1)))) 3), vI s, vR 103 p] U7 ?_
  refine j_callS (y := yJ6_bitCount_0f7a4) (Yc := zJ6_bitCount_0f7a4) (rest := [vI s, vR 103 p]) [vI (sr_ (or_ (sl_ (T 467 p 1) v) (sl_ 1 (wr_ (v - 1)))) 3)] (ct_J6_bitCount_e (T := U7)) cl_X3_138 (qd_c (by decide +kernel)) (nn_ _) rfl (rf_of rfl) (Nat.le_of_ble_eq_true rfl) (Nat.le_of_ble_eq_true rfl) (Nat.le_of_ble_eq_true rfl) rfl ?_
  rintro _ _ ⟨rfl, rfl⟩
  show J_ zX3_hit T (po_X3_hit_e T p ru s v) 0 0 33 _ [vI (bc9_ (sr_ (or_ (sl_ (T 467 p 1) v) (sl_ 1 (wr_ (v - 1)))) 3)), vI s, vR 103 p] U7
  have e10 : U7 470 p 0 = T 470 p 0 := up_k hU7 (by exact Nat.ne_of_beq_eq_false rfl) p 0
  have e11 : U7 470 p 1 = T 470 p 1 := up_k hU7 (by exact Nat.ne_of_beq_eq_false rfl) p 1
  refine j_callV (y := yX3_goOnBase) (Yc := zX3_goOnBase) (rest := []) [vI s, vI (bc9_ (sr_ (or_ (sl_ (T 467 p 1) v) (sl_ 1 (wr_ (v - 1)))) 3))] (ct_X3_goOnBase_e (T := U7) (ru := ru) (by exact rl_f (ws := [(467, [])]) hr (fr_u (fr_0 _ _) hU7 rfl) rfl (fun _ => rfl)) (by omega) (by omega)) cl_X3_144 (qd_c (by decide +kernel)) (nn_ _) rfl (rf_of rfl) (Nat.le_of_ble_eq_true rfl) (Nat.le_of_ble_eq_true rfl) (Nat.le_of_ble_eq_true rfl) rfl ?_
  rintro U12 _ ⟨rfl, fU12, qU12o, qU12, qU12e⟩
  show J_ zX3_hit T (po_X3_hit_e T p ru s v) 0 0 36 _ [] U12
  refine j_blx (F := fX3) tb_X3 (nn_ _) bk_X3_hit_e_36 bs_X3_hit_e_36 hz (fun K hK => ?_)
  refine (show po_X3_hit_e T p ru s v U12 (none) from ?_)
  have e13 : U12 470 p 0 = T 470 p 0 := (fU12 470 p 0 rfl).trans (up_k hU7 (by exact Nat.ne_of_beq_eq_false rfl) p 0)
  have e14 : U12 470 p 1 = T 470 p 1 := (fU12 470 p 1 rfl).trans (up_k hU7 (by exact Nat.ne_of_beq_eq_false rfl) p 1)
  have g15 : U12 470 p 0 = T 470 p 0 := (fU12 470 p 0 rfl).trans (up_k hU7 (by exact Nat.ne_of_beq_eq_false rfl) p 0)
  have g16 : U12 470 p 1 = T 470 p 1 := (fU12 470 p 1 rfl).trans (up_k hU7 (by exact Nat.ne_of_beq_eq_false rfl) p 1)
  have rU7 : rs9_ U7 p = u2_ (rs9_ T p) 467 1 (an_ (or_ (sl_ (T 467 p 1) v) (sl_ 1 (wr_ (v - 1)))) 7) := rs_u hU7 rfl
  have rU12 : rs9_ U12 p = gb9_ ru (u2_ (rs9_ T p) 467 1 (an_ (or_ (sl_ (T 467 p 1) v) (sl_ 1 (wr_ (v - 1)))) 7)) s (bc9_ (sr_ (or_ (sl_ (T 467 p 1) v) (sl_ 1 (wr_ (v - 1)))) 3)) := by rw [qU12e, rU7]
  exact ⟨rfl, fr_t (fr_u (fr_0 _ _) hU7 rfl) (fr_s fU12 rfl), oi_t (oi_u (oi_r) hU7) qU12o, by exact fun _ => by omega, Eq.trans rU12 (ht9__1 (r := ru) (a := (rs9_ T p)) (s := s) (v := v)).symm⟩
theorem bk_X3_playBaseball_e_0 : ck_ fX3 none cX3_playBaseball 0 [.iload 1] 1 = true := qck_r (nn_ _) (by decide +kernel)
theorem bs_X3_playBaseball_e_0 {P : Zt → Option Zv → Prop} (K : Int → Zl → List Zv → Zt → Prop) : sx_ K P [.iload 1] 1 = x_iload 1 (K 1) := ((xe_iload 1).trans (congrArg (x_iload 1) xe_nil))
theorem bk_X3_playBaseball_e_28 : ck_ fX3 none cX3_playBaseball 28 [.aload 0, .iload 2, .iload 3] 31 = true := qck_r (nn_ _) (by decide +kernel)
theorem bs_X3_playBaseball_e_28 {P : Zt → Option Zv → Prop} (K : Int → Zl → List Zv → Zt → Prop) : sx_ K P [.aload 0, .iload 2, .iload 3] 31 = x_aload 0 (x_iload 2 (x_iload 3 (K 31))) := ((xe_aload 0).trans (congrArg (x_aload 0) ((xe_iload 2).trans (congrArg (x_iload 2) ((xe_iload 3).trans (congrArg (x_iload 3) xe_nil))))))
theorem bk_X3_playBaseball_e_34 : ck_ fX3 none cX3_playBaseball 34 [.goto 96] 37 = true := qck_r (nn_ _) (by decide +kernel)
theorem bs_X3_playBaseball_e_34 {P : Zt → Option Zv → Prop} (K : Int → Zl → List Zv → Zt → Prop) : sx_ K P [.goto 96] 37 = x_goto 96 K := (xe_goto 96)
theorem bk_X3_playBaseball_e_96 : ck_ fX3 none cX3_playBaseball 96 [.return_] 97 = true := qck_r (nn_ _) (by decide +kernel)
theorem bs_X3_playBaseball_e_96 {P : Zt → Option Zv → Prop} (K : Int → Zl → List Zv → Zt → Prop) : sx_ K P [.return_] 97 = x_return_ P := (xe_return_)
theorem bk_X3_playBaseball_e_37 : ck_ fX3 none cX3_playBaseball 37 [.aload 0, .tableswitch 0 3 6 #[], .iconst 0, .dup2, .iaload, .iconst 1, .fadd, .iastore, .aload 0, .tableswitch 0 3 6 #[], .iconst 0, .iaload, .iconst 4, .if_icmp .ne 96, .aload 0, .iload 2] 59 = true := qck_r (nn_ _) (by decide +kernel)
theorem bs_X3_playBaseball_e_37 {P : Zt → Option Zv → Prop} (K : Int → Zl → List Zv → Zt → Prop) : sx_ K P [.aload 0, .tableswitch 0 3 6 #[], .iconst 0, .dup2, .iaload, .iconst 1, .fadd, .iastore, .aload 0, .tableswitch 0 3 6 #[], .iconst 0, .iaload, .iconst 4, .if_icmp .ne 96, .aload 0, .iload 2] 59 = x_aload 0 (x_g2 103 466 (x_iconst 0 (x_dup2 (x_iaload (x_iconst 1 (x_fadd (x_iastore (x_aload 0 (x_g2 103 466 (x_iconst 0 (x_iaload (x_iconst 4 (x_if_icmp .ne 96 K (x_aload 0 (x_iload 2 (K 59)))))))))))))))) := ((xe_aload 0).trans (congrArg (x_aload 0) ((xe_g2 (kk := 103) rfl tl_3_6).trans (congrArg (x_g2 103 466) ((xe_iconst 0).trans (congrArg (x_iconst 0) ((xe_dup2).trans (congrArg (x_dup2) ((xe_iaload).trans (congrArg (x_iaload) ((xe_iconst 1).trans (congrArg (x_iconst 1) ((xe_fadd).trans (congrArg (x_fadd) ((xe_iastore).trans (congrArg (x_iastore) ((xe_aload 0).trans (congrArg (x_aload 0) ((xe_g2 (kk := 103) rfl tl_3_6).trans (congrArg (x_g2 103 466) ((xe_iconst 0).trans (congrArg (x_iconst 0) ((xe_iaload).trans (congrArg (x_iaload) ((xe_iconst 4).trans (congrArg (x_iconst 4) ((xe_if_icmp .ne 96).trans (congrArg (x_if_icmp .ne 96 K) ((xe_aload 0).trans (congrArg (x_aload 0) ((xe_iload 2).trans (congrArg (x_iload 2) xe_nil))))))))))))))))))))))))))))))))
theorem bk_X3_playBaseball_e_62 : ck_ fX3 none cX3_playBaseball 62 [.goto 96] 65 = true := qck_r (nn_ _) (by decide +kernel)
theorem bs_X3_playBaseball_e_62 {P : Zt → Option Zv → Prop} (K : Int → Zl → List Zv → Zt → Prop) : sx_ K P [.goto 96] 65 = x_goto 96 K := (xe_goto 96)
theorem bk_X3_playBaseball_e_65 : ck_ fX3 none cX3_playBaseball 65 [.aload 0, .tableswitch 0 3 6 #[], .iconst 1, .dup2, .iaload, .iconst 1, .fadd, .iastore, .aload 0, .tableswitch 0 3 6 #[], .iconst 1, .iaload, .iconst 3, .if_icmp .ne 96, .aload 0] 86 = true := qck_r (nn_ _) (by decide +kernel)
theorem bs_X3_playBaseball_e_65 {P : Zt → Option Zv → Prop} (K : Int → Zl → List Zv → Zt → Prop) : sx_ K P [.aload 0, .tableswitch 0 3 6 #[], .iconst 1, .dup2, .iaload, .iconst 1, .fadd, .iastore, .aload 0, .tableswitch 0 3 6 #[], .iconst 1, .iaload, .iconst 3, .if_icmp .ne 96, .aload 0] 86 = x_aload 0 (x_g2 103 466 (x_iconst 1 (x_dup2 (x_iaload (x_iconst 1 (x_fadd (x_iastore (x_aload 0 (x_g2 103 466 (x_iconst 1 (x_iaload (x_iconst 3 (x_if_icmp .ne 96 K (x_aload 0 (K 86))))))))))))))) := ((xe_aload 0).trans (congrArg (x_aload 0) ((xe_g2 (kk := 103) rfl tl_3_6).trans (congrArg (x_g2 103 466) ((xe_iconst 1).trans (congrArg (x_iconst 1) ((xe_dup2).trans (congrArg (x_dup2) ((xe_iaload).trans (congrArg (x_iaload) ((xe_iconst 1).trans (congrArg (x_iconst 1) ((xe_fadd).trans (congrArg (x_fadd) ((xe_iastore).trans (congrArg (x_iastore) ((xe_aload 0).trans (congrArg (x_aload 0) ((xe_g2 (kk := 103) rfl tl_3_6).trans (congrArg (x_g2 103 466) ((xe_iconst 1).trans (congrArg (x_iconst 1) ((xe_iaload).trans (congrArg (x_iaload) ((xe_iconst 3).trans (congrArg (x_iconst 3) ((xe_if_icmp .ne 96).trans (congrArg (x_if_icmp .ne 96 K) ((xe_aload 0).trans (congrArg (x_aload 0) xe_nil))))))))))))))))))))))))))))))
theorem bk_X3_playBaseball_e_89 : ck_ fX3 none cX3_playBaseball 89 [.goto 96] 92 = true := qck_r (nn_ _) (by decide +kernel)
theorem bs_X3_playBaseball_e_89 {P : Zt → Option Zv → Prop} (K : Int → Zl → List Zv → Zt → Prop) : sx_ K P [.goto 96] 92 = x_goto 96 K := (xe_goto 96)
theorem bk_X3_playBaseball_e_92 : ck_ fX3 none cX3_playBaseball 92 [.aload 0] 93 = true := qck_r (nn_ _) (by decide +kernel)
theorem bs_X3_playBaseball_e_92 {P : Zt → Option Zv → Prop} (K : Int → Zl → List Zv → Zt → Prop) : sx_ K P [.aload 0] 93 = x_aload 0 (K 93) := ((xe_aload 0).trans (congrArg (x_aload 0) xe_nil))
abbrev po_X3_playBaseball_e (T : Zt) (p : Int) (ru : Int → Int) (k s v : Int) : Zt → Option Zv → Prop := fun T' r => r = none ∧ fr_ [(103, [3, 4, 5]), (466, []), (467, []), (468, [])] T T' ∧ (oi_ T T' p ∧ (T' 103 p 3 = 0 → 1 ≤ T' 470 p 0 ∧ 1 ≤ T' 470 p 1) ∧ rs9_ T' p = pbb9_ ru (rs9_ T p) k s v)
set_option maxHeartbeats 4000000 in
theorem ct_X3_playBaseball_e {T : Zt} {p : Int} {ru : Int → Int} {k s v : Int} (hr : RLP_ T p ru) (hs : 0 ≤ s ∧ s ≤ 1) (hfd : 1 ≤ T 470 p 0 ∧ 1 ≤ T 470 p 1) : Ct_ yX3_playBaseball zX3_playBaseball T [vR 103 p, vI k, vI s, vI v] (po_X3_playBaseball_e T p ru k s v) := by
  refine ct_of pn_3 rfl rfl (Nat.le_of_ble_eq_true rfl) (fun hT hav => ?_)
  have hr_k : -2147483648 ≤ k ∧ k ≤ 2147483647 := hav (vI k) (List.mem_cons_of_mem _ List.mem_cons_self)
  have hr_s : -2147483648 ≤ s ∧ s ≤ 2147483647 := hav (vI s) (List.mem_cons_of_mem _ (List.mem_cons_of_mem _ List.mem_cons_self))
  have hr_v : -2147483648 ≤ v ∧ v ≤ 2147483647 := hav (vI v) (List.mem_cons_of_mem _ (List.mem_cons_of_mem _ (List.mem_cons_of_mem _ List.mem_cons_self)))
  have hz : zX3_playBaseball.2.2.2.1 = some .boolean → ∀ (T' : Zt) (x : Int), po_X3_playBaseball_e T p ru k s v T' (some (vI x)) → 0 ≤ x ∧ x ≤ 1 := fun h => by cases h
  have hr0 := hr 0 (by decide) (by decide)
  have hr9 := hr 9 (by decide) (by decide)
  have hr10 := hr 10 (by decide) (by decide)
  have hr11 := hr 11 (by decide) (by decide)
  have hr12 := hr 12 (by decide) (by decide)
  show J_ zX3_playBaseball T (po_X3_playBaseball_e T p ru k s v) 0 0 0 [some (vR 103 p), some (vI k), some (vI s), some (vI v)] [] T
  refine j_blx (F := fX3) tb_X3 (nn_ _) bk_X3_playBaseball_e_0 bs_X3_playBaseball_e_0 hz (fun K hK => ?_)
  refine hK 1 _ [vI k] T ?_
  by_cases z1_0 : k = 1
  · refine j_tsI (pc := 1) 0 (off := 27) (tgt := 28) (by decide) ds_X3_playBaseball_1 (by omega) (by decide) rfl (by decide) (by decide) ?_
    refine j_blx (F := fX3) tb_X3 (nn_ _) bk_X3_playBaseball_e_28 bs_X3_playBaseball_e_28 hz (fun K hK => ?_)
    refine hK 31 _ [vI v, vI s, vR 103 p] T ?_
    refine j_callV (y := yX3_hit) (Yc := zX3_hit) (rest := []) [vI s, vI v] (ct_X3_hit_e (T := T) (ru := ru) (by exact hr) (by omega) (by omega)) cl_X3_129 (qd_c (by decide +kernel)) (nn_ _) rfl (rf_of rfl) (Nat.le_of_ble_eq_true rfl) (Nat.le_of_ble_eq_true rfl) (Nat.le_of_ble_eq_true rfl) rfl ?_
    rintro U2 _ ⟨rfl, fU2, qU2o, qU2, qU2e⟩
    show J_ zX3_playBaseball T (po_X3_playBaseball_e T p ru k s v) 0 0 34 _ [] U2
    refine j_blx (F := fX3) tb_X3 (nn_ _) bk_X3_playBaseball_e_34 bs_X3_playBaseball_e_34 hz (fun K hK => ?_)
    refine hK 96 _ [] U2 ?_
    refine j_blx (F := fX3) tb_X3 (nn_ _) bk_X3_playBaseball_e_96 bs_X3_playBaseball_e_96 hz (fun K hK => ?_)
    refine (show po_X3_playBaseball_e T p ru k s v U2 (none) from ?_)
    have e3 : U2 470 p 0 = T 470 p 0 := fU2 470 p 0 rfl
    have e4 : U2 470 p 1 = T 470 p 1 := fU2 470 p 1 rfl
    have g5 : U2 470 p 0 = T 470 p 0 := fU2 470 p 0 rfl
    have g6 : U2 470 p 1 = T 470 p 1 := fU2 470 p 1 rfl
    have rU2 : rs9_ U2 p = ht9_ ru (rs9_ T p) s v := qU2e
    exact ⟨rfl, fr_t (fr_0 _ _) (fr_s fU2 rfl), oi_t (oi_r) qU2o, by exact fun _ => by omega, Eq.trans rU2 (pbb9__1 (r := ru) (a := (rs9_ T p)) (k := k) (s := s) (v := v) (show k = 1 by omega)).symm⟩
  by_cases z1_1 : k = 2
  · refine j_tsI (pc := 1) 1 (off := 36) (tgt := 37) (by decide) ds_X3_playBaseball_1 (by omega) (by decide) rfl (by decide) (by decide) ?_
    refine j_blx (F := fX3) tb_X3 (nn_ _) bk_X3_playBaseball_e_37 bs_X3_playBaseball_e_37 hz (fun K hK => ?_)
    refine ix_i (by omega) ?_
    intro b7 b7b
    intro w8 w8b
    refine iy_i (by omega) (by omega) ?_
    refine x_nm (fun U9 hU9 => ?_)
    have e10 := up_f hU9
    refine ix_i (by omega) ?_
    intro b11 b11b
    have e12 : U9 466 p 0 = wr_ ((T 466 p 0) + 1) := up_f hU9
    rw [e12] at b11 b11b ⊢
    refine And.intro (fun c13 => ?_) (fun c13 => ?_)
    · refine hK 96 _ [] U9 ?_
      refine j_blx (F := fX3) tb_X3 (nn_ _) bk_X3_playBaseball_e_96 bs_X3_playBaseball_e_96 hz (fun K hK => ?_)
      refine (show po_X3_playBaseball_e T p ru k s v U9 (none) from ?_)
      have e14 : U9 103 p 3 = T 103 p 3 := up_k hU9 (by exact Nat.ne_of_beq_eq_false rfl) p 3
      have e15 : U9 470 p 0 = T 470 p 0 := up_k hU9 (by exact Nat.ne_of_beq_eq_false rfl) p 0
      have e16 : U9 470 p 1 = T 470 p 1 := up_k hU9 (by exact Nat.ne_of_beq_eq_false rfl) p 1
      have g17 : U9 470 p 0 = T 470 p 0 := up_k hU9 (by exact Nat.ne_of_beq_eq_false rfl) p 0
      have g18 : U9 470 p 1 = T 470 p 1 := up_k hU9 (by exact Nat.ne_of_beq_eq_false rfl) p 1
      have e19 : U9 103 p 3 = T 103 p 3 := up_k hU9 (by exact Nat.ne_of_beq_eq_false rfl) p 3
      have rU9 : rs9_ U9 p = u2_ (rs9_ T p) 466 0 (wr_ ((T 466 p 0) + 1)) := rs_u hU9 rfl
      exact ⟨rfl, fr_u (fr_0 _ _) hU9 rfl, oi_u (oi_r) hU9, by exact fun _ => by omega, Eq.trans rU9 (pbb9__3 (r := ru) (a := (rs9_ T p)) (k := k) (s := s) (v := v) (show ¬ (k = 1) by omega) (show k = 2 by omega) (show ¬ (wr_ (T 466 p 0 + 1) = 4) by omega)).symm⟩
    · refine hK 59 _ [vI s, vR 103 p] U9 ?_
      have e20 : U9 470 p 0 = T 470 p 0 := up_k hU9 (by exact Nat.ne_of_beq_eq_false rfl) p 0
      have e21 : U9 470 p 1 = T 470 p 1 := up_k hU9 (by exact Nat.ne_of_beq_eq_false rfl) p 1
      refine j_callV (y := yX3_walk) (Yc := zX3_walk) (rest := []) [vI s] (ct_X3_walk_e (T := U9) (ru := ru) (by exact rl_f (ws := [(466, [])]) hr (fr_u (fr_0 _ _) hU9 rfl) rfl (fun _ => rfl)) (by omega) (by omega)) cl_X3_132 (qd_c (by decide +kernel)) (nn_ _) rfl (rf_of rfl) (Nat.le_of_ble_eq_true rfl) (Nat.le_of_ble_eq_true rfl) (Nat.le_of_ble_eq_true rfl) rfl ?_
      rintro U22 _ ⟨rfl, fU22, qU22o, qU22, qU22e⟩
      show J_ zX3_playBaseball T (po_X3_playBaseball_e T p ru k s v) 0 0 62 _ [] U22
      refine j_blx (F := fX3) tb_X3 (nn_ _) bk_X3_playBaseball_e_62 bs_X3_playBaseball_e_62 hz (fun K hK => ?_)
      refine hK 96 _ [] U22 ?_
      refine j_blx (F := fX3) tb_X3 (nn_ _) bk_X3_playBaseball_e_96 bs_X3_playBaseball_e_96 hz (fun K hK => ?_)
      refine (show po_X3_playBaseball_e T p ru k s v U22 (none) from ?_)
      have e23 : U22 470 p 0 = T 470 p 0 := (fU22 470 p 0 rfl).trans (up_k hU9 (by exact Nat.ne_of_beq_eq_false rfl) p 0)
      have e24 : U22 470 p 1 = T 470 p 1 := (fU22 470 p 1 rfl).trans (up_k hU9 (by exact Nat.ne_of_beq_eq_false rfl) p 1)
      have g25 : U22 470 p 0 = T 470 p 0 := (fU22 470 p 0 rfl).trans (up_k hU9 (by exact Nat.ne_of_beq_eq_false rfl) p 0)
      have g26 : U22 470 p 1 = T 470 p 1 := (fU22 470 p 1 rfl).trans (up_k hU9 (by exact Nat.ne_of_beq_eq_false rfl) p 1)
      have rU9 : rs9_ U9 p = u2_ (rs9_ T p) 466 0 (wr_ ((T 466 p 0) + 1)) := rs_u hU9 rfl
      have rU22 : rs9_ U22 p = wk9_ ru (u2_ (rs9_ T p) 466 0 (wr_ ((T 466 p 0) + 1))) s := by rw [qU22e, rU9]
      exact ⟨rfl, fr_t (fr_u (fr_0 _ _) hU9 rfl) (fr_s fU22 rfl), oi_t (oi_u (oi_r) hU9) qU22o, by exact fun _ => by omega, Eq.trans rU22 (pbb9__2 (r := ru) (a := (rs9_ T p)) (k := k) (s := s) (v := v) (show ¬ (k = 1) by omega) (show k = 2 by omega) (show wr_ (T 466 p 0 + 1) = 4 by omega)).symm⟩
  by_cases z1_2 : k = 3
  · refine j_tsI (pc := 1) 2 (off := 64) (tgt := 65) (by decide) ds_X3_playBaseball_1 (by omega) (by decide) rfl (by decide) (by decide) ?_
    refine j_blx (F := fX3) tb_X3 (nn_ _) bk_X3_playBaseball_e_65 bs_X3_playBaseball_e_65 hz (fun K hK => ?_)
    refine ix_i (by omega) ?_
    intro b27 b27b
    intro w28 w28b
    refine iy_i (by omega) (by omega) ?_
    refine x_nm (fun U29 hU29 => ?_)
    have e30 := up_f hU29
    refine ix_i (by omega) ?_
    intro b31 b31b
    have e32 : U29 466 p 1 = wr_ ((T 466 p 1) + 1) := up_f hU29
    rw [e32] at b31 b31b ⊢
    refine And.intro (fun c33 => ?_) (fun c33 => ?_)
    · refine hK 96 _ [] U29 ?_
      refine j_blx (F := fX3) tb_X3 (nn_ _) bk_X3_playBaseball_e_96 bs_X3_playBaseball_e_96 hz (fun K hK => ?_)
      refine (show po_X3_playBaseball_e T p ru k s v U29 (none) from ?_)
      have e34 : U29 103 p 3 = T 103 p 3 := up_k hU29 (by exact Nat.ne_of_beq_eq_false rfl) p 3
      have e35 : U29 470 p 0 = T 470 p 0 := up_k hU29 (by exact Nat.ne_of_beq_eq_false rfl) p 0
      have e36 : U29 470 p 1 = T 470 p 1 := up_k hU29 (by exact Nat.ne_of_beq_eq_false rfl) p 1
      have g37 : U29 470 p 0 = T 470 p 0 := up_k hU29 (by exact Nat.ne_of_beq_eq_false rfl) p 0
      have g38 : U29 470 p 1 = T 470 p 1 := up_k hU29 (by exact Nat.ne_of_beq_eq_false rfl) p 1
      have e39 : U29 103 p 3 = T 103 p 3 := up_k hU29 (by exact Nat.ne_of_beq_eq_false rfl) p 3
      have rU29 : rs9_ U29 p = u2_ (rs9_ T p) 466 1 (wr_ ((T 466 p 1) + 1)) := rs_u hU29 rfl
      exact ⟨rfl, fr_u (fr_0 _ _) hU29 rfl, oi_u (oi_r) hU29, by exact fun _ => by omega, Eq.trans rU29 (pbb9__5 (r := ru) (a := (rs9_ T p)) (k := k) (s := s) (v := v) (show ¬ (k = 1) by omega) (show ¬ (k = 2) by omega) (show k = 3 by omega) (show ¬ (wr_ (T 466 p 1 + 1) = 3) by omega)).symm⟩
    · refine hK 86 _ [vR 103 p] U29 ?_
      have e40 : U29 470 p 0 = T 470 p 0 := up_k hU29 (by exact Nat.ne_of_beq_eq_false rfl) p 0
      have e41 : U29 470 p 1 = T 470 p 1 := up_k hU29 (by exact Nat.ne_of_beq_eq_false rfl) p 1
      refine j_callV (y := yX3_countOut) (Yc := zX3_countOut) (rest := []) [] (ct_X3_countOut_e (T := U29) (ru := ru) (by exact rl_f (ws := [(466, [])]) hr (fr_u (fr_0 _ _) hU29 rfl) rfl (fun _ => rfl)) (by omega)) cl_X3_135 (qd_c (by decide +kernel)) (nn_ _) rfl (rf_of rfl) (Nat.le_of_ble_eq_true rfl) (Nat.le_of_ble_eq_true rfl) (Nat.le_of_ble_eq_true rfl) rfl ?_
      rintro U42 _ ⟨rfl, fU42, qU42o, qU42, qU42e⟩
      show J_ zX3_playBaseball T (po_X3_playBaseball_e T p ru k s v) 0 0 89 _ [] U42
      refine j_blx (F := fX3) tb_X3 (nn_ _) bk_X3_playBaseball_e_89 bs_X3_playBaseball_e_89 hz (fun K hK => ?_)
      refine hK 96 _ [] U42 ?_
      refine j_blx (F := fX3) tb_X3 (nn_ _) bk_X3_playBaseball_e_96 bs_X3_playBaseball_e_96 hz (fun K hK => ?_)
      refine (show po_X3_playBaseball_e T p ru k s v U42 (none) from ?_)
      have e43 : U42 470 p 0 = T 470 p 0 := (fU42 470 p 0 rfl).trans (up_k hU29 (by exact Nat.ne_of_beq_eq_false rfl) p 0)
      have e44 : U42 470 p 1 = T 470 p 1 := (fU42 470 p 1 rfl).trans (up_k hU29 (by exact Nat.ne_of_beq_eq_false rfl) p 1)
      have g45 : U42 470 p 0 = T 470 p 0 := (fU42 470 p 0 rfl).trans (up_k hU29 (by exact Nat.ne_of_beq_eq_false rfl) p 0)
      have g46 : U42 470 p 1 = T 470 p 1 := (fU42 470 p 1 rfl).trans (up_k hU29 (by exact Nat.ne_of_beq_eq_false rfl) p 1)
      have rU29 : rs9_ U29 p = u2_ (rs9_ T p) 466 1 (wr_ ((T 466 p 1) + 1)) := rs_u hU29 rfl
      have rU42 : rs9_ U42 p = co9_ ru (u2_ (rs9_ T p) 466 1 (wr_ ((T 466 p 1) + 1))) := by rw [qU42e, rU29]
      exact ⟨rfl, fr_t (fr_u (fr_0 _ _) hU29 rfl) (fr_s fU42 rfl), oi_t (oi_u (oi_r) hU29) qU42o, by exact fun _ => by omega, Eq.trans rU42 (pbb9__4 (r := ru) (a := (rs9_ T p)) (k := k) (s := s) (v := v) (show ¬ (k = 1) by omega) (show ¬ (k = 2) by omega) (show k = 3 by omega) (show wr_ (T 466 p 1 + 1) = 3 by omega)).symm⟩
  refine j_tsO (pc := 1) (tgt := 92) (by decide) ds_X3_playBaseball_1 (by omega) (by decide) (by decide) ?_
  refine j_blx (F := fX3) tb_X3 (nn_ _) bk_X3_playBaseball_e_92 bs_X3_playBaseball_e_92 hz (fun K hK => ?_)
  refine hK 93 _ [vR 103 p] T ?_
  refine j_callV (y := yX3_countOut) (Yc := zX3_countOut) (rest := []) [] (ct_X3_countOut_e (T := T) (ru := ru) (by exact hr) (by omega)) cl_X3_135 (qd_c (by decide +kernel)) (nn_ _) rfl (rf_of rfl) (Nat.le_of_ble_eq_true rfl) (Nat.le_of_ble_eq_true rfl) (Nat.le_of_ble_eq_true rfl) rfl ?_
  rintro U47 _ ⟨rfl, fU47, qU47o, qU47, qU47e⟩
  show J_ zX3_playBaseball T (po_X3_playBaseball_e T p ru k s v) 0 0 96 _ [] U47
  refine j_blx (F := fX3) tb_X3 (nn_ _) bk_X3_playBaseball_e_96 bs_X3_playBaseball_e_96 hz (fun K hK => ?_)
  refine (show po_X3_playBaseball_e T p ru k s v U47 (none) from ?_)
  have e48 : U47 470 p 0 = T 470 p 0 := fU47 470 p 0 rfl
  have e49 : U47 470 p 1 = T 470 p 1 := fU47 470 p 1 rfl
  have g50 : U47 470 p 0 = T 470 p 0 := fU47 470 p 0 rfl
  have g51 : U47 470 p 1 = T 470 p 1 := fU47 470 p 1 rfl
  have rU47 : rs9_ U47 p = co9_ ru (rs9_ T p) := qU47e
  exact ⟨rfl, fr_t (fr_0 _ _) (fr_s fU47 rfl), oi_t (oi_r) qU47o, by exact fun _ => by omega, Eq.trans rU47 (pbb9__6 (r := ru) (a := (rs9_ T p)) (k := k) (s := s) (v := v) (show ¬ (k = 1) by omega) (show ¬ (k = 2) by omega) (show ¬ (k = 3) by omega)).symm⟩
theorem bk_X3_carryOut_e_0 : ck_ fX3 none cX3_carryOut 0 [.iload 1, .iconst 5, .if_icmp .ne 14, .aload 0, .iload 2, .iload 3, .iload 4] 10 = true := qck_r (nn_ _) (by decide +kernel)
theorem bs_X3_carryOut_e_0 {P : Zt → Option Zv → Prop} (K : Int → Zl → List Zv → Zt → Prop) : sx_ K P [.iload 1, .iconst 5, .if_icmp .ne 14, .aload 0, .iload 2, .iload 3, .iload 4] 10 = x_iload 1 (x_iconst 5 (x_if_icmp .ne 14 K (x_aload 0 (x_iload 2 (x_iload 3 (x_iload 4 (K 10))))))) := ((xe_iload 1).trans (congrArg (x_iload 1) ((xe_iconst 5).trans (congrArg (x_iconst 5) ((xe_if_icmp .ne 14).trans (congrArg (x_if_icmp .ne 14 K) ((xe_aload 0).trans (congrArg (x_aload 0) ((xe_iload 2).trans (congrArg (x_iload 2) ((xe_iload 3).trans (congrArg (x_iload 3) ((xe_iload 4).trans (congrArg (x_iload 4) xe_nil))))))))))))))
theorem bk_X3_carryOut_e_14 : ck_ fX3 none cX3_carryOut 14 [.aload 0, .tableswitch 0 3 0 #[], .iconst 0, .iaload] 20 = true := qck_r (nn_ _) (by decide +kernel)
theorem bs_X3_carryOut_e_14 {P : Zt → Option Zv → Prop} (K : Int → Zl → List Zv → Zt → Prop) : sx_ K P [.aload 0, .tableswitch 0 3 0 #[], .iconst 0, .iaload] 20 = x_aload 0 (x_g3 103 401 0 (x_iconst 0 (x_iaload (K 20)))) := ((xe_aload 0).trans (congrArg (x_aload 0) ((xe_g3 (kk := 103) rfl tl_3_0).trans (congrArg (x_g3 103 401 0) ((xe_iconst 0).trans (congrArg (x_iconst 0) ((xe_iaload).trans (congrArg (x_iaload) xe_nil))))))))
theorem bk_X3_carryOut_e_48 : ck_ fX3 none cX3_carryOut 48 [.aload 0, .iload 1, .iload 2, .iload 3] 52 = true := qck_r (nn_ _) (by decide +kernel)
theorem bs_X3_carryOut_e_48 {P : Zt → Option Zv → Prop} (K : Int → Zl → List Zv → Zt → Prop) : sx_ K P [.aload 0, .iload 1, .iload 2, .iload 3] 52 = x_aload 0 (x_iload 1 (x_iload 2 (x_iload 3 (K 52)))) := ((xe_aload 0).trans (congrArg (x_aload 0) ((xe_iload 1).trans (congrArg (x_iload 1) ((xe_iload 2).trans (congrArg (x_iload 2) ((xe_iload 3).trans (congrArg (x_iload 3) xe_nil))))))))
theorem bk_X3_carryOut_e_55 : ck_ fX3 none cX3_carryOut 55 [.goto 83] 58 = true := qck_r (nn_ _) (by decide +kernel)
theorem bs_X3_carryOut_e_55 {P : Zt → Option Zv → Prop} (K : Int → Zl → List Zv → Zt → Prop) : sx_ K P [.goto 83] 58 = x_goto 83 K := (xe_goto 83)
theorem bk_X3_carryOut_e_83 : ck_ fX3 none cX3_carryOut 83 [.return_] 84 = true := qck_r (nn_ _) (by decide +kernel)
theorem bs_X3_carryOut_e_83 {P : Zt → Option Zv → Prop} (K : Int → Zl → List Zv → Zt → Prop) : sx_ K P [.return_] 84 = x_return_ P := (xe_return_)
theorem bk_X3_carryOut_e_58 : ck_ fX3 none cX3_carryOut 58 [.aload 0, .iload 2] 60 = true := qck_r (nn_ _) (by decide +kernel)
theorem bs_X3_carryOut_e_58 {P : Zt → Option Zv → Prop} (K : Int → Zl → List Zv → Zt → Prop) : sx_ K P [.aload 0, .iload 2] 60 = x_aload 0 (x_iload 2 (K 60)) := ((xe_aload 0).trans (congrArg (x_aload 0) ((xe_iload 2).trans (congrArg (x_iload 2) xe_nil))))
theorem bk_X3_carryOut_e_63 : ck_ fX3 none cX3_carryOut 63 [.goto 83] 66 = true := qck_r (nn_ _) (by decide +kernel)
theorem bs_X3_carryOut_e_63 {P : Zt → Option Zv → Prop} (K : Int → Zl → List Zv → Zt → Prop) : sx_ K P [.goto 83] 66 = x_goto 83 K := (xe_goto 83)
theorem bk_X3_carryOut_e_66 : ck_ fX3 none cX3_carryOut 66 [.aload 0, .iload 1, .iload 2] 69 = true := qck_r (nn_ _) (by decide +kernel)
theorem bs_X3_carryOut_e_66 {P : Zt → Option Zv → Prop} (K : Int → Zl → List Zv → Zt → Prop) : sx_ K P [.aload 0, .iload 1, .iload 2] 69 = x_aload 0 (x_iload 1 (x_iload 2 (K 69))) := ((xe_aload 0).trans (congrArg (x_aload 0) ((xe_iload 1).trans (congrArg (x_iload 1) ((xe_iload 2).trans (congrArg (x_iload 2) xe_nil))))))
theorem bk_X3_carryOut_e_72 : ck_ fX3 none cX3_carryOut 72 [.goto 83] 75 = true := qck_r (nn_ _) (by decide +kernel)
theorem bs_X3_carryOut_e_72 {P : Zt → Option Zv → Prop} (K : Int → Zl → List Zv → Zt → Prop) : sx_ K P [.goto 83] 75 = x_goto 83 K := (xe_goto 83)
theorem bk_X3_carryOut_e_75 : ck_ fX3 none cX3_carryOut 75 [.aload 0, .iload 1, .iload 2, .iload 4] 80 = true := qck_r (nn_ _) (by decide +kernel)
theorem bs_X3_carryOut_e_75 {P : Zt → Option Zv → Prop} (K : Int → Zl → List Zv → Zt → Prop) : sx_ K P [.aload 0, .iload 1, .iload 2, .iload 4] 80 = x_aload 0 (x_iload 1 (x_iload 2 (x_iload 4 (K 80)))) := ((xe_aload 0).trans (congrArg (x_aload 0) ((xe_iload 1).trans (congrArg (x_iload 1) ((xe_iload 2).trans (congrArg (x_iload 2) ((xe_iload 4).trans (congrArg (x_iload 4) xe_nil))))))))
theorem bk_X3_carryOut_e_13 : ck_ fX3 none cX3_carryOut 13 [.return_] 14 = true := qck_r (nn_ _) (by decide +kernel)
theorem bs_X3_carryOut_e_13 {P : Zt → Option Zv → Prop} (K : Int → Zl → List Zv → Zt → Prop) : sx_ K P [.return_] 14 = x_return_ P := (xe_return_)
abbrev po_X3_carryOut_e (T : Zt) (p : Int) (ru : Int → Int) (k s q o : Int) : Zt → Option Zv → Prop := fun T' r => r = none ∧ fr_ [(103, [3, 4, 5]), (466, []), (467, []), (468, []), (472, []), (471, []), (469, []), (470, []), (473, [])] T T' ∧ (oi_ T T' p ∧ (T' 103 p 3 = 0 → 1 ≤ T' 470 p 0 ∧ 1 ≤ T' 470 p 1) ∧ rs9_ T' p = ca9_ ru (rs9_ T p) k s q o)
set_option maxHeartbeats 4000000 in
theorem ct_X3_carryOut_e {T : Zt} {p : Int} {ru : Int → Int} {k s q o : Int} (hr : RLP_ T p ru) (hfm : (k = 0 ∨ (0 ≤ s ∧ s ≤ 1)) ∧ ((T 401 (T 103 p 0) 0 = 0 ∧ 0 ≤ k ∧ k ≤ 5) ∨ (T 401 (T 103 p 0) 0 = 1 ∧ (k = 1 ∨ k = 5)) ∨ (T 401 (T 103 p 0) 0 = 2 ∧ (k = 1 ∨ k = 6)) ∨ (¬ T 401 (T 103 p 0) 0 = 0 ∧ ¬ T 401 (T 103 p 0) 0 = 1 ∧ ¬ T 401 (T 103 p 0) 0 = 2 ∧ 1 ≤ k ∧ k ≤ 4))) (hf : 1 ≤ T 401 (T 103 p 0) 9 ∧ T 401 (T 103 p 0) 9 ≤ 6) (hfd : 1 ≤ T 470 p 0 ∧ 1 ≤ T 470 p 1) : Ct_ yX3_carryOut zX3_carryOut T [vR 103 p, vI k, vI s, vI q, vI o] (po_X3_carryOut_e T p ru k s q o) := by
  refine ct_of pn_3 rfl rfl (Nat.le_of_ble_eq_true rfl) (fun hT hav => ?_)
  have hr_k : -2147483648 ≤ k ∧ k ≤ 2147483647 := hav (vI k) (List.mem_cons_of_mem _ List.mem_cons_self)
  have hr_s : -2147483648 ≤ s ∧ s ≤ 2147483647 := hav (vI s) (List.mem_cons_of_mem _ (List.mem_cons_of_mem _ List.mem_cons_self))
  have hr_q : -2147483648 ≤ q ∧ q ≤ 2147483647 := hav (vI q) (List.mem_cons_of_mem _ (List.mem_cons_of_mem _ (List.mem_cons_of_mem _ List.mem_cons_self)))
  have hr_o : -2147483648 ≤ o ∧ o ≤ 2147483647 := hav (vI o) (List.mem_cons_of_mem _ (List.mem_cons_of_mem _ (List.mem_cons_of_mem _ (List.mem_cons_of_mem _ List.mem_cons_self))))
  have hz : zX3_carryOut.2.2.2.1 = some .boolean → ∀ (T' : Zt) (x : Int), po_X3_carryOut_e T p ru k s q o T' (some (vI x)) → 0 ≤ x ∧ x ≤ 1 := fun h => by cases h
  have hr0 := hr 0 (by decide) (by decide)
  have hr9 := hr 9 (by decide) (by decide)
  have hr10 := hr 10 (by decide) (by decide)
  have hr11 := hr 11 (by decide) (by decide)
  have hr12 := hr 12 (by decide) (by decide)
  show J_ zX3_carryOut T (po_X3_carryOut_e T p ru k s q o) 0 0 0 [some (vR 103 p), some (vI k), some (vI s), some (vI q), some (vI o)] [] T
  refine j_blx (F := fX3) tb_X3 (nn_ _) bk_X3_carryOut_e_0 bs_X3_carryOut_e_0 hz (fun K hK => ?_)
  refine And.intro (fun c1 => ?_) (fun c1 => ?_)
  · refine hK 14 _ [] T ?_
    refine j_blx (F := fX3) tb_X3 (nn_ _) bk_X3_carryOut_e_14 bs_X3_carryOut_e_14 hz (fun K hK => ?_)
    refine ix_i (by omega) ?_
    intro b3 b3b
    refine hK 20 _ [vI (T 401 (T 103 p 0) 0)] T ?_
    by_cases z4_0 : (T 401 (T 103 p 0) 0) = 0
    · refine j_tsI (pc := 20) 0 (off := 28) (tgt := 48) (by decide) ds_X3_carryOut_20 (by omega) (by decide) rfl (by decide) (by decide) ?_
      refine j_blx (F := fX3) tb_X3 (nn_ _) bk_X3_carryOut_e_48 bs_X3_carryOut_e_48 hz (fun K hK => ?_)
      refine hK 52 _ [vI q, vI s, vI k, vR 103 p] T ?_
      refine j_callV (y := yX3_playFootball) (Yc := zX3_playFootball) (rest := []) [vI k, vI s, vI q] (ct_X3_playFootball_e (T := T) (ru := ru) (by exact hr) (by omega) (by omega) (by omega) (by omega)) cl_X3_99 (qd_c (by decide +kernel)) (nn_ _) rfl (rf_of rfl) (Nat.le_of_ble_eq_true rfl) (Nat.le_of_ble_eq_true rfl) (Nat.le_of_ble_eq_true rfl) rfl ?_
      rintro U5 _ ⟨rfl, fU5, qU5o, qU5, qU5e⟩
      show J_ zX3_carryOut T (po_X3_carryOut_e T p ru k s q o) 0 0 55 _ [] U5
      refine j_blx (F := fX3) tb_X3 (nn_ _) bk_X3_carryOut_e_55 bs_X3_carryOut_e_55 hz (fun K hK => ?_)
      refine hK 83 _ [] U5 ?_
      refine j_blx (F := fX3) tb_X3 (nn_ _) bk_X3_carryOut_e_83 bs_X3_carryOut_e_83 hz (fun K hK => ?_)
      refine (show po_X3_carryOut_e T p ru k s q o U5 (none) from ?_)
      have rU5 : rs9_ U5 p = pf9_ ru (rs9_ T p) k s q := qU5e
      exact ⟨rfl, fr_t (fr_0 _ _) (fr_s fU5 rfl), oi_t (oi_r) qU5o, by exact fun z9 => by have y9 := qU5; omega, Eq.trans rU5 (ca9__2 (r := ru) (a := (rs9_ T p)) (k := k) (s := s) (q := q) (o := o) (show ¬ (k = 5) by omega) (show ru 0 = 0 by omega)).symm⟩
    by_cases z4_1 : (T 401 (T 103 p 0) 0) = 1
    · refine j_tsI (pc := 20) 1 (off := 38) (tgt := 58) (by decide) ds_X3_carryOut_20 (by omega) (by decide) rfl (by decide) (by decide) ?_
      refine j_blx (F := fX3) tb_X3 (nn_ _) bk_X3_carryOut_e_58 bs_X3_carryOut_e_58 hz (fun K hK => ?_)
      refine hK 60 _ [vI s, vR 103 p] T ?_
      refine j_callV (y := yX3_playVolleyball) (Yc := zX3_playVolleyball) (rest := []) [vI s] (ct_X3_playVolleyball_e (T := T) (ru := ru) (by exact hr) (by omega) (by omega)) cl_X3_102 (qd_c (by decide +kernel)) (nn_ _) rfl (rf_of rfl) (Nat.le_of_ble_eq_true rfl) (Nat.le_of_ble_eq_true rfl) (Nat.le_of_ble_eq_true rfl) rfl ?_
      rintro U6 _ ⟨rfl, fU6, qU6o, qU6, qU6e⟩
      show J_ zX3_carryOut T (po_X3_carryOut_e T p ru k s q o) 0 0 63 _ [] U6
      refine j_blx (F := fX3) tb_X3 (nn_ _) bk_X3_carryOut_e_63 bs_X3_carryOut_e_63 hz (fun K hK => ?_)
      refine hK 83 _ [] U6 ?_
      refine j_blx (F := fX3) tb_X3 (nn_ _) bk_X3_carryOut_e_83 bs_X3_carryOut_e_83 hz (fun K hK => ?_)
      refine (show po_X3_carryOut_e T p ru k s q o U6 (none) from ?_)
      have e7 : U6 470 p 0 = T 470 p 0 := fU6 470 p 0 rfl
      have e8 : U6 470 p 1 = T 470 p 1 := fU6 470 p 1 rfl
      have g9 : U6 470 p 0 = T 470 p 0 := fU6 470 p 0 rfl
      have g10 : U6 470 p 1 = T 470 p 1 := fU6 470 p 1 rfl
      have rU6 : rs9_ U6 p = pv9_ ru (rs9_ T p) s := qU6e
      exact ⟨rfl, fr_t (fr_0 _ _) (fr_s fU6 rfl), oi_t (oi_r) qU6o, by exact fun _ => by omega, Eq.trans rU6 (ca9__3 (r := ru) (a := (rs9_ T p)) (k := k) (s := s) (q := q) (o := o) (show ¬ (k = 5) by omega) (show ¬ (ru 0 = 0) by omega) (show ru 0 = 1 by omega)).symm⟩
    by_cases z4_2 : (T 401 (T 103 p 0) 0) = 2
    · refine j_tsI (pc := 20) 2 (off := 46) (tgt := 66) (by decide) ds_X3_carryOut_20 (by omega) (by decide) rfl (by decide) (by decide) ?_
      refine j_blx (F := fX3) tb_X3 (nn_ _) bk_X3_carryOut_e_66 bs_X3_carryOut_e_66 hz (fun K hK => ?_)
      refine hK 69 _ [vI s, vI k, vR 103 p] T ?_
      refine j_callV (y := yX3_playTennis) (Yc := zX3_playTennis) (rest := []) [vI k, vI s] (ct_X3_playTennis_e (T := T) (ru := ru) (by exact hr) (by omega) (by omega)) cl_X3_106 (qd_c (by decide +kernel)) (nn_ _) rfl (rf_of rfl) (Nat.le_of_ble_eq_true rfl) (Nat.le_of_ble_eq_true rfl) (Nat.le_of_ble_eq_true rfl) rfl ?_
      rintro U11 _ ⟨rfl, fU11, qU11o, qU11, qU11e⟩
      show J_ zX3_carryOut T (po_X3_carryOut_e T p ru k s q o) 0 0 72 _ [] U11
      refine j_blx (F := fX3) tb_X3 (nn_ _) bk_X3_carryOut_e_72 bs_X3_carryOut_e_72 hz (fun K hK => ?_)
      refine hK 83 _ [] U11 ?_
      refine j_blx (F := fX3) tb_X3 (nn_ _) bk_X3_carryOut_e_83 bs_X3_carryOut_e_83 hz (fun K hK => ?_)
      refine (show po_X3_carryOut_e T p ru k s q o U11 (none) from ?_)
      have e12 : U11 470 p 0 = T 470 p 0 := fU11 470 p 0 rfl
      have e13 : U11 470 p 1 = T 470 p 1 := fU11 470 p 1 rfl
      have g14 : U11 470 p 0 = T 470 p 0 := fU11 470 p 0 rfl
      have g15 : U11 470 p 1 = T 470 p 1 := fU11 470 p 1 rfl
      have rU11 : rs9_ U11 p = pt9_ ru (rs9_ T p) k s := qU11e
      exact ⟨rfl, fr_t (fr_0 _ _) (fr_s fU11 rfl), oi_t (oi_r) qU11o, by exact fun _ => by omega, Eq.trans rU11 (ca9__4 (r := ru) (a := (rs9_ T p)) (k := k) (s := s) (q := q) (o := o) (show ¬ (k = 5) by omega) (show ¬ (ru 0 = 0) by omega) (show ¬ (ru 0 = 1) by omega) (show ru 0 = 2 by omega)).symm⟩
    refine j_tsO (pc := 20) (tgt := 75) (by decide) ds_X3_carryOut_20 (by omega) (by decide) (by decide) ?_
    refine j_blx (F := fX3) tb_X3 (nn_ _) bk_X3_carryOut_e_75 bs_X3_carryOut_e_75 hz (fun K hK => ?_)
    refine hK 80 _ [vI o, vI s, vI k, vR 103 p] T ?_
    refine j_callV (y := yX3_playBaseball) (Yc := zX3_playBaseball) (rest := []) [vI k, vI s, vI o] (ct_X3_playBaseball_e (T := T) (ru := ru) (by exact hr) (by omega) (by omega)) cl_X3_110 (qd_c (by decide +kernel)) (nn_ _) rfl (rf_of rfl) (Nat.le_of_ble_eq_true rfl) (Nat.le_of_ble_eq_true rfl) (Nat.le_of_ble_eq_true rfl) rfl ?_
    rintro U16 _ ⟨rfl, fU16, qU16o, qU16, qU16e⟩
    show J_ zX3_carryOut T (po_X3_carryOut_e T p ru k s q o) 0 0 83 _ [] U16
    refine j_blx (F := fX3) tb_X3 (nn_ _) bk_X3_carryOut_e_83 bs_X3_carryOut_e_83 hz (fun K hK => ?_)
    refine (show po_X3_carryOut_e T p ru k s q o U16 (none) from ?_)
    have e17 : U16 470 p 0 = T 470 p 0 := fU16 470 p 0 rfl
    have e18 : U16 470 p 1 = T 470 p 1 := fU16 470 p 1 rfl
    have g19 : U16 470 p 0 = T 470 p 0 := fU16 470 p 0 rfl
    have g20 : U16 470 p 1 = T 470 p 1 := fU16 470 p 1 rfl
    have rU16 : rs9_ U16 p = pbb9_ ru (rs9_ T p) k s o := qU16e
    exact ⟨rfl, fr_t (fr_0 _ _) (fr_s fU16 rfl), oi_t (oi_r) qU16o, by exact fun _ => by omega, Eq.trans rU16 (ca9__5 (r := ru) (a := (rs9_ T p)) (k := k) (s := s) (q := q) (o := o) (show ¬ (k = 5) by omega) (show ¬ (ru 0 = 0) by omega) (show ¬ (ru 0 = 1) by omega) (show ¬ (ru 0 = 2) by omega)).symm⟩
  · refine hK 10 _ [vI o, vI q, vI s, vR 103 p] T ?_
    refine j_callV (y := yX3_substitute) (Yc := zX3_substitute) (rest := []) [vI s, vI q, vI o] (ct_X3_substitute_e (T := T) (ru := ru) (by exact hr) (by omega)) cl_X3_95 (qd_c (by decide +kernel)) (nn_ _) rfl (rf_of rfl) (Nat.le_of_ble_eq_true rfl) (Nat.le_of_ble_eq_true rfl) (Nat.le_of_ble_eq_true rfl) rfl ?_
    rintro U21 _ ⟨rfl, fU21, qU21o, qU21, qU21e⟩
    show J_ zX3_carryOut T (po_X3_carryOut_e T p ru k s q o) 0 0 13 _ [] U21
    refine j_blx (F := fX3) tb_X3 (nn_ _) bk_X3_carryOut_e_13 bs_X3_carryOut_e_13 hz (fun K hK => ?_)
    refine (show po_X3_carryOut_e T p ru k s q o U21 (none) from ?_)
    have e22 : U21 103 p 3 = T 103 p 3 := fU21 103 p 3 rfl
    have e23 : U21 470 p 0 = T 470 p 0 := fU21 470 p 0 rfl
    have e24 : U21 470 p 1 = T 470 p 1 := fU21 470 p 1 rfl
    have g25 : U21 470 p 0 = T 470 p 0 := fU21 470 p 0 rfl
    have g26 : U21 470 p 1 = T 470 p 1 := fU21 470 p 1 rfl
    have e27 : U21 103 p 3 = T 103 p 3 := fU21 103 p 3 rfl
    have rU21 : rs9_ U21 p = su9_ ru (rs9_ T p) s q o := qU21e
    exact ⟨rfl, fr_t (fr_0 _ _) (fr_s fU21 rfl), oi_t (oi_r) qU21o, by exact fun _ => by omega, Eq.trans rU21 (ca9__1 (r := ru) (a := (rs9_ T p)) (k := k) (s := s) (q := q) (o := o) (show k = 5 by omega)).symm⟩
theorem bk_X3_backToBeginning_e_99 : ck_ fX3 none cX3_backToBeginning 99 [.iload 2, .aload 0, .tableswitch 0 3 0 #[], .iconst 9, .iaload, .if_icmp .ge 145, .aload 0, .tableswitch 0 3 11 #[], .iload 1, .iconst 6, .imul, .iload 2, .iadd, .iload 1, .iconst 10, .imul, .iload 2, .iadd, .iastore, .aload 0, .tableswitch 0 3 12 #[], .iload 1, .iconst 10, .imul, .iload 2, .iadd, .iconst 1, .iastore, .iinc 2 1, .goto 99] 145 = true := qck_r (nn_ _) (by decide +kernel)
theorem bs_X3_backToBeginning_e_99 {P : Zt → Option Zv → Prop} (K : Int → Zl → List Zv → Zt → Prop) : sx_ K P [.iload 2, .aload 0, .tableswitch 0 3 0 #[], .iconst 9, .iaload, .if_icmp .ge 145, .aload 0, .tableswitch 0 3 11 #[], .iload 1, .iconst 6, .imul, .iload 2, .iadd, .iload 1, .iconst 10, .imul, .iload 2, .iadd, .iastore, .aload 0, .tableswitch 0 3 12 #[], .iload 1, .iconst 10, .imul, .iload 2, .iadd, .iconst 1, .iastore, .iinc 2 1, .goto 99] 145 = x_iload 2 (x_aload 0 (x_g3 103 401 0 (x_iconst 9 (x_iaload (x_if_icmp .ge 145 K (x_aload 0 (x_g2 103 471 (x_iload 1 (x_iconst 6 (x_imul (x_iload 2 (x_iadd (x_iload 1 (x_iconst 10 (x_imul (x_iload 2 (x_iadd (x_iastore (x_aload 0 (x_g2 103 472 (x_iload 1 (x_iconst 10 (x_imul (x_iload 2 (x_iadd (x_iconst 1 (x_iastore (x_iinc 2 1 (x_goto 99 K))))))))))))))))))))))))))))) := ((xe_iload 2).trans (congrArg (x_iload 2) ((xe_aload 0).trans (congrArg (x_aload 0) ((xe_g3 (kk := 103) rfl tl_3_0).trans (congrArg (x_g3 103 401 0) ((xe_iconst 9).trans (congrArg (x_iconst 9) ((xe_iaload).trans (congrArg (x_iaload) ((xe_if_icmp .ge 145).trans (congrArg (x_if_icmp .ge 145 K) ((xe_aload 0).trans (congrArg (x_aload 0) ((xe_g2 (kk := 103) rfl tl_3_11).trans (congrArg (x_g2 103 471) ((xe_iload 1).trans (congrArg (x_iload 1) ((xe_iconst 6).trans (congrArg (x_iconst 6) ((xe_imul).trans (congrArg (x_imul) ((xe_iload 2).trans (congrArg (x_iload 2) ((xe_iadd).trans (congrArg (x_iadd) ((xe_iload 1).trans (congrArg (x_iload 1) ((xe_iconst 10).trans (congrArg (x_iconst 10) ((xe_imul).trans (congrArg (x_imul) ((xe_iload 2).trans (congrArg (x_iload 2) ((xe_iadd).trans (congrArg (x_iadd) ((xe_iastore).trans (congrArg (x_iastore) ((xe_aload 0).trans (congrArg (x_aload 0) ((xe_g2 (kk := 103) rfl tl_3_12).trans (congrArg (x_g2 103 472) ((xe_iload 1).trans (congrArg (x_iload 1) ((xe_iconst 10).trans (congrArg (x_iconst 10) ((xe_imul).trans (congrArg (x_imul) ((xe_iload 2).trans (congrArg (x_iload 2) ((xe_iadd).trans (congrArg (x_iadd) ((xe_iconst 1).trans (congrArg (x_iconst 1) ((xe_iastore).trans (congrArg (x_iastore) ((xe_iinc 2 1).trans (congrArg (x_iinc 2 1) (xe_goto 99)))))))))))))))))))))))))))))))))))))))))))))))))))))))))))
theorem bk_X3_backToBeginning_e_145 : ck_ fX3 none cX3_backToBeginning 145 [.iinc 1 1, .goto 79] 151 = true := qck_r (nn_ _) (by decide +kernel)
theorem bs_X3_backToBeginning_e_145 {P : Zt → Option Zv → Prop} (K : Int → Zl → List Zv → Zt → Prop) : sx_ K P [.iinc 1 1, .goto 79] 151 = x_iinc 1 1 (x_goto 79 K) := ((xe_iinc 1 1).trans (congrArg (x_iinc 1 1) (xe_goto 79)))
theorem bk_X3_backToBeginning_e_79 : ck_ fX3 none cX3_backToBeginning 79 [.iload 1, .iconst 2, .if_icmp .ge 151, .aload 0, .tableswitch 0 3 10 #[], .iload 1, .aload 0, .tableswitch 0 3 0 #[], .iconst 9, .iaload, .iastore, .iconst 0, .istore 2] 99 = true := qck_r (nn_ _) (by decide +kernel)
theorem bs_X3_backToBeginning_e_79 {P : Zt → Option Zv → Prop} (K : Int → Zl → List Zv → Zt → Prop) : sx_ K P [.iload 1, .iconst 2, .if_icmp .ge 151, .aload 0, .tableswitch 0 3 10 #[], .iload 1, .aload 0, .tableswitch 0 3 0 #[], .iconst 9, .iaload, .iastore, .iconst 0, .istore 2] 99 = x_iload 1 (x_iconst 2 (x_if_icmp .ge 151 K (x_aload 0 (x_g2 103 470 (x_iload 1 (x_aload 0 (x_g3 103 401 0 (x_iconst 9 (x_iaload (x_iastore (x_iconst 0 (x_istore 2 (K 99))))))))))))) := ((xe_iload 1).trans (congrArg (x_iload 1) ((xe_iconst 2).trans (congrArg (x_iconst 2) ((xe_if_icmp .ge 151).trans (congrArg (x_if_icmp .ge 151 K) ((xe_aload 0).trans (congrArg (x_aload 0) ((xe_g2 (kk := 103) rfl tl_3_10).trans (congrArg (x_g2 103 470) ((xe_iload 1).trans (congrArg (x_iload 1) ((xe_aload 0).trans (congrArg (x_aload 0) ((xe_g3 (kk := 103) rfl tl_3_0).trans (congrArg (x_g3 103 401 0) ((xe_iconst 9).trans (congrArg (x_iconst 9) ((xe_iaload).trans (congrArg (x_iaload) ((xe_iastore).trans (congrArg (x_iastore) ((xe_iconst 0).trans (congrArg (x_iconst 0) ((xe_istore 2).trans (congrArg (x_istore 2) xe_nil))))))))))))))))))))))))))
theorem bk_X3_backToBeginning_e_151 : ck_ fX3 none cX3_backToBeginning 151 [.return_] 152 = true := qck_r (nn_ _) (by decide +kernel)
theorem bs_X3_backToBeginning_e_151 {P : Zt → Option Zv → Prop} (K : Int → Zl → List Zv → Zt → Prop) : sx_ K P [.return_] 152 = x_return_ P := (xe_return_)
theorem bk_X3_backToBeginning_e_0 : ck_ fX3 none cX3_backToBeginning 0 [.aload 0, .iconst 0, .tableswitch 1 3 3 #[], .aload 0, .iconst 0, .tableswitch 1 3 4 #[], .aload 0, .aload 0, .tableswitch 0 3 0 #[], .iconst 0, .iaload, .iconst 3, .if_icmp .ne 25, .iconst 1, .goto 26] 25 = true := qck_r (nn_ _) (by decide +kernel)
theorem bs_X3_backToBeginning_e_0 {P : Zt → Option Zv → Prop} (K : Int → Zl → List Zv → Zt → Prop) : sx_ K P [.aload 0, .iconst 0, .tableswitch 1 3 3 #[], .aload 0, .iconst 0, .tableswitch 1 3 4 #[], .aload 0, .aload 0, .tableswitch 0 3 0 #[], .iconst 0, .iaload, .iconst 3, .if_icmp .ne 25, .iconst 1, .goto 26] 25 = x_aload 0 (x_iconst 0 (x_p 103 3 0 1 (x_aload 0 (x_iconst 0 (x_p 103 4 (-2147483648) 2147483647 (x_aload 0 (x_aload 0 (x_g3 103 401 0 (x_iconst 0 (x_iaload (x_iconst 3 (x_if_icmp .ne 25 K (x_iconst 1 (x_goto 26 K)))))))))))))) := ((xe_aload 0).trans (congrArg (x_aload 0) ((xe_iconst 0).trans (congrArg (x_iconst 0) ((xe_p (kk := 103) rfl tl_3_3).trans (congrArg (x_p 103 3 0 1) ((xe_aload 0).trans (congrArg (x_aload 0) ((xe_iconst 0).trans (congrArg (x_iconst 0) ((xe_p (kk := 103) rfl tl_3_4).trans (congrArg (x_p 103 4 (-2147483648) 2147483647) ((xe_aload 0).trans (congrArg (x_aload 0) ((xe_aload 0).trans (congrArg (x_aload 0) ((xe_g3 (kk := 103) rfl tl_3_0).trans (congrArg (x_g3 103 401 0) ((xe_iconst 0).trans (congrArg (x_iconst 0) ((xe_iaload).trans (congrArg (x_iaload) ((xe_iconst 3).trans (congrArg (x_iconst 3) ((xe_if_icmp .ne 25).trans (congrArg (x_if_icmp .ne 25 K) ((xe_iconst 1).trans (congrArg (x_iconst 1) (xe_goto 26)))))))))))))))))))))))))))))
theorem bk_X3_backToBeginning_e_25 : ck_ fX3 none cX3_backToBeginning 25 [.iconst 0, .tableswitch 1 3 5 #[], .aload 0, .tableswitch 0 3 6 #[], .iconst 0] 34 = true := qck_r (nn_ _) (by decide +kernel)
theorem bs_X3_backToBeginning_e_25 {P : Zt → Option Zv → Prop} (K : Int → Zl → List Zv → Zt → Prop) : sx_ K P [.iconst 0, .tableswitch 1 3 5 #[], .aload 0, .tableswitch 0 3 6 #[], .iconst 0] 34 = x_iconst 0 (x_p 103 5 0 1 (x_aload 0 (x_g2 103 466 (x_iconst 0 (K 34))))) := ((xe_iconst 0).trans (congrArg (x_iconst 0) ((xe_p (kk := 103) rfl tl_3_5).trans (congrArg (x_p 103 5 0 1) ((xe_aload 0).trans (congrArg (x_aload 0) ((xe_g2 (kk := 103) rfl tl_3_6).trans (congrArg (x_g2 103 466) ((xe_iconst 0).trans (congrArg (x_iconst 0) xe_nil))))))))))
theorem bk_X3_backToBeginning_e_37 : ck_ fX3 none cX3_backToBeginning 37 [.aload 0, .tableswitch 0 3 7 #[], .iconst 0] 42 = true := qck_r (nn_ _) (by decide +kernel)
theorem bs_X3_backToBeginning_e_37 {P : Zt → Option Zv → Prop} (K : Int → Zl → List Zv → Zt → Prop) : sx_ K P [.aload 0, .tableswitch 0 3 7 #[], .iconst 0] 42 = x_aload 0 (x_g2 103 467 (x_iconst 0 (K 42))) := ((xe_aload 0).trans (congrArg (x_aload 0) ((xe_g2 (kk := 103) rfl tl_3_7).trans (congrArg (x_g2 103 467) ((xe_iconst 0).trans (congrArg (x_iconst 0) xe_nil))))))
theorem bk_X3_backToBeginning_e_45 : ck_ fX3 none cX3_backToBeginning 45 [.aload 0, .tableswitch 0 3 8 #[], .iconst 0] 50 = true := qck_r (nn_ _) (by decide +kernel)
theorem bs_X3_backToBeginning_e_45 {P : Zt → Option Zv → Prop} (K : Int → Zl → List Zv → Zt → Prop) : sx_ K P [.aload 0, .tableswitch 0 3 8 #[], .iconst 0] 50 = x_aload 0 (x_g2 103 468 (x_iconst 0 (K 50))) := ((xe_aload 0).trans (congrArg (x_aload 0) ((xe_g2 (kk := 103) rfl tl_3_8).trans (congrArg (x_g2 103 468) ((xe_iconst 0).trans (congrArg (x_iconst 0) xe_nil))))))
theorem bk_X3_backToBeginning_e_53 : ck_ fX3 none cX3_backToBeginning 53 [.aload 0, .tableswitch 0 3 9 #[], .iconst 0] 58 = true := qck_r (nn_ _) (by decide +kernel)
theorem bs_X3_backToBeginning_e_53 {P : Zt → Option Zv → Prop} (K : Int → Zl → List Zv → Zt → Prop) : sx_ K P [.aload 0, .tableswitch 0 3 9 #[], .iconst 0] 58 = x_aload 0 (x_g2 103 469 (x_iconst 0 (K 58))) := ((xe_aload 0).trans (congrArg (x_aload 0) ((xe_g2 (kk := 103) rfl tl_3_9).trans (congrArg (x_g2 103 469) ((xe_iconst 0).trans (congrArg (x_iconst 0) xe_nil))))))
theorem bk_X3_backToBeginning_e_61 : ck_ fX3 none cX3_backToBeginning 61 [.aload 0, .tableswitch 0 3 12 #[], .iconst 0] 66 = true := qck_r (nn_ _) (by decide +kernel)
theorem bs_X3_backToBeginning_e_61 {P : Zt → Option Zv → Prop} (K : Int → Zl → List Zv → Zt → Prop) : sx_ K P [.aload 0, .tableswitch 0 3 12 #[], .iconst 0] 66 = x_aload 0 (x_g2 103 472 (x_iconst 0 (K 66))) := ((xe_aload 0).trans (congrArg (x_aload 0) ((xe_g2 (kk := 103) rfl tl_3_12).trans (congrArg (x_g2 103 472) ((xe_iconst 0).trans (congrArg (x_iconst 0) xe_nil))))))
theorem bk_X3_backToBeginning_e_69 : ck_ fX3 none cX3_backToBeginning 69 [.aload 0, .tableswitch 0 3 13 #[], .iconst 0] 74 = true := qck_r (nn_ _) (by decide +kernel)
theorem bs_X3_backToBeginning_e_69 {P : Zt → Option Zv → Prop} (K : Int → Zl → List Zv → Zt → Prop) : sx_ K P [.aload 0, .tableswitch 0 3 13 #[], .iconst 0] 74 = x_aload 0 (x_g2 103 473 (x_iconst 0 (K 74))) := ((xe_aload 0).trans (congrArg (x_aload 0) ((xe_g2 (kk := 103) rfl tl_3_13).trans (congrArg (x_g2 103 473) ((xe_iconst 0).trans (congrArg (x_iconst 0) xe_nil))))))
theorem bk_X3_backToBeginning_e_77 : ck_ fX3 none cX3_backToBeginning 77 [.iconst 0, .istore 1] 79 = true := qck_r (nn_ _) (by decide +kernel)
theorem bs_X3_backToBeginning_e_77 {P : Zt → Option Zv → Prop} (K : Int → Zl → List Zv → Zt → Prop) : sx_ K P [.iconst 0, .istore 1] 79 = x_iconst 0 (x_istore 1 (K 79)) := ((xe_iconst 0).trans (congrArg (x_iconst 0) ((xe_istore 1).trans (congrArg (x_istore 1) xe_nil))))
theorem bk_X3_backToBeginning_e_26 : ck_ fX3 none cX3_backToBeginning 26 [.tableswitch 1 3 5 #[], .aload 0, .tableswitch 0 3 6 #[], .iconst 0] 34 = true := qck_r (nn_ _) (by decide +kernel)
theorem bs_X3_backToBeginning_e_26 {P : Zt → Option Zv → Prop} (K : Int → Zl → List Zv → Zt → Prop) : sx_ K P [.tableswitch 1 3 5 #[], .aload 0, .tableswitch 0 3 6 #[], .iconst 0] 34 = x_p 103 5 0 1 (x_aload 0 (x_g2 103 466 (x_iconst 0 (K 34)))) := ((xe_p (kk := 103) rfl tl_3_5).trans (congrArg (x_p 103 5 0 1) ((xe_aload 0).trans (congrArg (x_aload 0) ((xe_g2 (kk := 103) rfl tl_3_6).trans (congrArg (x_g2 103 466) ((xe_iconst 0).trans (congrArg (x_iconst 0) xe_nil))))))))
abbrev po_X3_backToBeginning_e (T : Zt) (p : Int) (ru : Int → Int) : Zt → Option Zv → Prop := fun T' r => r = none ∧ fr_ [(103, [3, 4, 5]), (466, []), (467, []), (468, []), (469, []), (472, []), (473, []), (470, []), (471, [])] T T' ∧ (oi_ T T' p ∧ ((1 ≤ T' 470 p 0 ∧ 1 ≤ T' 470 p 1) ∧ T' 103 p 3 = 0) ∧ rs9_ T' p = bb9_ ru (rs9_ T p))
set_option maxHeartbeats 4000000 in
theorem ct_X3_backToBeginning_e {T : Zt} {p : Int} {ru : Int → Int} (hr : RLP_ T p ru) (hf : 1 ≤ T 401 (T 103 p 0) 9 ∧ T 401 (T 103 p 0) 9 ≤ 6) : Ct_ yX3_backToBeginning zX3_backToBeginning T [vR 103 p] (po_X3_backToBeginning_e T p ru) := by
  refine ct_of pn_3 rfl rfl (Nat.le_of_ble_eq_true rfl) (fun hT hav => ?_)
  have hz : zX3_backToBeginning.2.2.2.1 = some .boolean → ∀ (T' : Zt) (x : Int), po_X3_backToBeginning_e T p ru T' (some (vI x)) → 0 ≤ x ∧ x ≤ 1 := fun h => by cases h
  have hr0 := hr 0 (by decide) (by decide)
  have hr9 := hr 9 (by decide) (by decide)
  have hr10 := hr 10 (by decide) (by decide)
  have hr11 := hr 11 (by decide) (by decide)
  have hr12 := hr 12 (by decide) (by decide)
  show J_ zX3_backToBeginning T (po_X3_backToBeginning_e T p ru) 0 0 0 [some (vR 103 p), none, none] [] T
  have c_79 : ∀ (nn : Nat) (s : Int) (T1 : Zt), ((2 - s).toNat) ≤ nn → (fr_ [(103, [3, 4, 5]), (466, []), (467, []), (468, []), (469, []), (472, []), (473, []), (470, []), (471, [])] T T1) → (0 ≤ s ∧ s ≤ 2 ∧ T1 103 p 3 = 0) → (oi_ T T1 p) → (∀ j, 0 ≤ j → j < s → 1 ≤ T1 470 p j) → (rs9_ T1 p = os9_ (bi9_ (rs9_ T p) (cz_ (ru 0 = 3) 1 0)) (ru 9) s.toNat) → J_ zX3_backToBeginning T (po_X3_backToBeginning_e T p ru) 0 0 79 [some (vR 103 p), some (vI s), none] [] T1 := by
    intro nn
    induction nn using Nat.strongRecOn with
    | _ nn ih_79 =>
      intro s T1 hm_79 hf_79 i1 o1 fb1 ob1
      replace hm_79 := fun (_ : Unit) => hm_79
      have c_99 : ∀ (nn : Nat) (k : Int) (T2 : Zt), ((6 - k).toNat) ≤ nn → (fr_ [(103, [3, 4, 5]), (466, []), (467, []), (468, []), (469, []), (472, []), (473, []), (470, []), (471, [])] T T2) → (0 ≤ k ∧ s < 2 ∧ T2 103 p 3 = 0 ∧ k ≤ ru 9) → (oi_ T T2 p) → (∀ j, 0 ≤ j → j < s + 1 → 1 ≤ T2 470 p j) → (rs9_ T2 p = bl9_ (u2_ (os9_ (bi9_ (rs9_ T p) (cz_ (ru 0 = 3) 1 0)) (ru 9) s.toNat) 470 s (ru 9)) s k) → J_ zX3_backToBeginning T (po_X3_backToBeginning_e T p ru) 0 0 99 [some (vR 103 p), some (vI s), some (vI k)] [] T2 := by
        intro nn
        induction nn using Nat.strongRecOn with
        | _ nn ih_99 =>
          intro k T2 hm_99 hf_99 i2 o2 fb2 ob2
          replace hm_99 := fun (_ : Unit) => hm_99
          refine j_blx (F := fX3) tb_X3 (nn_ _) bk_X3_backToBeginning_e_99 bs_X3_backToBeginning_e_99 hz (fun K hK => ?_)
          have e2 : T2 103 p 0 = T 103 p 0 := hf_99 103 p 0 rfl
          refine ix_i (by omega) ?_
          intro b3 b3b
          have e4 : T2 401 (T 103 p 0) 9 = T 401 (T 103 p 0) 9 := hf_99 401 (T 103 p 0) 9 rfl
          have e5 : T2 401 (T2 103 p 0) 9 = T 401 (T 103 p 0) 9 := by rw [e2]; exact e4
          rw [e5] at b3 b3b ⊢
          refine And.intro (fun c6 => ?_) (fun c6 => ?_)
          · refine hK 145 _ [] T2 ?_
            refine j_blx (F := fX3) tb_X3 (nn_ _) bk_X3_backToBeginning_e_145 bs_X3_backToBeginning_e_145 hz (fun K hK => ?_)
            refine rg_i (by omega) ?_
            refine hK 79 [some (vR 103 p), some (vI (s + 1)), some (vI k)] [] T2 ?_
            refine j_drq [some (vR 103 p), some (vI (s + 1)), none] (drq_s (drq_s (drq_n drq_0))) ?_
            refine ih_79 _ ?_ (s + 1) T2 (Nat.le_refl _) ?_ ?_ ?_ ?_ ?_
            · have hm_79 := hm_79 (); omega
            · exact fr_t (fr_0 _ _) (fr_s hf_99 rfl)
            · omega
            · exact o2
            · intro j a b
              exact fb2 j a (by omega)
            · rw [os9_s (by omega)]
              rw [show k = ru 9 by omega] at ob2
              exact ob2
          · refine rg_i (by omega) ?_
            refine rg_i (by omega) ?_
            refine rg_i (by omega) ?_
            refine rg_i (by omega) ?_
            refine iy_i (by omega) (by omega) ?_
            refine x_nm (fun U7 hU7 => ?_)
            have e8 := up_f hU7
            refine rg_i (by omega) ?_
            refine rg_i (by omega) ?_
            refine iy_i (by omega) (by omega) ?_
            refine x_nm (fun U9 hU9 => ?_)
            have e10 := up_f hU9
            refine rg_i (by omega) ?_
            refine hK 99 [some (vR 103 p), some (vI s), some (vI (k + 1))] [] U9 ?_
            have e11 : U9 103 p 3 = T2 103 p 3 := (up_k hU9 (by exact Nat.ne_of_beq_eq_false rfl) p 3).trans (up_k hU7 (by exact Nat.ne_of_beq_eq_false rfl) p 3)
            refine ih_99 _ ?_ (k + 1) U9 (Nat.le_refl _) ?_ ?_ ?_ ?_ ?_
            · have hm_99 := hm_99 (); omega
            · exact fr_u (fr_u (fr_t (fr_0 _ _) (fr_s hf_99 rfl)) hU7 rfl) hU9 rfl
            · omega
            · exact oi_u (oi_u (o2) hU7) hU9
            · intro j a b
              rw [(up_k hU9 (by exact Nat.ne_of_beq_eq_false rfl) p j).trans (up_k hU7 (by exact Nat.ne_of_beq_eq_false rfl) p j)]
              exact fb2 j a b
            · rw [rs_u hU9 rfl, rs_u hU7 rfl, ob2]
              exact bl9_s (by omega)
      refine j_blx (F := fX3) tb_X3 (nn_ _) bk_X3_backToBeginning_e_79 bs_X3_backToBeginning_e_79 hz (fun K hK => ?_)
      refine And.intro (fun c12 => ?_) (fun c12 => ?_)
      · refine hK 151 _ [] T1 ?_
        refine j_blx (F := fX3) tb_X3 (nn_ _) bk_X3_backToBeginning_e_151 bs_X3_backToBeginning_e_151 hz (fun K hK => ?_)
        refine (show po_X3_backToBeginning_e T p ru T1 (none) from ?_)
        have es : s = 2 := by omega
        rw [es] at ob1
        exact ⟨rfl, fr_t (fr_0 _ _) (fr_s hf_79 rfl), o1, ⟨⟨fb1 0 (by omega) (by omega), fb1 1 (by omega) (by omega)⟩, by omega⟩, ob1⟩
      · have e14 : T1 103 p 0 = T 103 p 0 := hf_79 103 p 0 rfl
        refine ix_i (by omega) ?_
        intro b15 b15b
        have e16 : T1 401 (T 103 p 0) 9 = T 401 (T 103 p 0) 9 := hf_79 401 (T 103 p 0) 9 rfl
        have e17 : T1 401 (T1 103 p 0) 9 = T 401 (T 103 p 0) 9 := by rw [e14]; exact e16
        rw [e17] at b15 b15b ⊢
        refine iy_i (by omega) (by omega) ?_
        refine x_nm (fun U18 hU18 => ?_)
        have e19 := up_f hU18
        refine hK 99 [some (vR 103 p), some (vI s), some (vI 0)] [] U18 ?_
        have e20 : U18 103 p 3 = T1 103 p 3 := up_k hU18 (by exact Nat.ne_of_beq_eq_false rfl) p 3
        refine c_99 _ 0 U18 (Nat.le_refl _) ?_ ?_ ?_ ?_ ?_
        · exact fr_u (fr_t (fr_0 _ _) (fr_s hf_79 rfl)) hU18 rfl
        · omega
        · exact oi_u (o1) hU18
        · intro j a b
          by_cases z : j = s
          · rw [z, up_f hU18]; omega
          · rw [up_g hU18 (fun y => z y.2.2)]; exact fb1 j a (by omega)
        · rw [rs_u hU18 rfl, ob1, bl9_0, hr9]
  refine j_blx (F := fX3) tb_X3 (nn_ _) bk_X3_backToBeginning_e_0 bs_X3_backToBeginning_e_0 hz (fun K hK => ?_)
  refine bd_i (by omega) ?_
  refine x_nm (fun U21 hU21 => ?_)
  have e22 := up_f hU21
  refine bd_i (by omega) ?_
  refine x_nm (fun U23 hU23 => ?_)
  have e24 := up_f hU23
  have e26 : U23 103 p 0 = T 103 p 0 := (up_j hU23 (by decide) 103 p).trans (up_j hU21 (by decide) 103 p)
  refine ix_i (by omega) ?_
  intro b27 b27b
  have e28 : U23 401 (T 103 p 0) 0 = T 401 (T 103 p 0) 0 := (up_k hU23 (by exact Nat.ne_of_beq_eq_false rfl) (T 103 p 0) 0).trans (up_k hU21 (by exact Nat.ne_of_beq_eq_false rfl) (T 103 p 0) 0)
  have e29 : U23 401 (U23 103 p 0) 0 = T 401 (T 103 p 0) 0 := by rw [e26]; exact e28
  rw [e29] at b27 b27b ⊢
  refine And.intro (fun c30 => ?_) (fun c30 => ?_)
  · refine hK 25 _ [vR 103 p] U23 ?_
    refine j_blx (F := fX3) tb_X3 (nn_ _) bk_X3_backToBeginning_e_25 bs_X3_backToBeginning_e_25 hz (fun K hK => ?_)
    refine bd_i (by omega) ?_
    refine x_nm (fun U31 hU31 => ?_)
    have e32 := up_f hU31
    refine hK 34 _ [vI 0, vR 466 p] U31 ?_
    refine j_callS (y := yJ7_fill_53178) (Yc := zJ7_fill_53178) (rest := []) [vR 466 p, vI 0] (ct_J7_fill_466_e (T := U31) (by omega)) cl_X3_62 (qd_c (by decide +kernel)) (nn_ _) rfl (rf_of rfl) (Nat.le_of_ble_eq_true rfl) (Nat.le_of_ble_eq_true rfl) (Nat.le_of_ble_eq_true rfl) rfl ?_
    rintro U33 _ ⟨rfl, fU33, qU33o, qU33, qU33e⟩
    show J_ zX3_backToBeginning T (po_X3_backToBeginning_e T p ru) 0 0 37 _ [] U33
    refine j_blx (F := fX3) tb_X3 (nn_ _) bk_X3_backToBeginning_e_37 bs_X3_backToBeginning_e_37 hz (fun K hK => ?_)
    refine hK 42 _ [vI 0, vR 467 p] U33 ?_
    refine j_callS (y := yJ7_fill_53178) (Yc := zJ7_fill_53178) (rest := []) [vR 467 p, vI 0] (ct_J7_fill_467_e (T := U33) (by omega)) cl_X3_62 (qd_c (by decide +kernel)) (nn_ _) rfl (rf_of rfl) (Nat.le_of_ble_eq_true rfl) (Nat.le_of_ble_eq_true rfl) (Nat.le_of_ble_eq_true rfl) rfl ?_
    rintro U34 _ ⟨rfl, fU34, qU34o, qU34, qU34e⟩
    show J_ zX3_backToBeginning T (po_X3_backToBeginning_e T p ru) 0 0 45 _ [] U34
    refine j_blx (F := fX3) tb_X3 (nn_ _) bk_X3_backToBeginning_e_45 bs_X3_backToBeginning_e_45 hz (fun K hK => ?_)
    refine hK 50 _ [vI 0, vR 468 p] U34 ?_
    refine j_callS (y := yJ7_fill_53178) (Yc := zJ7_fill_53178) (rest := []) [vR 468 p, vI 0] (ct_J7_fill_468_e (T := U34) (by omega)) cl_X3_62 (qd_c (by decide +kernel)) (nn_ _) rfl (rf_of rfl) (Nat.le_of_ble_eq_true rfl) (Nat.le_of_ble_eq_true rfl) (Nat.le_of_ble_eq_true rfl) rfl ?_
    rintro U35 _ ⟨rfl, fU35, qU35o, qU35, qU35e⟩
    show J_ zX3_backToBeginning T (po_X3_backToBeginning_e T p ru) 0 0 53 _ [] U35
    refine j_blx (F := fX3) tb_X3 (nn_ _) bk_X3_backToBeginning_e_53 bs_X3_backToBeginning_e_53 hz (fun K hK => ?_)
    refine hK 58 _ [vI 0, vR 469 p] U35 ?_
    refine j_callS (y := yJ7_fill_53178) (Yc := zJ7_fill_53178) (rest := []) [vR 469 p, vI 0] (ct_J7_fill_469_e (T := U35) (by omega)) cl_X3_62 (qd_c (by decide +kernel)) (nn_ _) rfl (rf_of rfl) (Nat.le_of_ble_eq_true rfl) (Nat.le_of_ble_eq_true rfl) (Nat.le_of_ble_eq_true rfl) rfl ?_
    rintro U36 _ ⟨rfl, fU36, qU36o, qU36, qU36e⟩
    show J_ zX3_backToBeginning T (po_X3_backToBeginning_e T p ru) 0 0 61 _ [] U36
    refine j_blx (F := fX3) tb_X3 (nn_ _) bk_X3_backToBeginning_e_61 bs_X3_backToBeginning_e_61 hz (fun K hK => ?_)
    refine hK 66 _ [vI 0, vR 472 p] U36 ?_
    refine j_callS (y := yJ7_fill_53178) (Yc := zJ7_fill_53178) (rest := []) [vR 472 p, vI 0] (ct_J7_fill_472_e (T := U36) (by omega)) cl_X3_62 (qd_c (by decide +kernel)) (nn_ _) rfl (rf_of rfl) (Nat.le_of_ble_eq_true rfl) (Nat.le_of_ble_eq_true rfl) (Nat.le_of_ble_eq_true rfl) rfl ?_
    rintro U37 _ ⟨rfl, fU37, qU37o, qU37, qU37e⟩
    show J_ zX3_backToBeginning T (po_X3_backToBeginning_e T p ru) 0 0 69 _ [] U37
    refine j_blx (F := fX3) tb_X3 (nn_ _) bk_X3_backToBeginning_e_69 bs_X3_backToBeginning_e_69 hz (fun K hK => ?_)
    refine hK 74 _ [vI 0, vR 473 p] U37 ?_
    refine j_callS (y := yJ7_fill_53178) (Yc := zJ7_fill_53178) (rest := []) [vR 473 p, vI 0] (ct_J7_fill_473_e (T := U37) (by omega)) cl_X3_62 (qd_c (by decide +kernel)) (nn_ _) rfl (rf_of rfl) (Nat.le_of_ble_eq_true rfl) (Nat.le_of_ble_eq_true rfl) (Nat.le_of_ble_eq_true rfl) rfl ?_
    rintro U38 _ ⟨rfl, fU38, qU38o, qU38, qU38e⟩
    show J_ zX3_backToBeginning T (po_X3_backToBeginning_e T p ru) 0 0 77 _ [] U38
    refine j_blx (F := fX3) tb_X3 (nn_ _) bk_X3_backToBeginning_e_77 bs_X3_backToBeginning_e_77 hz (fun K hK => ?_)
    refine hK 79 [some (vR 103 p), some (vI 0), none] [] U38 ?_
    have e39 : U38 103 p 3 = 0 := (fU38 103 p 3 rfl).trans ((fU37 103 p 3 rfl).trans ((fU36 103 p 3 rfl).trans ((fU35 103 p 3 rfl).trans ((fU34 103 p 3 rfl).trans ((fU33 103 p 3 rfl).trans ((up_j hU31 (by decide) 103 p).trans ((up_j hU23 (by decide) 103 p).trans (up_f hU21))))))))
    refine c_79 _ 0 U38 (Nat.le_refl _) ?_ ?_ ?_ ?_ ?_
    · exact fr_t (fr_t (fr_t (fr_t (fr_t (fr_t (fr_u (fr_u (fr_u (fr_0 _ _) hU21 rfl) hU23 rfl) hU31 rfl) (fr_s fU33 rfl)) (fr_s fU34 rfl)) (fr_s fU35 rfl)) (fr_s fU36 rfl)) (fr_s fU37 rfl)) (fr_s fU38 rfl)
    · omega
    · exact oi_t (oi_t (oi_t (oi_t (oi_t (oi_t (oi_u (oi_u (oi_u (oi_r) hU21) hU23) hU31) qU33o) qU34o) qU35o) qU36o) qU37o) qU38o
    · intro j a b; omega
    have rU21 : rs9_ U21 p = u2_ (rs9_ T p) 103 3 0 := rs_u hU21 rfl
    have rU23 : rs9_ U23 p = u2_ (u2_ (rs9_ T p) 103 3 0) 103 4 0 := by rw [rs_u hU23 rfl, rU21]
    have rU31 : rs9_ U31 p = u2_ (u2_ (u2_ (rs9_ T p) 103 3 0) 103 4 0) 103 5 0 := by rw [rs_u hU31 rfl, rU23]
    have rU33 : rs9_ U33 p = fy2_ (u2_ (u2_ (u2_ (rs9_ T p) 103 3 0) 103 4 0) 103 5 0) 466 2 0 := by rw [qU33e, rU31]
    have rU34 : rs9_ U34 p = fy2_ (fy2_ (u2_ (u2_ (u2_ (rs9_ T p) 103 3 0) 103 4 0) 103 5 0) 466 2 0) 467 2 0 := by rw [qU34e, rU33]
    have rU35 : rs9_ U35 p = fy2_ (fy2_ (fy2_ (u2_ (u2_ (u2_ (rs9_ T p) 103 3 0) 103 4 0) 103 5 0) 466 2 0) 467 2 0) 468 2 0 := by rw [qU35e, rU34]
    have rU36 : rs9_ U36 p = fy2_ (fy2_ (fy2_ (fy2_ (u2_ (u2_ (u2_ (rs9_ T p) 103 3 0) 103 4 0) 103 5 0) 466 2 0) 467 2 0) 468 2 0) 469 2 0 := by rw [qU36e, rU35]
    have rU37 : rs9_ U37 p = fy2_ (fy2_ (fy2_ (fy2_ (fy2_ (u2_ (u2_ (u2_ (rs9_ T p) 103 3 0) 103 4 0) 103 5 0) 466 2 0) 467 2 0) 468 2 0) 469 2 0) 472 20 0 := by rw [qU37e, rU36]
    have rU38 : rs9_ U38 p = fy2_ (fy2_ (fy2_ (fy2_ (fy2_ (fy2_ (u2_ (u2_ (u2_ (rs9_ T p) 103 3 0) 103 4 0) 103 5 0) 466 2 0) 467 2 0) 468 2 0) 469 2 0) 472 20 0) 473 20 0 := by rw [qU38e, rU37]
    · rw [rU38]
      show bi9_ (rs9_ T p) 0 = bi9_ (rs9_ T p) (cz_ (ru 0 = 3) 1 0)
      rw [cz_f (show ¬ (ru 0 = 3) by omega)]
  · refine hK 26 [some (vR 103 p), none, none] [vI 1, vR 103 p] U23 ?_
    refine j_blx (F := fX3) tb_X3 (nn_ _) bk_X3_backToBeginning_e_26 bs_X3_backToBeginning_e_26 hz (fun K hK => ?_)
    refine bd_i (by omega) ?_
    refine x_nm (fun U40 hU40 => ?_)
    have e41 := up_f hU40
    refine hK 34 _ [vI 0, vR 466 p] U40 ?_
    refine j_callS (y := yJ7_fill_53178) (Yc := zJ7_fill_53178) (rest := []) [vR 466 p, vI 0] (ct_J7_fill_466_e (T := U40) (by omega)) cl_X3_62 (qd_c (by decide +kernel)) (nn_ _) rfl (rf_of rfl) (Nat.le_of_ble_eq_true rfl) (Nat.le_of_ble_eq_true rfl) (Nat.le_of_ble_eq_true rfl) rfl ?_
    rintro U42 _ ⟨rfl, fU42, qU42o, qU42, qU42e⟩
    show J_ zX3_backToBeginning T (po_X3_backToBeginning_e T p ru) 0 0 37 _ [] U42
    refine j_blx (F := fX3) tb_X3 (nn_ _) bk_X3_backToBeginning_e_37 bs_X3_backToBeginning_e_37 hz (fun K hK => ?_)
    refine hK 42 _ [vI 0, vR 467 p] U42 ?_
    refine j_callS (y := yJ7_fill_53178) (Yc := zJ7_fill_53178) (rest := []) [vR 467 p, vI 0] (ct_J7_fill_467_e (T := U42) (by omega)) cl_X3_62 (qd_c (by decide +kernel)) (nn_ _) rfl (rf_of rfl) (Nat.le_of_ble_eq_true rfl) (Nat.le_of_ble_eq_true rfl) (Nat.le_of_ble_eq_true rfl) rfl ?_
    rintro U43 _ ⟨rfl, fU43, qU43o, qU43, qU43e⟩
    show J_ zX3_backToBeginning T (po_X3_backToBeginning_e T p ru) 0 0 45 _ [] U43
    refine j_blx (F := fX3) tb_X3 (nn_ _) bk_X3_backToBeginning_e_45 bs_X3_backToBeginning_e_45 hz (fun K hK => ?_)
    refine hK 50 _ [vI 0, vR 468 p] U43 ?_
    refine j_callS (y := yJ7_fill_53178) (Yc := zJ7_fill_53178) (rest := []) [vR 468 p, vI 0] (ct_J7_fill_468_e (T := U43) (by omega)) cl_X3_62 (qd_c (by decide +kernel)) (nn_ _) rfl (rf_of rfl) (Nat.le_of_ble_eq_true rfl) (Nat.le_of_ble_eq_true rfl) (Nat.le_of_ble_eq_true rfl) rfl ?_
    rintro U44 _ ⟨rfl, fU44, qU44o, qU44, qU44e⟩
    show J_ zX3_backToBeginning T (po_X3_backToBeginning_e T p ru) 0 0 53 _ [] U44
    refine j_blx (F := fX3) tb_X3 (nn_ _) bk_X3_backToBeginning_e_53 bs_X3_backToBeginning_e_53 hz (fun K hK => ?_)
    refine hK 58 _ [vI 0, vR 469 p] U44 ?_
    refine j_callS (y := yJ7_fill_53178) (Yc := zJ7_fill_53178) (rest := []) [vR 469 p, vI 0] (ct_J7_fill_469_e (T := U44) (by omega)) cl_X3_62 (qd_c (by decide +kernel)) (nn_ _) rfl (rf_of rfl) (Nat.le_of_ble_eq_true rfl) (Nat.le_of_ble_eq_true rfl) (Nat.le_of_ble_eq_true rfl) rfl ?_
    rintro U45 _ ⟨rfl, fU45, qU45o, qU45, qU45e⟩
    show J_ zX3_backToBeginning T (po_X3_backToBeginning_e T p ru) 0 0 61 _ [] U45
    refine j_blx (F := fX3) tb_X3 (nn_ _) bk_X3_backToBeginning_e_61 bs_X3_backToBeginning_e_61 hz (fun K hK => ?_)
    refine hK 66 _ [vI 0, vR 472 p] U45 ?_
    refine j_callS (y := yJ7_fill_53178) (Yc := zJ7_fill_53178) (rest := []) [vR 472 p, vI 0] (ct_J7_fill_472_e (T := U45) (by omega)) cl_X3_62 (qd_c (by decide +kernel)) (nn_ _) rfl (rf_of rfl) (Nat.le_of_ble_eq_true rfl) (Nat.le_of_ble_eq_true rfl) (Nat.le_of_ble_eq_true rfl) rfl ?_
    rintro U46 _ ⟨rfl, fU46, qU46o, qU46, qU46e⟩
    show J_ zX3_backToBeginning T (po_X3_backToBeginning_e T p ru) 0 0 69 _ [] U46
    refine j_blx (F := fX3) tb_X3 (nn_ _) bk_X3_backToBeginning_e_69 bs_X3_backToBeginning_e_69 hz (fun K hK => ?_)
    refine hK 74 _ [vI 0, vR 473 p] U46 ?_
    refine j_callS (y := yJ7_fill_53178) (Yc := zJ7_fill_53178) (rest := []) [vR 473 p, vI 0] (ct_J7_fill_473_e (T := U46) (by omega)) cl_X3_62 (qd_c (by decide +kernel)) (nn_ _) rfl (rf_of rfl) (Nat.le_of_ble_eq_true rfl) (Nat.le_of_ble_eq_true rfl) (Nat.le_of_ble_eq_true rfl) rfl ?_
    rintro U47 _ ⟨rfl, fU47, qU47o, qU47, qU47e⟩
    show J_ zX3_backToBeginning T (po_X3_backToBeginning_e T p ru) 0 0 77 _ [] U47
    refine j_blx (F := fX3) tb_X3 (nn_ _) bk_X3_backToBeginning_e_77 bs_X3_backToBeginning_e_77 hz (fun K hK => ?_)
    refine hK 79 [some (vR 103 p), some (vI 0), none] [] U47 ?_
    have e48 : U47 103 p 3 = 0 := (fU47 103 p 3 rfl).trans ((fU46 103 p 3 rfl).trans ((fU45 103 p 3 rfl).trans ((fU44 103 p 3 rfl).trans ((fU43 103 p 3 rfl).trans ((fU42 103 p 3 rfl).trans ((up_j hU40 (by decide) 103 p).trans ((up_j hU23 (by decide) 103 p).trans (up_f hU21))))))))
    refine c_79 _ 0 U47 (Nat.le_refl _) ?_ ?_ ?_ ?_ ?_
    · exact fr_t (fr_t (fr_t (fr_t (fr_t (fr_t (fr_u (fr_u (fr_u (fr_0 _ _) hU21 rfl) hU23 rfl) hU40 rfl) (fr_s fU42 rfl)) (fr_s fU43 rfl)) (fr_s fU44 rfl)) (fr_s fU45 rfl)) (fr_s fU46 rfl)) (fr_s fU47 rfl)
    · omega
    · exact oi_t (oi_t (oi_t (oi_t (oi_t (oi_t (oi_u (oi_u (oi_u (oi_r) hU21) hU23) hU40) qU42o) qU43o) qU44o) qU45o) qU46o) qU47o
    · intro j a b; omega
    have rU21 : rs9_ U21 p = u2_ (rs9_ T p) 103 3 0 := rs_u hU21 rfl
    have rU23 : rs9_ U23 p = u2_ (u2_ (rs9_ T p) 103 3 0) 103 4 0 := by rw [rs_u hU23 rfl, rU21]
    have rU40 : rs9_ U40 p = u2_ (u2_ (u2_ (rs9_ T p) 103 3 0) 103 4 0) 103 5 1 := by rw [rs_u hU40 rfl, rU23]
    have rU42 : rs9_ U42 p = fy2_ (u2_ (u2_ (u2_ (rs9_ T p) 103 3 0) 103 4 0) 103 5 1) 466 2 0 := by rw [qU42e, rU40]
    have rU43 : rs9_ U43 p = fy2_ (fy2_ (u2_ (u2_ (u2_ (rs9_ T p) 103 3 0) 103 4 0) 103 5 1) 466 2 0) 467 2 0 := by rw [qU43e, rU42]
    have rU44 : rs9_ U44 p = fy2_ (fy2_ (fy2_ (u2_ (u2_ (u2_ (rs9_ T p) 103 3 0) 103 4 0) 103 5 1) 466 2 0) 467 2 0) 468 2 0 := by rw [qU44e, rU43]
    have rU45 : rs9_ U45 p = fy2_ (fy2_ (fy2_ (fy2_ (u2_ (u2_ (u2_ (rs9_ T p) 103 3 0) 103 4 0) 103 5 1) 466 2 0) 467 2 0) 468 2 0) 469 2 0 := by rw [qU45e, rU44]
    have rU46 : rs9_ U46 p = fy2_ (fy2_ (fy2_ (fy2_ (fy2_ (u2_ (u2_ (u2_ (rs9_ T p) 103 3 0) 103 4 0) 103 5 1) 466 2 0) 467 2 0) 468 2 0) 469 2 0) 472 20 0 := by rw [qU46e, rU45]
    have rU47 : rs9_ U47 p = fy2_ (fy2_ (fy2_ (fy2_ (fy2_ (fy2_ (u2_ (u2_ (u2_ (rs9_ T p) 103 3 0) 103 4 0) 103 5 1) 466 2 0) 467 2 0) 468 2 0) 469 2 0) 472 20 0) 473 20 0 := by rw [qU47e, rU46]
    · rw [rU47]
      show bi9_ (rs9_ T p) 1 = bi9_ (rs9_ T p) (cz_ (ru 0 = 3) 1 0)
      rw [cz_t (show ru 0 = 3 by omega)]

