-- the play of a match: what one index holds, and what is done to it
noncomputable def cz_ {A : Type} (P : Prop) (x y : A) : A := @ite A P (Classical.propDecidable P) x y
theorem cz_t {A : Type} {P : Prop} {x y : A} (h : P) : cz_ P x y = x := by unfold cz_; exact if_pos h
theorem cz_f {A : Type} {P : Prop} {x y : A} (h : ¬ P) : cz_ P x y = y := by unfold cz_; exact if_neg h
abbrev Sg_ : Type := Nat → Int → Int
/-- the cells of a play that its course is told by -/
def dk_ (k : Nat) (j : Int) : Bool := Nat.beq k 448 || Nat.beq k 449 || (Nat.ble 466 k && Nat.ble k 473) || (Nat.beq k 103 && (decide (j = 3) || decide (j = 4) || decide (j = 5)))
abbrev rs9_ (T : Zt) (p : Int) : Sg_ := fun k j => cond (dk_ k j) (T k p j) 0
theorem rs_d {T : Zt} {p : Int} {k : Nat} {j : Int} (h : dk_ k j = true) : rs9_ T p k j = T k p j := by
  show cond (dk_ k j) (T k p j) 0 = T k p j
  rw [h]
  rfl
theorem rs_z {T : Zt} {p : Int} {k : Nat} {j : Int} (h : ¬ dk_ k j = true) : rs9_ T p k j = 0 := by
  show cond (dk_ k j) (T k p j) 0 = 0
  rw [Bool.not_eq_true] at h
  rw [h]
  rfl
/-- what leaves the cells of a play alone -/
theorem rs_n {T T1 : Zt} {p : Int} (h : ∀ (k : Nat) (j : Int), dk_ k j = true → T1 k p j = T k p j) : rs9_ T1 p = rs9_ T p := by
  funext k j
  by_cases z : dk_ k j = true
  · rw [rs_d z, rs_d z]; exact h k j z
  · rw [rs_z z, rs_z z]
theorem dk_c {k : Nat} {j : Int} (h : dk_ k j = true) : k = 448 ∨ k = 449 ∨ k = 466 ∨ k = 467 ∨ k = 468 ∨ k = 469 ∨ k = 470 ∨ k = 471 ∨ k = 472 ∨ k = 473 ∨ (k = 103 ∧ (j = 3 ∨ j = 4 ∨ j = 5)) := by
  unfold dk_ at h
  simp only [Bool.or_eq_true, Bool.and_eq_true, decide_eq_true_eq, Nat.beq_eq, Nat.ble_eq] at h
  omega
def u2_ (a : Sg_) (k : Nat) (j v : Int) : Sg_ := fun k' j' => if k' = k ∧ j' = j then v else a k' j'
theorem u2_s (a : Sg_) (k : Nat) (j v : Int) : u2_ a k j v k j = v := if_pos ⟨rfl, rfl⟩
theorem u2_n {a : Sg_} {k k' : Nat} {j j' v : Int} (h : ¬ (k' = k ∧ j' = j)) : u2_ a k j v k' j' = a k' j' := if_neg h
theorem u2_k {a : Sg_} {k k' : Nat} {j v : Int} (h : k' ≠ k) (j' : Int) : u2_ a k j v k' j' = a k' j' := if_neg (fun q => h q.1)
theorem rs_u {T T1 : Zt} {k : Nat} {p j v : Int} (h : T1 = up_ T k p j v) (d : dk_ k j = true) : rs9_ T1 p = u2_ (rs9_ T p) k j v := by
  funext k' j'
  by_cases z : k' = k ∧ j' = j
  · rw [z.1, z.2, u2_s, rs_d d]; exact up_f h
  · rw [u2_n z]
    by_cases y : dk_ k' j' = true
    · rw [rs_d y, rs_d y]; exact up_g h (fun q => z ⟨q.1, q.2.2⟩)
    · rw [rs_z y, rs_z y]
/-- a whole row filled -/
def fy2_ (a : Sg_) (k : Nat) (n v : Int) : Sg_ := fun k' j' => if k' = k ∧ 0 ≤ j' ∧ j' < n then v else a k' j'
theorem fy2_s {a : Sg_} {k : Nat} {n v j : Int} (h : 0 ≤ j ∧ j < n) : fy2_ a k n v k j = v := if_pos ⟨rfl, h⟩
theorem fy2_o {a : Sg_} {k : Nat} {n v j : Int} (h : ¬ (0 ≤ j ∧ j < n)) : fy2_ a k n v k j = a k j := if_neg (fun q => h q.2)
theorem fy2_k {a : Sg_} {k k' : Nat} {n v : Int} (h : k' ≠ k) (j : Int) : fy2_ a k n v k' j = a k' j := if_neg (fun q => h q.1)
theorem rs_f {T T1 : Zt} {k : Nat} {p n v : Int} (f : fr_ [(k, [])] T T1) (w : ∀ k' : Nat, k' ≠ k → ∀ j, fw_ [(k, [])] k' j = false) (a : ∀ j, 0 ≤ j → j < n → T1 k p j = v) (b : ∀ j, ¬ (0 ≤ j ∧ j < n) → T1 k p j = T k p j) (d : ∀ j, dk_ k j = true) : rs9_ T1 p = fy2_ (rs9_ T p) k n v := by
  funext k' j'
  by_cases z : k' = k
  · subst z
    by_cases y : 0 ≤ j' ∧ j' < n
    · rw [fy2_s y, rs_d (d j')]; exact a j' y.1 y.2
    · rw [fy2_o y, rs_d (d j'), rs_d (d j')]; exact b j' y
  · rw [fy2_k z]
    by_cases y : dk_ k' j' = true
    · rw [rs_d y, rs_d y]; exact f k' p j' (w k' z j')
    · rw [rs_z y, rs_z y]
theorem fw_1 {k k' : Nat} (h : k' ≠ k) (j : Int) : fw_ [(k, [])] k' j = false := by
  simp [fw_, h]
/-- those behind k go one place to the front -/
def cg9_ (a : Sg_) (s k : Int) : Sg_ := fun k' j => if k' = 471 ∧ s * 6 + k ≤ j ∧ j < s * 6 + a 470 s - 1 then a 471 (j + 1) else a k' j
theorem cg9_k {a : Sg_} {s k : Int} {k' : Nat} (h : k' ≠ 471) (j : Int) : cg9_ a s k k' j = a k' j := if_neg (fun q => h q.1)
theorem cg9_i {a : Sg_} {s k j : Int} (h : s * 6 + k ≤ j ∧ j < s * 6 + a 470 s - 1) : cg9_ a s k 471 j = a 471 (j + 1) := if_pos ⟨rfl, h⟩
theorem cg9_o {a : Sg_} {s k j : Int} (h : ¬ (s * 6 + k ≤ j ∧ j < s * 6 + a 470 s - 1)) : cg9_ a s k 471 j = a 471 j := if_neg (fun q => h q.2)
def rt9_ (a : Sg_) (s : Int) : Sg_ := u2_ (cg9_ a s 0) 471 (s * 6 + a 470 s - 1) (a 471 (s * 6))
/-- where a person stands in a side's field, from i on -/
def fpn_ (a : Sg_) (s q : Int) : Nat → Int → Int
  | 0, _ => -1
  | n + 1, i => if a 448 (a 471 (s * 6 + i)) = q then i else fpn_ a s q n (i + 1)
def fp9_ (a : Sg_) (s q : Int) : Int := fpn_ a s q (a 470 s).toNat 0
theorem fpn_t {a : Sg_} {s q i : Int} {n : Nat} (h : a 448 (a 471 (s * 6 + i)) = q) : fpn_ a s q (n + 1) i = i := if_pos h
theorem fpn_f {a : Sg_} {s q i : Int} {n : Nat} (h : a 448 (a 471 (s * 6 + i)) ≠ q) : fpn_ a s q (n + 1) i = fpn_ a s q n (i + 1) := if_neg h
theorem fpn_b {a : Sg_} {s q : Int} : ∀ (n : Nat) (i : Int), fpn_ a s q n i = -1 ∨ (i ≤ fpn_ a s q n i ∧ fpn_ a s q n i < i + n ∧ a 448 (a 471 (s * 6 + fpn_ a s q n i)) = q)
  | 0, _ => Or.inl rfl
  | n + 1, i => by
    by_cases z : a 448 (a 471 (s * 6 + i)) = q
    · rw [fpn_t z]; exact Or.inr ⟨Int.le_refl _, by omega, z⟩
    · rw [fpn_f z]
      rcases fpn_b (a := a) (s := s) (q := q) n (i + 1) with y | y
      · exact Or.inl y
      · exact Or.inr ⟨by omega, by omega, y.2.2⟩
theorem fp9_b {a : Sg_} {s q : Int} : fp9_ a s q = -1 ∨ (0 ≤ fp9_ a s q ∧ fp9_ a s q < a 470 s ∧ a 448 (a 471 (s * 6 + fp9_ a s q)) = q) := by
  rcases fpn_b (a := a) (s := s) (q := q) (a 470 s).toNat 0 with y | y
  · exact Or.inl y
  · refine Or.inr ⟨y.1, ?_, y.2.2⟩
    have z := y.2.1
    show fpn_ a s q (a 470 s).toNat 0 < a 470 s
    omega
/-- where a person sits on a side's bench, from i on -/
def bpn_ (a : Sg_) (s q : Int) : Nat → Int → Int
  | 0, _ => -1
  | n + 1, i => if a 448 (s * 10 + i) = q ∧ a 472 (s * 10 + i) = 0 then s * 10 + i else bpn_ a s q n (i + 1)
def bq9_ (a : Sg_) (s q : Int) : Int := bpn_ a s q (a 449 s).toNat 0
theorem bpn_t {a : Sg_} {s q i : Int} {n : Nat} (h : a 448 (s * 10 + i) = q ∧ a 472 (s * 10 + i) = 0) : bpn_ a s q (n + 1) i = s * 10 + i := if_pos h
theorem bpn_f {a : Sg_} {s q i : Int} {n : Nat} (h : ¬ (a 448 (s * 10 + i) = q ∧ a 472 (s * 10 + i) = 0)) : bpn_ a s q (n + 1) i = bpn_ a s q n (i + 1) := if_neg h
theorem bpn_b {a : Sg_} {s q : Int} : ∀ (n : Nat) (i : Int), bpn_ a s q n i = -1 ∨ (s * 10 + i ≤ bpn_ a s q n i ∧ bpn_ a s q n i < s * 10 + i + n ∧ a 448 (bpn_ a s q n i) = q ∧ a 472 (bpn_ a s q n i) = 0)
  | 0, _ => Or.inl rfl
  | n + 1, i => by
    by_cases z : a 448 (s * 10 + i) = q ∧ a 472 (s * 10 + i) = 0
    · rw [bpn_t z]; exact Or.inr ⟨Int.le_refl _, by omega, z.1, z.2⟩
    · rw [bpn_f z]
      rcases bpn_b (a := a) (s := s) (q := q) n (i + 1) with y | y
      · exact Or.inl y
      · exact Or.inr ⟨by omega, by omega, y.2.2⟩
theorem bq9_b {a : Sg_} {s q : Int} : bq9_ a s q = -1 ∨ (s * 10 ≤ bq9_ a s q ∧ bq9_ a s q < s * 10 + a 449 s ∧ a 448 (bq9_ a s q) = q ∧ a 472 (bq9_ a s q) = 0) := by
  rcases bpn_b (a := a) (s := s) (q := q) (a 449 s).toNat 0 with y | y
  · exact Or.inl y
  · have z := y.2.1
    have z2 := y.1
    refine Or.inr ⟨?_, ?_, y.2.2⟩
    · show s * 10 ≤ bpn_ a s q (a 449 s).toNat 0
      omega
    · show bpn_ a s q (a 449 s).toNat 0 < s * 10 + a 449 s
      omega
/-- a part of it -/
def cgp_ (a : Sg_) (s k j : Int) : Sg_ := fun k' i => if k' = 471 ∧ s * 6 + k ≤ i ∧ i < s * 6 + j - 1 then a 471 (i + 1) else a k' i
theorem cgp_0 {a : Sg_} {s k : Int} : cgp_ a s k (k + 1) = a := by
  funext k' i
  exact if_neg (fun q => by omega)
theorem cgp_s {a : Sg_} {s k j : Int} (h : k + 1 ≤ j) : u2_ (cgp_ a s k j) 471 (s * 6 + j - 1) (a 471 (s * 6 + j)) = cgp_ a s k (j + 1) := by
  funext k' i
  unfold cgp_
  by_cases z : k' = 471 ∧ i = s * 6 + j - 1
  · obtain ⟨z1, z2⟩ := z
    subst z1
    subst z2
    have y : (471 : Nat) = 471 ∧ s * 6 + k ≤ s * 6 + j - 1 ∧ s * 6 + j - 1 < s * 6 + (j + 1) - 1 := ⟨rfl, by omega, by omega⟩
    rw [u2_s, if_pos y, show s * 6 + j - 1 + 1 = s * 6 + j by omega]
  · rw [u2_n z]
    by_cases y : k' = 471 ∧ s * 6 + k ≤ i ∧ i < s * 6 + j - 1
    · have y2 : k' = 471 ∧ s * 6 + k ≤ i ∧ i < s * 6 + (j + 1) - 1 := ⟨y.1, y.2.1, by omega⟩
      rw [if_pos y, if_pos y2]
    · have y2 : ¬ (k' = 471 ∧ s * 6 + k ≤ i ∧ i < s * 6 + (j + 1) - 1) := fun q => y ⟨q.1, q.2.1, by
        have z3 : ¬ i = s * 6 + j - 1 := fun w => z ⟨q.1, w⟩
        omega⟩
      rw [if_neg y, if_neg y2]
theorem cgp_e {a : Sg_} {s k j : Int} (h : a 470 s ≤ j) (h2 : j = k + 1 ∨ j ≤ a 470 s) : cgp_ a s k j = cg9_ a s k := by
  funext k' i
  unfold cgp_ cg9_
  by_cases y : k' = 471 ∧ s * 6 + k ≤ i ∧ i < s * 6 + j - 1
  · have y2 : k' = 471 ∧ s * 6 + k ≤ i ∧ i < s * 6 + a 470 s - 1 := ⟨y.1, y.2.1, by omega⟩
    rw [if_pos y, if_pos y2]
  · have y2 : ¬ (k' = 471 ∧ s * 6 + k ≤ i ∧ i < s * 6 + a 470 s - 1) := fun q => y ⟨q.1, q.2.1, by omega⟩
    rw [if_neg y, if_neg y2]
theorem cgp_g {a : Sg_} {s k j i : Int} (h : s * 6 + j - 1 ≤ i) : cgp_ a s k j 471 i = a 471 i := if_neg (fun q => by omega)
/-- the first of a side stand in their order -/
def bl9_ (b : Sg_) (s k : Int) : Sg_ := fun k' j => if k' = 471 ∧ s * 6 ≤ j ∧ j < s * 6 + k then s * 10 + (j - s * 6) else if k' = 472 ∧ s * 10 ≤ j ∧ j < s * 10 + k then 1 else b k' j
theorem bl9_0 {b : Sg_} {s : Int} : bl9_ b s 0 = b := by
  funext k' j
  unfold bl9_
  have n1 : ¬ (k' = 471 ∧ s * 6 ≤ j ∧ j < s * 6 + 0) := fun q => by omega
  have n2 : ¬ (k' = 472 ∧ s * 10 ≤ j ∧ j < s * 10 + 0) := fun q => by omega
  rw [if_neg n1, if_neg n2]
theorem bl9_s {b : Sg_} {s k : Int} (h : 0 ≤ k) : u2_ (u2_ (bl9_ b s k) 471 (s * 6 + k) (s * 10 + k)) 472 (s * 10 + k) 1 = bl9_ b s (k + 1) := by
  funext k' j
  by_cases z : k' = 472 ∧ j = s * 10 + k
  · obtain ⟨z1, z2⟩ := z
    subst z1
    subst z2
    rw [u2_s]
    unfold bl9_
    have n1 : ¬ ((472 : Nat) = 471 ∧ s * 6 ≤ s * 10 + k ∧ s * 10 + k < s * 6 + (k + 1)) := fun q => absurd q.1 (by decide)
    have n2 : (472 : Nat) = 472 ∧ s * 10 ≤ s * 10 + k ∧ s * 10 + k < s * 10 + (k + 1) := ⟨rfl, by omega, by omega⟩
    rw [if_neg n1, if_pos n2]
  · rw [u2_n z]
    by_cases y : k' = 471 ∧ j = s * 6 + k
    · obtain ⟨y1, y2⟩ := y
      subst y1
      subst y2
      rw [u2_s]
      unfold bl9_
      have n1 : (471 : Nat) = 471 ∧ s * 6 ≤ s * 6 + k ∧ s * 6 + k < s * 6 + (k + 1) := ⟨rfl, by omega, by omega⟩
      rw [if_pos n1]
      omega
    · rw [u2_n y]
      unfold bl9_
      by_cases x : k' = 471 ∧ s * 6 ≤ j ∧ j < s * 6 + k
      · have x2 : k' = 471 ∧ s * 6 ≤ j ∧ j < s * 6 + (k + 1) := ⟨x.1, x.2.1, by omega⟩
        rw [if_pos x, if_pos x2]
      · have x2 : ¬ (k' = 471 ∧ s * 6 ≤ j ∧ j < s * 6 + (k + 1)) := fun q => x ⟨q.1, q.2.1, by
          have w : ¬ j = s * 6 + k := fun w => y ⟨q.1, w⟩
          omega⟩
        rw [if_neg x, if_neg x2]
        by_cases v : k' = 472 ∧ s * 10 ≤ j ∧ j < s * 10 + k
        · have v2 : k' = 472 ∧ s * 10 ≤ j ∧ j < s * 10 + (k + 1) := ⟨v.1, v.2.1, by omega⟩
          rw [if_pos v, if_pos v2]
        · have v2 : ¬ (k' = 472 ∧ s * 10 ≤ j ∧ j < s * 10 + (k + 1)) := fun q => v ⟨q.1, q.2.1, by
            have w : ¬ j = s * 10 + k := fun w => z ⟨q.1, w⟩
            omega⟩
          rw [if_neg v, if_neg v2]
