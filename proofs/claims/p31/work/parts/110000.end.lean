-- helps for the walks
theorem rg_i {z : Int} {Q : Prop} (h : -2147483648 ≤ z ∧ z ≤ 2147483647) (q : Q) : rg_ z Q := ⟨h.1, h.2, q⟩
theorem rl_i {z : Int} {Q : Prop} (h : -9223372036854775808 ≤ z ∧ z ≤ 9223372036854775807) (q : Q) : rl_ z Q := ⟨h.1, h.2, q⟩
theorem ix_i {x n : Int} {Q : Prop} (h : 0 ≤ x ∧ x < n) (q : Q) : 0 ≤ x ∧ x < n ∧ Q := ⟨h.1, h.2, q⟩
theorem bd_i {lo x hi : Int} {Q : Prop} (h : lo ≤ x ∧ x ≤ hi) (q : Q) : lo ≤ x ∧ x ≤ hi ∧ Q := ⟨h.1, h.2, q⟩
theorem iy_i {x n lo v hi : Int} {Q : Prop} (h : 0 ≤ x ∧ x < n) (h2 : lo ≤ v ∧ v ≤ hi) (q : Q) : 0 ≤ x ∧ x < n ∧ lo ≤ v ∧ v ≤ hi ∧ Q := ⟨h.1, h.2, h2.1, h2.2, q⟩
theorem dv_i {x y : Int} {Q : Prop} (h : 0 ≤ x ∧ 0 < y) (q : Q) : 0 ≤ x ∧ 0 < y ∧ Q := ⟨h.1, h.2, q⟩
theorem up_f {T T1 : Zt} {k : Nat} {i j v : Int} (h : T1 = up_ T k i j v) : T1 k i j = v := by rw [h]; exact up_s T k i j v
theorem up_g {T T1 : Zt} {k : Nat} {i j v : Int} (h : T1 = up_ T k i j v) {k' : Nat} {i' j' : Int} (n : ¬ (k' = k ∧ i' = i ∧ j' = j)) : T1 k' i' j' = T k' i' j' := by rw [h]; exact up_n n
theorem up_k {T T1 : Zt} {k : Nat} {i j v : Int} (h : T1 = up_ T k i j v) {k' : Nat} (n : k' ≠ k) (i' j' : Int) : T1 k' i' j' = T k' i' j' := up_g h (fun q => n q.1)
theorem up_j {T T1 : Zt} {k : Nat} {i j v : Int} (h : T1 = up_ T k i j v) {j' : Int} (n : j' ≠ j) (k' : Nat) (i' : Int) : T1 k' i' j' = T k' i' j' := up_g h (fun q => n q.2.2)
/-- which kinds and slots are written -/
def fw_ (ws : List (Nat × List Int)) (k : Nat) (j : Int) : Bool := match ws with
  | [] => false
  | (k', l) :: r => (k == k' && (match l with
    | [] => true
    | _ => l.contains j)) || fw_ r k j
/-- all else is as it was -/
def fr_ (ws : List (Nat × List Int)) (T T' : Zt) : Prop := ∀ k i j, fw_ ws k j = false → T' k i j = T k i j
theorem fr_0 (ws : List (Nat × List Int)) (T : Zt) : fr_ ws T T := fun _ _ _ _ => rfl
theorem fr_t {ws : List (Nat × List Int)} {T T1 T2 : Zt} (h : fr_ ws T T1) (g : fr_ ws T1 T2) : fr_ ws T T2 := fun k i j q => (g k i j q).trans (h k i j q)
theorem fr_u {ws : List (Nat × List Int)} {T T1 T2 : Zt} {k : Nat} {i j v : Int} (h : fr_ ws T T1) (e : T2 = up_ T1 k i j v) (w : fw_ ws k j = true) : fr_ ws T T2 := fun k' i' j' q => by
  rw [e, up_n (fun z => by rw [z.1, z.2.2, w] at q; cases q)]
  exact h k' i' j' q
/-- a smaller set of writes -/
def fs_ : List (Nat × List Int) → List (Nat × List Int) → Bool
  | [], _ => true
  | (k, l) :: r, ws => (match l with
    | [] => ws.any fun q => q.1 == k && q.2.isEmpty
    | l => l.all fun j => fw_ ws k j) && fs_ r ws
theorem fw_all {ws : List (Nat × List Int)} {k : Nat} (h : (ws.any fun q => q.1 == k && q.2.isEmpty) = true) (j : Int) : fw_ ws k j = true := by
  induction ws with
  | nil => simp at h
  | cons q r ih =>
    obtain ⟨k', l⟩ := q
    simp only [List.any_cons, Bool.or_eq_true, Bool.and_eq_true, beq_iff_eq, List.isEmpty_iff] at h
    unfold fw_
    rcases h with ⟨rfl, rfl⟩ | h
    · simp
    · rw [ih (by simpa using h)]
      simp
theorem fs_sub {a b : List (Nat × List Int)} (h : fs_ a b = true) {k : Nat} {j : Int} (w : fw_ a k j = true) : fw_ b k j = true := by
  induction a with
  | nil => simp [fw_] at w
  | cons q r ih =>
    obtain ⟨k', l⟩ := q
    unfold fs_ at h
    unfold fw_ at w
    simp only [Bool.and_eq_true] at h
    simp only [Bool.or_eq_true, Bool.and_eq_true, beq_iff_eq] at w
    rcases w with ⟨rfl, w⟩ | w
    · cases l with
      | nil => exact fw_all h.1 j
      | cons x t =>
        have h1 := List.all_eq_true.mp h.1 j (by simpa using w)
        exact h1
    · exact ih h.2 w
theorem fr_s {a b : List (Nat × List Int)} {T T' : Zt} (h : fr_ a T T') (s : fs_ a b = true) : fr_ b T T' := fun k i j q => h k i j (by
  cases w : fw_ a k j
  · rfl
  · rw [fs_sub s w] at q
    cases q)
section JT
variable {Y : Zm} {T0 T : Zt} {P : Zt → Option Zv → Prop} {bc bs : Nat} {pc : Int} {ls : Zl} {st : List Zv}
/-- a switch -/
theorem j_tsI (n : Nat) {dflt lo hi off tgt x : Int} {offs : Array Int} {len : Nat} (hp : 0 ≤ pc) (hd : decode Y.2.1 pc.toNat = .ok (.tableswitch dflt lo hi offs, len)) (hx : x = lo + n) (hh : lo + n ≤ hi) (ho : offs[n]? = some off) (ht : 0 ≤ tgt) (e : pc + off = tgt) (k : J_ Y T0 P bc bs tgt ls st T) : J_ Y T0 P bc bs pc ls (vI x :: st) T := by
  intro l p e' s m args below meth c D cA ad0 A X ad H locs cells slots lsC hc hs hR hS hB hT hL hl hn
  have ax : -2147483648 ≤ x ∧ x ≤ 2147483647 := ok_head hL
  have ex := i3_t ax.1 ax.2
  exact lv_tableIn (off := off) (tgt := tgt.toNat) X.1 X.2.1 hd (by rw [ex]; omega) (by rw [ex]; omega) (by rw [ex, show (x - lo).toNat = n by omega]; exact ho) (by omega) (k l p e' s m args below meth c D cA ad0 A X ad H locs cells slots lsC hc hs hR hS hB hT (ok_tail hL) hl hn)
theorem j_tsO {dflt lo hi tgt x : Int} {offs : Array Int} {len : Nat} (hp : 0 ≤ pc) (hd : decode Y.2.1 pc.toNat = .ok (.tableswitch dflt lo hi offs, len)) (hx : x < lo ∨ hi < x) (ht : 0 ≤ tgt) (e : pc + dflt = tgt) (k : J_ Y T0 P bc bs tgt ls st T) : J_ Y T0 P bc bs pc ls (vI x :: st) T := by
  intro l p e' s m args below meth c D cA ad0 A X ad H locs cells slots lsC hc hs hR hS hB hT hL hl hn
  have ax : -2147483648 ≤ x ∧ x ≤ 2147483647 := ok_head hL
  have ex := i3_t ax.1 ax.2
  exact lv_tableOut (tgt := tgt.toNat) X.1 X.2.1 hd (by rw [ex]; exact hx) (by omega) (k l p e' s m args below meth c D cA ad0 A X ad H locs cells slots lsC hc hs hR hS hB hT (ok_tail hL) hl hn)
end JT
