-- rows of the plays as lists
abbrev Rw_ : Type := Int × Int × Int × Int
def ra9_ (T : Zt) (a i : Int) : Rw_ := (T 190 a (i * 4), T 190 a (i * 4 + 1), T 190 a (i * 4 + 2), T 190 a (i * 4 + 3))
/-- the first n rows of a log -/
def hr9_ (T : Zt) (a : Int) : Nat → List Rw_
  | 0 => []
  | n + 1 => hr9_ T a n ++ [ra9_ T a (n : Int)]
theorem hrw_l {T : Zt} {a : Int} : ∀ n : Nat, (hr9_ T a n).length = n
  | 0 => rfl
  | n + 1 => by
    show (hr9_ T a n ++ [ra9_ T a (n : Int)]).length = n + 1
    rw [List.length_append, hrw_l n]
    rfl
theorem hrw_g {T : Zt} {a : Int} {i : Nat} : ∀ n : Nat, i < n → (hr9_ T a n)[i]? = some (ra9_ T a (i : Int))
  | 0, h => absurd h (Nat.not_lt_zero _)
  | n + 1, h => by
    show (hr9_ T a n ++ [ra9_ T a (n : Int)])[i]? = _
    by_cases z : i < n
    · rw [List.getElem?_append_left (by rw [hrw_l]; exact z)]
      exact hrw_g n z
    · have e : i = n := by omega
      subst e
      rw [List.getElem?_append_right (by rw [hrw_l]; exact Nat.le_refl _), hrw_l, Nat.sub_self]
      rfl
theorem hrw_n {T : Zt} {a : Int} {i n : Nat} (h : n ≤ i) : (hr9_ T a n)[i]? = none := List.getElem?_eq_none (by rw [hrw_l]; exact h)
theorem ra_e {T T' : Zt} {a a' i i' : Int} (h : ∀ j, 0 ≤ j → j < 4 → T' 190 a' (i' * 4 + j) = T 190 a (i * 4 + j)) : ra9_ T' a' i' = ra9_ T a i := by
  have h0 := h 0 (by decide) (by decide)
  have h1 := h 1 (by decide) (by decide)
  have h2 := h 2 (by decide) (by decide)
  have h3 := h 3 (by decide) (by decide)
  rw [Int.add_zero, Int.add_zero] at h0
  unfold ra9_
  rw [h0, h1, h2, h3]
theorem hrw_u {T : Zt} {a : Int} {n : Nat} {l : List Rw_} (hl : l.length = n) (h : ∀ i : Nat, i < n → l[i]? = some (ra9_ T a (i : Int))) : hr9_ T a n = l := by
  refine List.ext_getElem? (fun i => ?_)
  by_cases z : i < n
  · rw [hrw_g n z, h i z]
  · rw [hrw_n (by omega), List.getElem?_eq_none (by omega)]
theorem hrw_e {T T' : Zt} {a a' : Int} {n : Nat} (h : ∀ j, 0 ≤ j → j < 4 * (n : Int) → T' 190 a' j = T 190 a j) : hr9_ T' a' n = hr9_ T a n :=
  hrw_u (hrw_l n) (fun i z => by
    rw [hrw_g n z]
    exact congrArg some (ra_e (fun j j0 j1 => (h ((i : Int) * 4 + j) (by omega) (by omega)).symm)))
/-- a row is written over -/
theorem hrw_s {T T' : Zt} {a i n : Int} {q : Rw_} (h0 : 0 ≤ i) (hi : i < n) (h : ∀ j, ¬ (i * 4 ≤ j ∧ j < i * 4 + 4) → T' 190 a j = T 190 a j) (hq : ra9_ T' a i = q) : hr9_ T' a n.toNat = (hr9_ T a n.toNat).set i.toNat q := by
  refine hrw_u (by rw [List.length_set, hrw_l]) (fun j z => ?_)
  by_cases e : i.toNat = j
  · subst e
    rw [List.getElem?_set, if_pos rfl, if_pos (by rw [hrw_l]; omega), show ((i.toNat : Nat) : Int) = i by omega, hq]
  · rw [List.getElem?_set_ne e, hrw_g _ z]
    exact congrArg some (ra_e (fun t t0 t1 => (h ((j : Int) * 4 + t) (by omega)).symm))
/-- a row is taken out -/
theorem hrw_d {T T' : Zt} {a i n : Int} (h0 : 0 ≤ i) (hi : i < n) (h1 : ∀ j, j < i * 4 → T' 190 a j = T 190 a j) (h2 : ∀ j, i * 4 ≤ j → j < n * 4 - 4 → T' 190 a j = T 190 a (j + 4)) : hr9_ T' a (n - 1).toNat = (hr9_ T a n.toNat).eraseIdx i.toNat := by
  refine hrw_u (by rw [List.length_eraseIdx_of_lt (by rw [hrw_l]; omega), hrw_l]; omega) (fun j z => ?_)
  by_cases e : j < i.toNat
  · rw [List.getElem?_eraseIdx_of_lt e, hrw_g _ (by omega)]
    exact congrArg some (ra_e (fun t t0 t1 => (h1 ((j : Int) * 4 + t) (by omega)).symm))
  · rw [List.getElem?_eraseIdx_of_ge (by omega), hrw_g _ (by omega)]
    refine congrArg some (ra_e (fun t t0 t1 => ?_))
    rw [h2 ((j : Int) * 4 + t) (by omega) (by omega), show (((j + 1 : Nat) : Int)) * 4 + t = (j : Int) * 4 + t + 4 by omega]
/-- a row comes behind -/
theorem hrw_k {T T' : Zt} {a a' i n : Int} {q : Rw_} (h0 : 0 ≤ i) (hn : n = i + 1) (h : ∀ j, 0 ≤ j → j < i * 4 → T' 190 a' j = T 190 a j) (hq : ra9_ T' a' i = q) : hr9_ T' a' n.toNat = hr9_ T a i.toNat ++ [q] := by
  rw [show n.toNat = i.toNat + 1 by omega]
  show hr9_ T' a' i.toNat ++ [ra9_ T' a' ((i.toNat : Nat) : Int)] = _
  rw [hrw_e (T := T) (a := a) (fun j j0 j1 => h j j0 (by omega)), show ((i.toNat : Nat) : Int) = i by omega, hq]
theorem hrw_t {T : Zt} {a i : Int} (h0 : 0 ≤ i) : hr9_ T a (i + 1).toNat = hr9_ T a i.toNat ++ [ra9_ T a i] := hrw_k h0 rfl (fun _ _ _ => rfl) rfl
-- a run of rows
abbrev Rz_ : Type := Sg_ × List Rw_ × Int
noncomputable def stH_ (r : Int → Int) (x : Rz_) (q : Rw_) : Rz_ := cz_ (lw9_ r x.1 q.1 q.2.1 q.2.2.1 q.2.2.2 = 0) (ca9_ r x.1 q.1 q.2.1 q.2.2.1 q.2.2.2, x.2.1 ++ [q], x.2.2) (x.1, x.2.1, x.2.2 + 1)
noncomputable def stR_ (r : Int → Int) (m : Int) (x : Rz_) (q : Rw_) : Rz_ := cz_ (lwR_ r x.1 q.1 q.2.1 q.2.2.1 q.2.2.2 = 0) (plR_ r x.1 m q.1 q.2.1 q.2.2.1 q.2.2.2, x.2.1 ++ [q], x.2.2) (x.1, x.2.1, x.2.2 + 1)
noncomputable def rnH_ (r : Int → Int) (a : Sg_) (l : List Rw_) : Rz_ := l.foldl (stH_ r) (a, [], 0)
noncomputable def rnR_ (r : Int → Int) (m : Int) (b : Sg_) (l : List Rw_) : Rz_ := l.foldl (stR_ r m) (b, [], 0)
theorem rnH_a {r : Int → Int} {a : Sg_} {l : List Rw_} {q : Rw_} : rnH_ r a (l ++ [q]) = stH_ r (rnH_ r a l) q := by
  unfold rnH_
  rw [List.foldl_append]
  rfl
theorem rnR_a {r : Int → Int} {m : Int} {b : Sg_} {l : List Rw_} {q : Rw_} : rnR_ r m b (l ++ [q]) = stR_ r m (rnR_ r m b l) q := by
  unfold rnR_
  rw [List.foldl_append]
  rfl
theorem stH_t {r : Int → Int} {x : Rz_} {k s q o : Int} (h : lw9_ r x.1 k s q o = 0) : stH_ r x (k, s, q, o) = (ca9_ r x.1 k s q o, x.2.1 ++ [(k, s, q, o)], x.2.2) := cz_t h
theorem stH_f {r : Int → Int} {x : Rz_} {k s q o : Int} (h : ¬ lw9_ r x.1 k s q o = 0) : stH_ r x (k, s, q, o) = (x.1, x.2.1, x.2.2 + 1) := cz_f h
theorem stR_t {r : Int → Int} {m : Int} {x : Rz_} {k s q o : Int} (h : lwR_ r x.1 k s q o = 0) : stR_ r m x (k, s, q, o) = (plR_ r x.1 m k s q o, x.2.1 ++ [(k, s, q, o)], x.2.2) := cz_t h
theorem stR_f {r : Int → Int} {m : Int} {x : Rz_} {k s q o : Int} (h : ¬ lwR_ r x.1 k s q o = 0) : stR_ r m x (k, s, q, o) = (x.1, x.2.1, x.2.2 + 1) := cz_f h
-- while a play goes on, someone stands on each field
def FN_ (a : Sg_) : Prop := a 103 3 = 0 → 1 ≤ a 470 0 ∧ 1 ≤ a 470 1
/-- the fields stay, and what has ended has ended -/
def NF_ (a a' : Sg_) : Prop := (∀ j, a' 470 j = a 470 j) ∧ (a' 103 3 = 0 → a 103 3 = 0)
theorem nf_r {a : Sg_} : NF_ a a := ⟨fun _ => rfl, id⟩
theorem nf_u {a b : Sg_} {k : Nat} {j v : Int} (h : NF_ a b) (c : k ≠ 470 ∧ k ≠ 103) : NF_ a (u2_ b k j v) := ⟨fun i => (u2_k (Ne.symm c.1) i).trans (h.1 i), fun z => h.2 ((u2_k (Ne.symm c.2) 3).symm.trans z)⟩
theorem nf_4 {a b : Sg_} {v : Int} (h : NF_ a b) : NF_ a (u2_ b 103 4 v) := ⟨fun i => (u2_k (by decide) i).trans (h.1 i), fun z => h.2 ((u2_n (by decide)).symm.trans z)⟩
theorem nf_5 {a b : Sg_} {v : Int} (h : NF_ a b) : NF_ a (u2_ b 103 5 v) := ⟨fun i => (u2_k (by decide) i).trans (h.1 i), fun z => h.2 ((u2_n (by decide)).symm.trans z)⟩
theorem nf_x {a b : Sg_} (h : NF_ a b) : NF_ a (u2_ b 103 3 1) := ⟨fun i => (u2_k (by decide) i).trans (h.1 i), fun z => absurd ((u2_s b 103 3 1).symm.trans z) (by decide)⟩
theorem nf_f {a b : Sg_} {k : Nat} {n v : Int} (h : NF_ a b) (c : k ≠ 470 ∧ k ≠ 103) : NF_ a (fy2_ b k n v) := ⟨fun i => (fy2_k (Ne.symm c.1) i).trans (h.1 i), fun z => h.2 ((fy2_k (Ne.symm c.2) 3).symm.trans z)⟩
theorem nf_g {a b : Sg_} {s : Int} (h : NF_ a b) : NF_ a (rt9_ b s) := ⟨fun i => (rt_k (by decide) i).trans (h.1 i), fun z => h.2 ((rt_k (by decide) 3).symm.trans z)⟩
theorem nf_t {a b c : Sg_} (h : NF_ a b) (g : NF_ b c) : NF_ a c := ⟨fun i => (g.1 i).trans (h.1 i), fun z => h.2 (g.2 z)⟩
theorem cz_p {A : Type} {Q : A → Prop} {c : Prop} {x y : A} (h : c → Q x) (g : ¬ c → Q y) : Q (cz_ c x y) := by
  by_cases z : c
  · rw [cz_t z]; exact h z
  · rw [cz_f z]; exact g z
theorem fn_n {a b : Sg_} (h : FN_ a) (g : NF_ a b) : FN_ b := fun z => by
  have y := h (g.2 z)
  rw [g.1 0, g.1 1]
  exact y
theorem nf_pv {r : Int → Int} {a : Sg_} {s : Int} : NF_ a (pv9_ r a s) := by
  unfold pv9_
  repeat' (first | exact nf_r | refine cz_p (Q := NF_ a) (fun _ => ?_) (fun _ => ?_) | refine nf_x ?_ | refine nf_4 ?_ | refine nf_5 ?_ | refine nf_u ?_ (by decide) | refine nf_f ?_ (by decide) | refine nf_g ?_)
theorem nf_pt {r : Int → Int} {a : Sg_} {k s : Int} : NF_ a (pt9_ r a k s) := by
  unfold pt9_
  repeat' (first | exact nf_r | refine cz_p (Q := NF_ a) (fun _ => ?_) (fun _ => ?_) | refine nf_x ?_ | refine nf_4 ?_ | refine nf_5 ?_ | refine nf_u ?_ (by decide) | refine nf_f ?_ (by decide))
theorem nf_eh {r : Int → Int} {a : Sg_} : NF_ a (eh9_ r a) := by
  unfold eh9_
  repeat' (first | exact nf_r | refine cz_p (Q := NF_ a) (fun _ => ?_) (fun _ => ?_) | refine nf_x ?_ | refine nf_4 ?_ | refine nf_5 ?_ | refine nf_u ?_ (by decide) | refine nf_f ?_ (by decide))
theorem nf_co {r : Int → Int} {a : Sg_} : NF_ a (co9_ r a) := by
  unfold co9_
  refine cz_p (Q := NF_ a) (fun _ => nf_t ?_ nf_eh) (fun _ => ?_)
  · repeat' (first | exact nf_r | refine nf_u ?_ (by decide) | refine nf_f ?_ (by decide))
  · repeat' (first | exact nf_r | refine nf_u ?_ (by decide) | refine nf_f ?_ (by decide))
theorem nf_gb {r : Int → Int} {a b : Sg_} {s v : Int} (h : NF_ a b) : NF_ a (gb9_ r b s v) := by
  unfold gb9_
  repeat' (first | exact h | refine cz_p (Q := NF_ a) (fun _ => ?_) (fun _ => ?_) | refine nf_x ?_ | refine nf_u ?_ (by decide) | refine nf_f ?_ (by decide))
theorem nf_wk {r : Int → Int} {a : Sg_} {s : Int} : NF_ a (wk9_ r a s) := by
  unfold wk9_
  repeat' (first | exact nf_r | refine cz_p (Q := NF_ a) (fun _ => ?_) (fun _ => ?_) | refine nf_gb ?_ | refine nf_x ?_ | refine nf_4 ?_ | refine nf_5 ?_ | refine nf_u ?_ (by decide))
theorem nf_ht {r : Int → Int} {a : Sg_} {s v : Int} : NF_ a (ht9_ r a s v) := by
  unfold ht9_
  exact nf_gb (nf_u nf_r (by decide))
theorem nf_pb {r : Int → Int} {a : Sg_} {k s v : Int} : NF_ a (pbb9_ r a k s v) := by
  unfold pbb9_
  refine cz_p (Q := NF_ a) (fun _ => nf_ht) (fun _ => cz_p (Q := NF_ a) (fun _ => cz_p (Q := NF_ a) (fun _ => nf_t (nf_u nf_r (by decide)) nf_wk) (fun _ => nf_u nf_r (by decide))) (fun _ => cz_p (Q := NF_ a) (fun _ => cz_p (Q := NF_ a) (fun _ => nf_t (nf_u nf_r (by decide)) nf_co) (fun _ => nf_u nf_r (by decide))) (fun _ => nf_co)))
theorem nf_su {r : Int → Int} {a : Sg_} {s q o : Int} : NF_ a (su9_ r a s q o) := by
  unfold su9_
  refine cz_p (Q := NF_ a) (fun _ => nf_r) (fun _ => ?_)
  repeat' (first | exact nf_r | refine nf_u ?_ (by decide))
theorem fn_so {r : Int → Int} {a : Sg_} {s k : Int} (w : 1 ≤ r 9) (h : FN_ a) : FN_ (so9_ r a s k) := by
  unfold so9_
  refine cz_p (Q := FN_) (fun _ => h) (fun _ => cz_p (Q := FN_) (fun _ => fun z => absurd z ?_) (fun c => fun z => ?_))
  · rw [u2_k (by decide), u2_k (by decide), u2_s]; decide
  · have e0 : ∀ j, u2_ (cg9_ (u2_ a 472 (a 471 (s * 6 + k)) 3) s k) 470 s (a 470 s - 1) 470 j = if j = s then a 470 s - 1 else a 470 j := fun j => by
      by_cases y : j = s
      · rw [if_pos y, y, u2_s]
      · rw [if_neg y, u2_n (fun t => y t.2), cg9_k (by decide), u2_k (by decide)]
    rw [u2_k (by decide), cg9_k (by decide), u2_k (by decide)] at z
    have y := h z
    rw [e0, e0]
    refine ⟨?_, ?_⟩
    · by_cases t : (0 : Int) = s
      · rw [if_pos t]; omega
      · rw [if_neg t]; exact y.1
    · by_cases t : (1 : Int) = s
      · rw [if_pos t]; omega
      · rw [if_neg t]; exact y.2
theorem fn_yl {r : Int → Int} {a : Sg_} {s k : Int} (w : 1 ≤ r 9) (h : FN_ a) : FN_ (yl9_ r a s k) := by
  unfold yl9_
  exact cz_p (Q := FN_) (fun _ => h) (fun _ => cz_p (Q := FN_) (fun _ => fn_so w (fn_n h (nf_u nf_r (by decide)))) (fun _ => fn_n h (nf_u nf_r (by decide))))
theorem fn_pf {r : Int → Int} {a : Sg_} {k s q : Int} (w : 1 ≤ r 9) (h : FN_ a) (h3 : a 103 3 = 0) : FN_ (pf9_ r a k s q) := by
  have g := h h3
  unfold pf9_
  refine cz_p (Q := FN_) (fun _ => fn_n h (nf_u nf_r (by decide))) (fun _ => cz_p (Q := FN_) (fun _ => fn_n h (nf_u nf_r (by decide))) (fun _ => cz_p (Q := FN_) (fun _ => fn_yl w h) (fun _ => cz_p (Q := FN_) (fun _ => fn_so w h) (fun _ => cz_p (Q := FN_) (fun _ => fn_n h (nf_x (nf_4 nf_r))) (fun _ => fun _ => ?_)))))
  rw [u2_k (by decide), u2_k (by decide), u2_k (by decide), u2_k (by decide)]
  exact g
theorem fn_ca {r : Int → Int} {a : Sg_} {k s q o : Int} (w : RB9_ r) (h : FN_ a) (hl : lw9_ r a k s q o = 0) : FN_ (ca9_ r a k s q o) := by
  have h3 := (lw_0 hl).1
  have w9 : 1 ≤ r 9 := w.2.1.1
  unfold ca9_
  exact cz_p (Q := FN_) (fun _ => fn_n h nf_su) (fun _ => cz_p (Q := FN_) (fun _ => fn_pf w9 h h3) (fun _ => cz_p (Q := FN_) (fun _ => fn_n h nf_pv) (fun _ => cz_p (Q := FN_) (fun _ => fn_n h nf_pt) (fun _ => fn_n h nf_pb))))
/-- both runs are the same -/
theorem rn_f {m : Int} {r : Int → Int} (w : RB9_ r) : ∀ (l : List Rw_) (x y : Rz_) (n : Int), SI_ m n r y.1 x.1 → FN_ x.1 → y.2 = x.2 → n + 3 * (l.length : Int) ≤ 1000000 → SI_ m (n + 3 * (l.length : Int)) r (l.foldl (stR_ r m) y).1 (l.foldl (stH_ r) x).1 ∧ FN_ (l.foldl (stH_ r) x).1 ∧ (l.foldl (stR_ r m) y).2 = (l.foldl (stH_ r) x).2
  | [], x, y, n, h, f, e, _ => ⟨by rw [show n + 3 * (([] : List Rw_).length : Int) = n by simp]; exact h, f, e⟩
  | (k, s, q, o) :: l, x, y, n, h, f, e, g => by
    have g' : n + 3 + 3 * (l.length : Int) ≤ 1000000 := by
      rw [List.length_cons] at g
      omega
    have hn := h.2.2.1
    have el : lwR_ r y.1 k s q o = lw9_ r x.1 k s q o := lw_q h.1 h.2.1 (fun s a b => h.2.2.2.2.2.2.2.2.2 s a b)
    rw [show n + 3 * (((k, s, q, o) :: l).length : Int) = n + 3 + 3 * (l.length : Int) by rw [List.length_cons]; omega]
    show SI_ m _ r (l.foldl (stR_ r m) (stR_ r m y (k, s, q, o))).1 (l.foldl (stH_ r) (stH_ r x (k, s, q, o))).1 ∧ FN_ (l.foldl (stH_ r) (stH_ r x (k, s, q, o))).1 ∧ (l.foldl (stR_ r m) (stR_ r m y (k, s, q, o))).2 = (l.foldl (stH_ r) (stH_ r x (k, s, q, o))).2
    by_cases z : lw9_ r x.1 k s q o = 0
    · rw [stH_t z, stR_t (el.trans z)]
      have h3 := (lw_0 z).1
      refine rn_f w l _ _ (n + 3) (si_ca h w z (fun t t0 t1 => ?_) (by omega)) (fn_ca w f z) ?_ g'
      · have y9 := f h3
        rcases (by omega : t = 0 ∨ t = 1) with c | c
        · rw [c]; exact y9.1
        · rw [c]; exact y9.2
      · show (y.2.1 ++ [(k, s, q, o)], y.2.2) = (x.2.1 ++ [(k, s, q, o)], x.2.2)
        rw [e]
    · rw [stH_f z, stR_f (fun c => z (el.symm.trans c))]
      refine rn_f w l _ _ (n + 3) (si_m h (by omega) (by omega)) f ?_ g'
      show (y.2.1, y.2.2 + 1) = (x.2.1, x.2.2 + 1)
      rw [e]
