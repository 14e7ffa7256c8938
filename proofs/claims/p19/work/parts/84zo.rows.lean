-- rows of the plays as lists
abbrev Rw_ : Type := Int × Int × Int × Int
def ra9_ (T : Zt) (a i : Int) : Rw_ := (T 190 a (i * 4), T 190 a (i * 4 + 1), T 190 a (i * 4 + 2), T 190 a (i * 4 + 3))
/-- the first n rows of a log -/
def hr9_ (T : Zt) (a : Int) : Nat → List Rw_
  | 0 => []
  | n + 1 => hr9_ T a n ++ [ra9_ T a (n : Int)]
theorem hrw_l {T : Zt} {a : Int} : ∀ n : Nat, (hr9_ T a n).length = n
  | 0 => rfl
  | n + 1 => by
    show (hr9_ T a n ++ [ra9_ T a (n : Int)]).length = n + 1
    rw [List.length_append, hrw_l n]
    rfl
theorem hrw_g {T : Zt} {a : Int} {i : Nat} : ∀ n : Nat, i < n → (hr9_ T a n)[i]? = some (ra9_ T a (i : Int))
  | 0, h => absurd h (Nat.not_lt_zero _)
  | n + 1, h => by
    show (hr9_ T a n ++ [ra9_ T a (n : Int)])[i]? = _
    by_cases z : i < n
    · rw [List.getElem?_append_left (by rw [hrw_l]; exact z)]
      exact hrw_g n z
    · have e : i = n := by omega
      subst e
      rw [List.getElem?_append_right (by rw [hrw_l]; exact Nat.le_refl _), hrw_l, Nat.sub_self]
      rfl
theorem hrw_n {T : Zt} {a : Int} {i n : Nat} (h : n ≤ i) : (hr9_ T a n)[i]? = none := List.getElem?_eq_none (by rw [hrw_l]; exact h)
theorem ra_e {T T' : Zt} {a a' i i' : Int} (h : ∀ j, 0 ≤ j → j < 4 → T' 190 a' (i' * 4 + j) = T 190 a (i * 4 + j)) : ra9_ T' a' i' = ra9_ T a i := by
  have h0 := h 0 (by decide) (by decide)
  have h1 := h 1 (by decide) (by decide)
  have h2 := h 2 (by decide) (by decide)
  have h3 := h 3 (by decide) (by decide)
  rw [Int.add_zero, Int.add_zero] at h0
  unfold ra9_
  rw [h0, h1, h2, h3]
theorem hrw_u {T : Zt} {a : Int} {n : Nat} {l : List Rw_} (hl : l.length = n) (h : ∀ i : Nat, i < n → l[i]? = some (ra9_ T a (i : Int))) : hr9_ T a n = l := by
  refine List.ext_getElem? (fun i => ?_)
  by_cases z : i < n
  · rw [hrw_g n z, h i z]
  · rw [hrw_n (by omega), List.getElem?_eq_none (by omega)]
theorem hrw_e {T T' : Zt} {a a' : Int} {n : Nat} (h : ∀ j, 0 ≤ j → j < 4 * (n : Int) → T' 190 a' j = T 190 a j) : hr9_ T' a' n = hr9_ T a n :=
  hrw_u (hrw_l n) (fun i z => by
    rw [hrw_g n z]
    exact congrArg some (ra_e (fun j j0 j1 => (h ((i : Int) * 4 + j) (by omega) (by omega)).symm)))
/-- a row is written over -/
theorem hrw_s {T T' : Zt} {a i n : Int} {q : Rw_} (h0 : 0 ≤ i) (hi : i < n) (h : ∀ j, ¬ (i * 4 ≤ j ∧ j < i * 4 + 4) → T' 190 a j = T 190 a j) (hq : ra9_ T' a i = q) : hr9_ T' a n.toNat = (hr9_ T a n.toNat).set i.toNat q := by
  refine hrw_u (by rw [List.length_set, hrw_l]) (fun j z => ?_)
  by_cases e : i.toNat = j
  · subst e
    rw [List.getElem?_set, if_pos rfl, if_pos (by rw [hrw_l]; omega), show ((i.toNat : Nat) : Int) = i by omega, hq]
  · rw [List.getElem?_set_ne e, hrw_g _ z]
    exact congrArg some (ra_e (fun t t0 t1 => (h ((j : Int) * 4 + t) (by omega)).symm))
/-- a row is taken out -/
theorem hrw_d {T T' : Zt} {a i n : Int} (h0 : 0 ≤ i) (hi : i < n) (h1 : ∀ j, j < i * 4 → T' 190 a j = T 190 a j) (h2 : ∀ j, i * 4 ≤ j → j < n * 4 - 4 → T' 190 a j = T 190 a (j + 4)) : hr9_ T' a (n - 1).toNat = (hr9_ T a n.toNat).eraseIdx i.toNat := by
  refine hrw_u (by rw [List.length_eraseIdx_of_lt (by rw [hrw_l]; omega), hrw_l]; omega) (fun j z => ?_)
  by_cases e : j < i.toNat
  · rw [List.getElem?_eraseIdx_of_lt e, hrw_g _ (by omega)]
    exact congrArg some (ra_e (fun t t0 t1 => (h1 ((j : Int) * 4 + t) (by omega)).symm))
  · rw [List.getElem?_eraseIdx_of_ge (by omega), hrw_g _ (by omega)]
    refine congrArg some (ra_e (fun t t0 t1 => ?_))
    rw [h2 ((j : Int) * 4 + t) (by omega) (by omega), show (((j + 1 : Nat) : Int)) * 4 + t = (j : Int) * 4 + t + 4 by omega]
/-- a row comes behind -/
theorem hrw_k {T T' : Zt} {a a' i n : Int} {q : Rw_} (h0 : 0 ≤ i) (hn : n = i + 1) (h : ∀ j, 0 ≤ j → j < i * 4 → T' 190 a' j = T 190 a j) (hq : ra9_ T' a' i = q) : hr9_ T' a' n.toNat = hr9_ T a i.toNat ++ [q] := by
  rw [show n.toNat = i.toNat + 1 by omega]
  show hr9_ T' a' i.toNat ++ [ra9_ T' a' ((i.toNat : Nat) : Int)] = _
  rw [hrw_e (T := T) (a := a) (fun j j0 j1 => h j j0 (by omega)), show ((i.toNat : Nat) : Int) = i by omega, hq]
theorem hrw_t {T : Zt} {a i : Int} (h0 : 0 ≤ i) : hr9_ T a (i + 1).toNat = hr9_ T a i.toNat ++ [ra9_ T a i] := hrw_k h0 rfl (fun _ _ _ => rfl) rfl
-- a run of rows
abbrev Rz_ : Type := Sg_ × List Rw_ × Int
noncomputable def stH_ (r : Int → Int) (x : Rz_) (q : Rw_) : Rz_ := cz_ (lw9_ r x.1 q.1 q.2.1 q.2.2.1 q.2.2.2 = 0) (ca9_ r x.1 q.1 q.2.1 q.2.2.1 q.2.2.2, x.2.1 ++ [q], x.2.2) (x.1, x.2.1, x.2.2 + 1)
noncomputable def stR_ (r : Int → Int) (m : Int) (x : Rz_) (q : Rw_) : Rz_ := cz_ (lwR_ r x.1 q.1 q.2.1 q.2.2.1 q.2.2.2 = 0) (plR_ r x.1 m q.1 q.2.1 q.2.2.1 q.2.2.2, x.2.1 ++ [q], x.2.2) (x.1, x.2.1, x.2.2 + 1)
noncomputable def rnH_ (r : Int → Int) (a : Sg_) (l : List Rw_) : Rz_ := l.foldl (stH_ r) (a, [], 0)
noncomputable def rnR_ (r : Int → Int) (m : Int) (b : Sg_) (l : List Rw_) : Rz_ := l.foldl (stR_ r m) (b, [], 0)
theorem rnH_a {r : Int → Int} {a : Sg_} {l : List Rw_} {q : Rw_} : rnH_ r a (l ++ [q]) = stH_ r (rnH_ r a l) q := by
  unfold rnH_
  rw [List.foldl_append]
  rfl
theorem rnR_a {r : Int → Int} {m : Int} {b : Sg_} {l : List Rw_} {q : Rw_} : rnR_ r m b (l ++ [q]) = stR_ r m (rnR_ r m b l) q := by
  unfold rnR_
  rw [List.foldl_append]
  rfl
theorem stH_t {r : Int → Int} {x : Rz_} {k s q o : Int} (h : lw9_ r x.1 k s q o = 0) : stH_ r x (k, s, q, o) = (ca9_ r x.1 k s q o, x.2.1 ++ [(k, s, q, o)], x.2.2) := cz_t h
theorem stH_f {r : Int → Int} {x : Rz_} {k s q o : Int} (h : ¬ lw9_ r x.1 k s q o = 0) : stH_ r x (k, s, q, o) = (x.1, x.2.1, x.2.2 + 1) := cz_f h
theorem stR_t {r : Int → Int} {m : Int} {x : Rz_} {k s q o : Int} (h : lwR_ r x.1 k s q o = 0) : stR_ r m x (k, s, q, o) = (plR_ r x.1 m k s q o, x.2.1 ++ [(k, s, q, o)], x.2.2) := cz_t h
theorem stR_f {r : Int → Int} {m : Int} {x : Rz_} {k s q o : Int} (h : ¬ lwR_ r x.1 k s q o = 0) : stR_ r m x (k, s, q, o) = (x.1, x.2.1, x.2.2 + 1) := cz_f h
-- while a play goes on, someone stands on each field
def FN_ (a : Sg_) : Prop := a 103 3 = 0 → 1 ≤ a 470 0 ∧ 1 ≤ a 470 1
/-- the fields stay, and what has ended has ended -/
def NF_ (a a' : Sg_) : Prop := (∀ j, a' 470 j = a 470 j) ∧ (a' 103 3 = 0 → a 103 3 = 0)
theorem nf_r {a : Sg_} : NF_ a a := ⟨fun _ => rfl, id⟩
theorem nf_u {a b : Sg_} {k : Nat} {j v : Int} (h : NF_ a b) (c : k ≠ 470 ∧ k ≠ 103) : NF_ a (u2_ b k j v) := ⟨fun i => (u2_k (Ne.symm c.1) i).trans (h.1 i), fun z => h.2 ((u2_k (Ne.symm c.2) 3).symm.trans z)⟩
theorem nf_4 {a b : Sg_} {v : Int} (h : NF_ a b) : NF_ a (u2_ b 103 4 v) := ⟨fun i => (u2_k (by decide) i).trans (h.1 i), fun z => h.2 ((u2_n (by decide)).symm.trans z)⟩
theorem nf_5 {a b : Sg_} {v : Int} (h : NF_ a b) : NF_ a (u2_ b 103 5 v) := ⟨fun i => (u2_k (by decide) i).trans (h.1 i), fun z => h.2 ((u2_n (by decide)).symm.trans z)⟩
theorem nf_x {a b : Sg_} (h : NF_ a b) : NF_ a (u2_ b 103 3 1) := ⟨fun i => (u2_k (by decide) i).trans (h.1 i), fun z => absurd ((u2_s b 103 3 1).symm.trans z) (by decide)⟩
theorem nf_f {a b : Sg_} {k : Nat} {n v : Int} (h : NF_ a b) (c : k ≠ 470 ∧ k ≠ 103) : NF_ a (fy2_ b k n v) := ⟨fun i => (fy2_k (Ne.symm c.1) i).trans (h.1 i), fun z => h.2 ((fy2_k (Ne.symm c.2) 3).symm.trans z)⟩
theorem nf_g {a b : Sg_} {s : Int} (h : NF_ a b) : NF_ a (rt9_ b s) := ⟨fun i => (rt_k (by decide) i).trans (h.1 i), fun z => h.2 ((rt_k (by decide) 3).symm.trans z)⟩
theorem nf_t {a b c : Sg_} (h : NF_ a b) (g : NF_ b c) : NF_ a c := ⟨fun i => (g.1 i).trans (h.1 i), fun z => h.2 (g.2 z)⟩
theorem cz_p {A : Type} {Q : A → Prop} {c : Prop} {x y : A} (h : c → Q x) (g : ¬ c → Q y) : Q (cz_ c x y) := by
  by_cases z : c
  · rw [cz_t z]; exact h z
  · rw [cz_f z]; exact g z
theorem fn_n {a b : Sg_} (h : FN_ a) (g : NF_ a b) : FN_ b := fun z => by
  have y := h (g.2 z)
  rw [g.1 0, g.1 1]
  exact y
theorem nf_pv {r : Int → Int} {a : Sg_} {s : Int} : NF_ a (pv9_ r a s) := by
  unfold pv9_
  repeat' (first | exact nf_r | refine cz_p (Q := NF_ a) (fun _ => ?_) (fun _ => ?_) | refine nf_x ?_ | refine nf_4 ?_ | refine nf_5 ?_ | refine nf_u ?_ (by decide) | refine nf_f ?_ (by decide) | refine nf_g ?_)
theorem nf_pt {r : Int → Int} {a : Sg_} {k s : Int} : NF_ a (pt9_ r a k s) := by
  unfold pt9_
  repeat' (first | exact nf_r | refine cz_p (Q := NF_ a) (fun _ => ?_) (fun _ => ?_) | refine nf_x ?_ | refine nf_4 ?_ | refine nf_5 ?_ | refine nf_u ?_ (by decide) | refine nf_f ?_ (by decide))
theorem nf_eh {r : Int → Int} {a : Sg_} : NF_ a (eh9_ r a) := by
  unfold eh9_
  repeat' (first | exact nf_r | refine cz_p (Q := NF_ a) (fun _ => ?_) (fun _ => ?_) | refine nf_x ?_ | refine nf_4 ?_ | refine nf_5 ?_ | refine nf_u ?_ (by decide) | refine nf_f ?_ (by decide))
theorem nf_co {r : Int → Int} {a : Sg_} : NF_ a (co9_ r a) := by
  unfold co9_
  refine cz_p (Q := NF_ a) (fun _ => nf_t ?_ nf_eh) (fun _ => ?_)
  · repeat' (first | exact nf_r | refine nf_u ?_ (by decide) | refine nf_f ?_ (by decide))
  · repeat' (first | exact nf_r | refine nf_u ?_ (by decide) | refine nf_f ?_ (by decide))
theorem nf_gb {r : Int → Int} {a b : Sg_} {s v : Int} (h : NF_ a b) : NF_ a (gb9_ r b s v) := by
  unfold gb9_
  repeat' (first | exact h | refine cz_p (Q := NF_ a) (fun _ => ?_) (fun _ => ?_) | refine nf_x ?_ | refine nf_u ?_ (by decide) | refine nf_f ?_ (by decide))
theorem nf_wk {r : Int → Int} {a : Sg_} {s : Int} : NF_ a (wk9_ r a s) := by
  unfold wk9_
  repeat' (first | exact nf_r | refine cz_p (Q := NF_ a) (fun _ => ?_) (fun _ => ?_) | refine nf_gb ?_ | refine nf_x ?_ | refine nf_4 ?_ | refine nf_5 ?_ | refine nf_u ?_ (by decide))
theorem nf_ht {r : Int → Int} {a : Sg_} {s v : Int} : NF_ a (ht9_ r a s v) := by
  unfold ht9_
  exact nf_gb (nf_u nf_r (by decide))
theorem nf_pb {r : Int → Int} {a : Sg_} {k s v : Int} : NF_ a (pbb9_ r a k s v) := by
  unfold pbb9_
  refine cz_p (Q := NF_ a) (fun _ => nf_ht) (fun _ => cz_p (Q := NF_ a) (fun _ => cz_p (Q := NF_ a) (fun _ => nf_t (nf_u nf_r (by decide)) nf_wk) (fun _ => nf_u nf_r (by decide))) (fun _ => cz_p (Q := NF_ a) (fun _ => cz_p (Q := NF_ a) (fun _ => nf_t (nf_u nf_r (by decide)) nf_co) (fun _ => nf_u nf_r (by decide))) (fun _ => nf_co)))
theorem nf_su {r : Int → Int} {a : Sg_} {s q o : Int} : NF_ a (su9_ r a s q o) := by
  unfold su9_
  refine cz_p (Q := NF_ a) (fun _ => nf_r) (fun _ => ?_)
  repeat' (first | exact nf_r | refine nf_u ?_ (by decide))
theorem fn_so {r : Int → Int} {a : Sg_} {s k : Int} (w : 1 ≤ r 9) (h : FN_ a) : FN_ (so9_ r a s k) := by
  unfold so9_
  refine cz_p (Q := FN_) (fun _ => h) (fun _ => cz_p (Q := FN_) (fun _ => fun z => absurd z ?_) (fun c => fun z => ?_))
  · rw [u2_k (by decide), u2_k (by decide), u2_s]; decide
  · have e0 : ∀ j, u2_ (cg9_ (u2_ a 472 (a 471 (s * 6 + k)) 3) s k) 470 s (a 470 s - 1) 470 j = if j = s then a 470 s - 1 else a 470 j := fun j => by
      by_cases y : j = s
      · rw [if_pos y, y, u2_s]
      · rw [if_neg y, u2_n (fun t => y t.2), cg9_k (by decide), u2_k (by decide)]
    rw [u2_k (by decide), cg9_k (by decide), u2_k (by decide)] at z
    have y := h z
    rw [e0, e0]
    refine ⟨?_, ?_⟩
    · by_cases t : (0 : Int) = s
      · rw [if_pos t]; omega
      · rw [if_neg t]; exact y.1
    · by_cases t : (1 : Int) = s
      · rw [if_pos t]; omega
      · rw [if_neg t]; exact y.2
theorem fn_yl {r : Int → Int} {a : Sg_} {s k : Int} (w : 1 ≤ r 9) (h : FN_ a) : FN_ (yl9_ r a s k) := by
  unfold yl9_
  exact cz_p (Q := FN_) (fun _ => h) (fun _ => cz_p (Q := FN_) (fun _ => fn_so w (fn_n h (nf_u nf_r (by decide)))) (fun _ => fn_n h (nf_u nf_r (by decide))))
theorem fn_pf {r : Int → Int} {a : Sg_} {k s q : Int} (w : 1 ≤ r 9) (h : FN_ a) (h3 : a 103 3 = 0) : FN_ (pf9_ r a k s q) := by
  have g := h h3
  unfold pf9_
  refine cz_p (Q := FN_) (fun _ => fn_n h (nf_u nf_r (by decide))) (fun _ => cz_p (Q := FN_) (fun _ => fn_n h (nf_u nf_r (by decide))) (fun _ => cz_p (Q := FN_) (fun _ => fn_yl w h) (fun _ => cz_p (Q := FN_) (fun _ => fn_so w h) (fun _ => cz_p (Q := FN_) (fun _ => fn_n h (nf_x (nf_4 nf_r))) (fun _ => fun _ => ?_)))))
  rw [u2_k (by decide), u2_k (by decide), u2_k (by decide), u2_k (by decide)]
  exact g
theorem fn_ca {r : Int → Int} {a : Sg_} {k s q o : Int} (w : RB9_ r) (h : FN_ a) (hl : lw9_ r a k s q o = 0) : FN_ (ca9_ r a k s q o) := by
  have h3 := (lw_0 hl).1
  have w9 : 1 ≤ r 9 := w.2.1.1
  unfold ca9_
  exact cz_p (Q := FN_) (fun _ => fn_n h nf_su) (fun _ => cz_p (Q := FN_) (fun _ => fn_pf w9 h h3) (fun _ => cz_p (Q := FN_) (fun _ => fn_n h nf_pv) (fun _ => cz_p (Q := FN_) (fun _ => fn_n h nf_pt) (fun _ => fn_n h nf_pb))))
/-- both runs are the same -/
theorem rn_f {m : Int} {r : Int → Int} (w : RB9_ r) : ∀ (l : List Rw_) (x y : Rz_) (n : Int), SI_ m n r y.1 x.1 → FN_ x.1 → y.2 = x.2 → n + 3 * (l.length : Int) ≤ 1000000 → SI_ m (n + 3 * (l.length : Int)) r (l.foldl (stR_ r m) y).1 (l.foldl (stH_ r) x).1 ∧ FN_ (l.foldl (stH_ r) x).1 ∧ (l.foldl (stR_ r m) y).2 = (l.foldl (stH_ r) x).2
  | [], x, y, n, h, f, e, _ => ⟨by rw [show n + 3 * (([] : List Rw_).length : Int) = n by simp]; exact h, f, e⟩
  | (k, s, q, o) :: l, x, y, n, h, f, e, g => by
    have g' : n + 3 + 3 * (l.length : Int) ≤ 1000000 := by
      rw [List.length_cons] at g
      omega
    have hn := h.2.2.1
    have el : lwR_ r y.1 k s q o = lw9_ r x.1 k s q o := lw_q h.1 h.2.1 (fun s a b => h.2.2.2.2.2.2.2.2.2 s a b)
    rw [show n + 3 * (((k, s, q, o) :: l).length : Int) = n + 3 + 3 * (l.length : Int) by rw [List.length_cons]; omega]
    show SI_ m _ r (l.foldl (stR_ r m) (stR_ r m y (k, s, q, o))).1 (l.foldl (stH_ r) (stH_ r x (k, s, q, o))).1 ∧ FN_ (l.foldl (stH_ r) (stH_ r x (k, s, q, o))).1 ∧ (l.foldl (stR_ r m) (stR_ r m y (k, s, q, o))).2 = (l.foldl (stH_ r) (stH_ r x (k, s, q, o))).2
    by_cases z : lw9_ r x.1 k s q o = 0
    · rw [stH_t z, stR_t (el.trans z)]
      have h3 := (lw_0 z).1
      refine rn_f w l _ _ (n + 3) (si_ca h w z (fun t t0 t1 => ?_) (by omega)) (fn_ca w f z) ?_ g'
      · have y9 := f h3
        rcases (by omega : t = 0 ∨ t = 1) with c | c
        · rw [c]; exact y9.1
        · rw [c]; exact y9.2
      · show (y.2.1 ++ [(k, s, q, o)], y.2.2) = (x.2.1 ++ [(k, s, q, o)], x.2.2)
        rw [e]
    · rw [stH_f z, stR_f (fun c => z (el.symm.trans c))]
      refine rn_f w l _ _ (n + 3) (si_m h (by omega) (by omega)) f ?_ g'
      show (y.2.1, y.2.2 + 1) = (x.2.1, x.2.2 + 1)
      rw [e]
theorem rn_q {m : Int} {r : Int → Int} {b a : Sg_} (w : RB9_ r) (h : SI_ m 0 r b a) (f : FN_ a) {l : List Rw_} (g : 3 * (l.length : Int) ≤ 1000000) : SI_ m (3 * (l.length : Int)) r (rnR_ r m b l).1 (rnH_ r a l).1 ∧ FN_ (rnH_ r a l).1 ∧ (rnR_ r m b l).2 = (rnH_ r a l).2 := by
  have z := rn_f (m := m) w l (a, [], 0) (b, [], 0) 0 h f rfl (by omega)
  rw [show (0 : Int) + 3 * (l.length : Int) = 3 * (l.length : Int) by omega] at z
  exact z
-- the reference's rows
def rwc_ (T : Zt) (x : Int) : Rw_ := (T 248 0 x, T 249 0 x, T 250 0 x, T 251 0 x)
def ch9_ (T : Zt) : Int → Nat → List Int
  | _, 0 => []
  | f, n + 1 => f :: ch9_ T (T 252 0 f) n
theorem ch_l {T : Zt} : ∀ {l : List Int} {f : Int}, lk_ T f l → ch9_ T f l.length = l
  | [], _, _ => rfl
  | x :: l, f, h => by
    show f :: ch9_ T (T 252 0 f) l.length = x :: l
    rw [h.1, ch_l h.2.2]
/-- the rows of a match, as they stand -/
def rw9_ (T : Zt) (m : Int) : List Rw_ := (ch9_ T (T 253 0 m) (T 254 0 m).toNat).map (rwc_ T)
theorem rb_c {T : Zt} {L : Int → Int → List Int} (h : RB_ T L) {m : Int} (h0 : 0 ≤ m) (h1 : m < T 111 0 29) : ch9_ T (T 253 0 m) (T 254 0 m).toNat = L m 0 := by
  have y : lk_ T (T 253 0 m) (L m 0) ∧ T 254 0 m = ((L m 0).length : Int) := h.1 m 0 h0 h1 (by decide) (by decide)
  rw [y.2, Int.toNat_natCast]
  exact ch_l y.1
theorem rw_l {T : Zt} {L : Int → Int → List Int} (h : RB_ T L) {m : Int} (h0 : 0 ≤ m) (h1 : m < T 111 0 29) : rw9_ T m = (L m 0).map (rwc_ T) := by
  unfold rw9_
  rw [rb_c h h0 h1]
theorem ch_n {T : Zt} : ∀ {n : Nat} {f : Int}, (ch9_ T f n).length = n
  | 0, _ => rfl
  | n + 1, f => by
    show (ch9_ T (T 252 0 f) n).length + 1 = n + 1
    rw [ch_n]
theorem rw_n {T : Zt} {m : Int} : (rw9_ T m).length = (T 254 0 m).toNat := by
  unfold rw9_
  rw [List.length_map, ch_n]
theorem ch_k {T T' : Zt} (e : ∀ x, T' 252 0 x = T 252 0 x) : ∀ (n : Nat) (f : Int), ch9_ T' f n = ch9_ T f n
  | 0, _ => rfl
  | n + 1, f => by
    show f :: ch9_ T' (T' 252 0 f) n = f :: ch9_ T (T 252 0 f) n
    rw [e f, ch_k e n]
theorem cl_k {T T' : Zt} (e : ∀ k x, k = 248 ∨ k = 249 ∨ k = 250 ∨ k = 251 → T' k 0 x = T k 0 x) : rwc_ T' = rwc_ T := by
  funext x
  unfold rwc_
  rw [e 248 x (by decide), e 249 x (by decide), e 250 x (by decide), e 251 x (by decide)]
/-- what leaves the rows alone -/
theorem rw_k {T T' : Zt} {m : Int} (e : ∀ k x, k = 248 ∨ k = 249 ∨ k = 250 ∨ k = 251 → T' k 0 x = T k 0 x) (e2 : ∀ x, T' 252 0 x = T 252 0 x) (e3 : T' 253 0 m = T 253 0 m) (e4 : T' 254 0 m = T 254 0 m) : rw9_ T' m = rw9_ T m := by
  unfold rw9_
  rw [cl_k e, e3, e4, ch_k e2]
/-- a row comes behind the rows of a match -/
theorem rw_p {T T' : Zt} {m x : Int} {L : Int → Int → List Int} (hB : RB_ T L) (hB' : RB_ T' (fun m' b' => if m' = m ∧ b' = 0 then L m 0 ++ [x] else L m' b')) (e29 : T' 111 0 29 = T 111 0 29) (ec : rwc_ T' = rwc_ T) (h0 : 0 ≤ m) (h1 : m < T 111 0 29) : rw9_ T' m = rw9_ T m ++ [rwc_ T x] ∧ ∀ j, j ≠ m → 0 ≤ j → j < T 111 0 29 → rw9_ T' j = rw9_ T j := by
  refine ⟨?_, fun j hj j0 j1 => ?_⟩
  · rw [rw_l hB' h0 (by omega), rw_l hB h0 h1, ec]
    show (if m = m ∧ (0 : Int) = 0 then L m 0 ++ [x] else L m 0).map (rwc_ T) = _
    rw [if_pos ⟨rfl, rfl⟩, List.map_append]
    rfl
  · rw [rw_l hB' j0 (by omega), rw_l hB j0 j1, ec]
    show (if j = m ∧ (0 : Int) = 0 then L m 0 ++ [x] else L j 0).map (rwc_ T) = _
    rw [if_neg (fun z => hj z.1)]
theorem rw_a {T T' : Zt} {m x : Int} {L : Int → Int → List Int} (hB : RB_ T L) (hB' : RB_ T' (fun m' b' => if m' = m ∧ b' = 1 then L m 1 ++ [x] else L m' b')) (e29 : T' 111 0 29 = T 111 0 29) (ec : rwc_ T' = rwc_ T) : ∀ j, 0 ≤ j → j < T 111 0 29 → rw9_ T' j = rw9_ T j := fun j j0 j1 => by
  rw [rw_l hB' j0 (by omega), rw_l hB j0 j1, ec]
  show (if j = m ∧ (0 : Int) = 1 then L m 1 ++ [x] else L j 0).map (rwc_ T) = _
  rw [if_neg (fun z => absurd z.2 (by decide))]
theorem rw_t {T T' : Zt} {m : Int} {L : Int → Int → List Int} (hB : RB_ T L) (hB' : RB_ T' (fun m' b' => if m' = m ∧ b' = 0 then [] else L m' b')) (e29 : T' 111 0 29 = T 111 0 29) (ec : rwc_ T' = rwc_ T) (h0 : 0 ≤ m) (h1 : m < T 111 0 29) : rw9_ T' m = [] ∧ ∀ j, j ≠ m → 0 ≤ j → j < T 111 0 29 → rw9_ T' j = rw9_ T j := by
  refine ⟨?_, fun j hj j0 j1 => ?_⟩
  · rw [rw_l hB' h0 (by omega)]
    show (if m = m ∧ (0 : Int) = 0 then [] else L m 0).map (rwc_ T') = _
    rw [if_pos ⟨rfl, rfl⟩]
    rfl
  · rw [rw_l hB' j0 (by omega), rw_l hB j0 j1, ec]
    show (if j = m ∧ (0 : Int) = 0 then [] else L j 0).map (rwc_ T) = _
    rw [if_neg (fun z => hj z.1)]
theorem ei_m {A B : Type} {f : A → B} : ∀ (l : List A) (i : Nat), (l.eraseIdx i).map f = (l.map f).eraseIdx i
  | [], _ => rfl
  | _ :: _, 0 => rfl
  | x :: l, i + 1 => by
    show f x :: (l.eraseIdx i).map f = f x :: (l.map f).eraseIdx i
    rw [ei_m l i]
theorem rw_d {T T' : Zt} {m : Int} {i : Nat} {L : Int → Int → List Int} (hB : RB_ T L) (hB' : RB_ T' (fun m' b' => if m' = m ∧ b' = 0 then (L m 0).eraseIdx i else L m' b')) (e29 : T' 111 0 29 = T 111 0 29) (ec : rwc_ T' = rwc_ T) (h0 : 0 ≤ m) (h1 : m < T 111 0 29) : rw9_ T' m = (rw9_ T m).eraseIdx i ∧ ∀ j, j ≠ m → 0 ≤ j → j < T 111 0 29 → rw9_ T' j = rw9_ T j := by
  refine ⟨?_, fun j hj j0 j1 => ?_⟩
  · rw [rw_l hB' h0 (by omega), rw_l hB h0 h1, ec]
    show (if m = m ∧ (0 : Int) = 0 then (L m 0).eraseIdx i else L m 0).map (rwc_ T) = _
    rw [if_pos ⟨rfl, rfl⟩, ei_m]
  · rw [rw_l hB' j0 (by omega), rw_l hB j0 j1, ec]
    show (if j = m ∧ (0 : Int) = 0 then (L m 0).eraseIdx i else L j 0).map (rwc_ T) = _
    rw [if_neg (fun z => hj z.1)]
/-- a row that none has is told of -/
theorem rw_x {T T' : Zt} {x : Int} {L : Int → Int → List Int} (hB : RB_ T L) (hB' : RB_ T' L) (e29 : T' 111 0 29 = T 111 0 29) (e : ∀ k y, k = 248 ∨ k = 249 ∨ k = 250 ∨ k = 251 → y ≠ x → T' k 0 y = T k 0 y) (hx : ∀ m b, x ∉ L m b) : ∀ j, 0 ≤ j → j < T 111 0 29 → rw9_ T' j = rw9_ T j := fun j j0 j1 => by
  rw [rw_l hB' j0 (by omega), rw_l hB j0 j1]
  refine List.map_congr_left (fun y hy => ?_)
  have n : y ≠ x := fun z => hx j 0 (z ▸ hy)
  unfold rwc_
  rw [e 248 y (by decide) n, e 249 y (by decide) n, e 250 y (by decide) n, e 251 y (by decide) n]
/-- a row is told anew -/
theorem rw_c {T T' : Zt} {m x : Int} {i : Nat} {q : Rw_} {L : Int → Int → List Int} (hB : RB_ T L) (hB' : RB_ T' L) (e29 : T' 111 0 29 = T 111 0 29) (e : ∀ k y, k = 248 ∨ k = 249 ∨ k = 250 ∨ k = 251 → y ≠ x → T' k 0 y = T k 0 y) (hq : rwc_ T' x = q) (hi : (L m 0)[i]? = some x) (h0 : 0 ≤ m) (h1 : m < T 111 0 29) : rw9_ T' m = (rw9_ T m).set i q ∧ ∀ j, j ≠ m → 0 ≤ j → j < T 111 0 29 → rw9_ T' j = rw9_ T j := by
  have ne : ∀ y, y ≠ x → rwc_ T' y = rwc_ T y := fun y n => by
    unfold rwc_
    rw [e 248 y (by decide) n, e 249 y (by decide) n, e 250 y (by decide) n, e 251 y (by decide) n]
  have hx : x ∈ L m 0 := List.mem_of_getElem? hi
  have hl : i < (L m 0).length := by
    rcases Nat.lt_or_ge i (L m 0).length with z | z
    · exact z
    · rw [List.getElem?_eq_none z] at hi; cases hi
  refine ⟨?_, fun j hj j0 j1 => ?_⟩
  · rw [rw_l hB' h0 (by omega), rw_l hB h0 h1]
    refine List.ext_getElem? (fun t => ?_)
    rw [List.getElem?_map]
    by_cases c : i = t
    · subst c
      rw [hi, List.getElem?_set, if_pos rfl, if_pos (by rw [List.length_map]; exact hl), ← hq]
      rfl
    · rw [List.getElem?_set_ne c, List.getElem?_map]
      rcases Nat.lt_or_ge t (L m 0).length with z | z
      · have ht : (L m 0)[t]? = some ((L m 0)[t]) := List.getElem?_eq_getElem z
        have nn : (L m 0)[t] ≠ x := fun w => by
          have hi2 : (L m 0)[i] = x := by
            have y := List.getElem?_eq_getElem hl
            rw [y] at hi
            exact Option.some.inj hi
          rcases Nat.lt_or_ge i t with u | u
          · exact (List.pairwise_iff_getElem.mp (hB.2.2.1 m 0)) i t hl z u (hi2.trans w.symm)
          · exact (List.pairwise_iff_getElem.mp (hB.2.2.1 m 0)) t i z hl (by omega) (w.trans hi2.symm)
        rw [ht]
        exact congrArg some (ne _ nn)
      · rw [List.getElem?_eq_none z]
        rfl
  · rw [rw_l hB' j0 (by omega), rw_l hB j0 j1]
    refine List.map_congr_left (fun y hy => ne y (fun z => hj ?_))
    exact (hB.2.2.2 j 0 m 0 x (z ▸ hy) hx).1
/-- how a match of the reference begins -/
def BGR_ (m : Int) (r : Int → Int) (a b : Sg_) : Prop :=
  (∀ t, 0 ≤ t → t ≤ 1 → b 449 t = a 449 t) ∧ (∀ t x, 0 ≤ t → t ≤ 1 → t * 10 ≤ x → x < t * 10 + a 449 t → b 448 x = a 448 x) ∧ (∀ t, 0 ≤ t → t ≤ 1 → b 470 t = r 9) ∧
  (∀ t x, 0 ≤ t → t ≤ 1 → t * 10 ≤ x → x < t * 10 + a 449 t → (x < t * 10 + r 9 → b 472 x = 1) ∧ (t * 10 + r 9 ≤ x → b 472 x = 0) ∧ b 473 x = 0 ∧ b 474 x = 0) ∧
  (∀ t x, 0 ≤ t → t ≤ 1 → t * 6 ≤ x → x < t * 6 + r 9 → b 471 x = 20 * m + t * 10 + (x - t * 6)) ∧
  (b 466 0 = 0 ∧ b 466 1 = 0 ∧ b 467 0 = 0 ∧ b 467 1 = 0 ∧ b 468 0 = 0 ∧ b 468 1 = 0 ∧ b 469 0 = 0 ∧ b 469 1 = 0) ∧ b 103 4 = 0 ∧ b 103 5 = cz_ (r 0 = 3) 1 0 ∧ b 103 3 = 1
theorem bg_l {T T' : Zt} {m : Int} {ru : Int → Int} (hru : RLR_ T m ru) (h9 : 1 ≤ ru 9 ∧ ru 9 ≤ 6) (g49 : ∀ t, 0 ≤ t → t ≤ 1 → 0 ≤ T 239 0 (2 * m + t) ∧ T 239 0 (2 * m + t) ≤ 10) (e39 : ∀ j, T' 239 0 j = T 239 0 j) (e40 : ∀ j, T' 240 0 j = T 240 0 j)
    (h1 : ∀ j, 2 * m ≤ j → j < 2 * m + 2 → T' 244 0 j = T 205 0 (23 * T 230 0 m + 9))
    (h2 : ∀ j, 20 * m ≤ j → j < 20 * m + 20 → j % 10 < T 239 0 (j / 10) → (j % 10 < T 205 0 (23 * T 230 0 m + 9) → T' 241 0 j = 1) ∧ (T 205 0 (23 * T 230 0 m + 9) ≤ j % 10 → T' 241 0 j = 0) ∧ T' 242 0 j = 0 ∧ T' 243 0 j = 0)
    (h3 : ∀ j, 12 * m ≤ j → j < 12 * m + 12 → j % 6 < T 205 0 (23 * T 230 0 m + 9) → T' 245 0 j = 10 * (j / 6) + j % 6)
    (h4 : ∀ j, 8 * m ≤ j → j < 8 * m + 8 → j ≠ 8 * m + 5 → T' 246 0 j = 0) (h5 : (T 205 0 (23 * T 230 0 m + 0) = 3 → T' 246 0 (8 * m + 5) = 1) ∧ (T 205 0 (23 * T 230 0 m + 0) ≠ 3 → T' 246 0 (8 * m + 5) = 0)) (h6 : T' 236 0 m = 0) (h7 : T' 237 0 m = 0) (h8 : T' 235 0 m = 1) : BGR_ m ru (rp9_ T m) (rp9_ T' m) := by
  have r9 := hru 9 (by decide) (by decide)
  have r0 := hru 0 (by decide) (by decide)
  rw [r9] at h1 h2 h3
  rw [r0] at h5
  have a49 : ∀ t, 0 ≤ t → t ≤ 1 → rp9_ T m 449 t = T 239 0 (2 * m + t) := fun t t0 t1 => rp_v (dm_449 ⟨t0, t1⟩) rfl rfl
  refine ⟨fun t t0 t1 => ?_, fun t x t0 t1 x0 x1 => ?_, fun t t0 t1 => ?_, fun t x t0 t1 x0 x1 => ?_, fun t x t0 t1 x0 x1 => ?_, ⟨?_, ?_, ?_, ?_, ?_, ?_, ?_, ?_⟩, ?_, ?_, ?_⟩
  · rw [a49 t t0 t1, rp_v (m := m) (K := 239) (x := 2 * m + t) (dm_449 ⟨t0, t1⟩) rfl rfl, e39]
  · have g := g49 t t0 t1
    rw [a49 t t0 t1] at x1
    have d : 0 ≤ x ∧ x ≤ 19 := by omega
    rw [rp_v (m := m) (K := 240) (x := 20 * m + x) (dm_448 d) rfl rfl, rp_v (m := m) (K := 240) (x := 20 * m + x) (dm_448 d) rfl rfl, e40]
  · rw [rp_v (m := m) (K := 244) (x := 2 * m + t) (dm_470 ⟨t0, t1⟩) rfl rfl]
    exact h1 _ (by omega) (by omega)
  · have g := g49 t t0 t1
    rw [a49 t t0 t1] at x1
    have d : 0 ≤ x ∧ x ≤ 19 := by omega
    have q1 : (20 * m + x) / 10 = 2 * m + t := by omega
    have q2 : (20 * m + x) % 10 = x - t * 10 := by omega
    have y := h2 (20 * m + x) (by omega) (by omega) (by rw [q1, q2]; omega)
    rw [q2] at y
    rw [rp_v (m := m) (K := 241) (x := 20 * m + x) (dm_472 d) rfl rfl, rp_v (m := m) (K := 242) (x := 20 * m + x) (dm_473 d) rfl rfl, rp_v (m := m) (K := 243) (x := 20 * m + x) (dm_474 d) rfl rfl]
    exact ⟨fun z => y.1 (by omega), fun z => y.2.1 (by omega), y.2.2⟩
  · have d : 0 ≤ x ∧ x ≤ 11 := by omega
    rw [rp_v (m := m) (K := 245) (x := 12 * m + x) (dm_471 d) rfl rfl, h3 (12 * m + x) (by omega) (by omega) (by omega)]
    omega
  · rw [rp_v (m := m) (k := 466) (j := 0) (K := 246) (x := 8 * m + 1 + 0) rfl rfl rfl]; exact h4 _ (by omega) (by omega) (by omega)
  · rw [rp_v (m := m) (k := 466) (j := 1) (K := 246) (x := 8 * m + 1 + 1) rfl rfl rfl]; exact h4 _ (by omega) (by omega) (by omega)
  · rw [rp_v (m := m) (k := 467) (j := 0) (K := 246) (x := 8 * m + 3 + 0) rfl rfl rfl]; exact h4 _ (by omega) (by omega) (by omega)
  · rw [rp_v (m := m) (k := 467) (j := 1) (K := 246) (x := 8 * m + 3 + 1) rfl rfl rfl]; exact h4 _ (by omega) (by omega) (by omega)
  · rw [rp_v (m := m) (k := 468) (j := 0) (K := 236) (x := m) rfl rfl rfl]; exact h6
  · rw [rp_v (m := m) (k := 468) (j := 1) (K := 237) (x := m) rfl rfl rfl]; exact h7
  · rw [rp_v (m := m) (k := 469) (j := 0) (K := 246) (x := 8 * m + 6 + 0) rfl rfl rfl]; exact h4 _ (by omega) (by omega) (by omega)
  · rw [rp_v (m := m) (k := 469) (j := 1) (K := 246) (x := 8 * m + 6 + 1) rfl rfl rfl]; exact h4 _ (by omega) (by omega) (by omega)
  · rw [rp_v (m := m) (k := 103) (j := 4) (K := 246) (x := 8 * m) rfl rfl rfl]; exact h4 _ (by omega) (by omega) (by omega)
  · rw [rp_v (m := m) (k := 103) (j := 5) (K := 246) (x := 8 * m + 5) rfl rfl rfl]
    by_cases z : ru 0 = 3
    · rw [cz_t z]; exact h5.1 z
    · rw [cz_f z]; exact h5.2 z
  · rw [rp_v (m := m) (k := 103) (j := 3) (K := 235) (x := m) rfl rfl rfl]; exact h8
theorem si_bg {m : Int} {r : Int → Int} {a0 b a : Sg_} (w : RB9_ r) (g49 : ∀ t, 0 ≤ t → t ≤ 1 → r 9 ≤ a 449 t ∧ a 449 t ≤ 10) (w5 : ∀ s x y, 0 ≤ s → s ≤ 1 → s * 10 ≤ x → x < s * 10 + a 449 s → s * 10 ≤ y → y < s * 10 + a 449 s → a 448 x = a 448 y → x = y) (f49 : ∀ t, 0 ≤ t → t ≤ 1 → a0 449 t = a 449 t) (f48 : ∀ t x, 0 ≤ t → t ≤ 1 → t * 10 ≤ x → x < t * 10 + a 449 t → a0 448 x = a 448 x) (h : BGR_ m r a0 b) : SI_ m 0 r b (bb9_ r a) ∧ FN_ (bb9_ r a) := by
  obtain ⟨h1, h2, h3, h4, h5, h6, h7, h8, h9⟩ := h
  have s := si_bb (m := m) (b := b) w g49 w5 (fun t t0 t1 => (h1 t t0 t1).trans (f49 t t0 t1)) (fun t x t0 t1 x0 x1 => (h2 t x t0 t1 x0 (by rw [f49 t t0 t1]; exact x1)).trans (f48 t x t0 t1 x0 x1)) h3 (fun t x t0 t1 x0 x1 => h4 t x t0 t1 x0 (by rw [f49 t t0 t1]; exact x1)) h5 h6 h7 h8 h9
  refine ⟨s, fun _ => ?_⟩
  have e0 := (eq_j s.1 (s := 0) (by decide) (by decide)).2.1
  have e1 := (eq_j s.1 (s := 1) (by decide) (by decide)).2.1
  have f0 := h3 0 (by decide) (by decide)
  have f1 := h3 1 (by decide) (by decide)
  have w9 := w.2.1
  omega
-- the rows of the reference, their lists told
theorem rb_put {T T' : Zt} {m b x : Int} {rest : List Int} {L : Int → Int → List Int} (hb : 0 ≤ b ∧ b ≤ 1) (hm : 0 ≤ m ∧ m < T 111 0 29) (h47 : T 111 0 47 ≤ 3000) (r : RB_ T L) (q : RR_ T L (x :: rest))
    (e29 : T' 111 0 29 = T 111 0 29) (e47 : T' 111 0 47 = T 111 0 47)
    (ef : ∀ m' b', 0 ≤ b' → b' ≤ 1 → ¬ (m' = m ∧ b' = b) → T' (kf_ b') 0 m' = T (kf_ b') 0 m' ∧ T' (km_ b') 0 m' = T (km_ b') 0 m')
    (e1 : T' (km_ b) 0 m = T (km_ b) 0 m + 1) (e3 : T' 252 0 x = -1)
    (e2 : (L m b = [] ∧ T' (kf_ b) 0 m = x ∧ ∀ z, z ≠ x → T' 252 0 z = T 252 0 z) ∨ (T' (kf_ b) 0 m = T (kf_ b) 0 m ∧ ∃ y, (L m b).getLast? = some y ∧ T' 252 0 y = x ∧ ∀ z, z ≠ x → z ≠ y → T' 252 0 z = T 252 0 z)) :
    RB_ T' (fun m' b' => if m' = m ∧ b' = b then L m b ++ [x] else L m' b') ∧ RR_ T' (fun m' b' => if m' = m ∧ b' = b then L m b ++ [x] else L m' b') rest ∧ ∀ z ∈ rest, T' 252 0 z = T 252 0 z := by
  obtain ⟨r1, r2, r3, r4⟩ := r
  obtain ⟨q1, q2, q3⟩ := q
  have hx := q1 x List.mem_cons_self
  have n2 := List.nodup_cons.mp q2
  have hxL : ∀ m' b', x ∉ L m' b' := fun m' b' => q3 m' b' x List.mem_cons_self
  have hl := r1 m b hm.1 hm.2 hb.1 hb.2
  -- what stays of the links
  have keep : ∀ z, z ≠ x → (∀ y, (L m b).getLast? = some y → z ≠ y) → T' 252 0 z = T 252 0 z := by
    intro z hz hy
    rcases e2 with ⟨_, _, e⟩ | ⟨_, y, gy, _, e⟩
    · exact e z hz
    · exact e z hz (hy y gy)
  have other : ∀ m' b', ¬ (m' = m ∧ b' = b) → ∀ z ∈ L m' b', T' 252 0 z = T 252 0 z := fun m' b' hn z hz =>
    keep z (fun e => hxL m' b' (e ▸ hz)) (fun y gy e => hn (by
      have := r4 m' b' m b y (e ▸ hz) (List.mem_of_getLast? gy)
      exact this))
  refine ⟨⟨?_, ?_, ?_, ?_⟩, ⟨?_, n2.2, ?_⟩, ?_⟩
  · intro m' b' h1 h2 h3 h4
    by_cases c : m' = m ∧ b' = b
    · simp only [c, and_self, if_true]
      refine ⟨?_, by rw [e1, hl.2]; simp⟩
      rcases e2 with ⟨en, ef1, e⟩ | ⟨ef1, y, gy, ey, e⟩
      · rw [en, ef1]; exact ⟨rfl, by omega, e3⟩
      · rw [ef1]
        exact lk_app (by omega) e3 ey hl.1 (r3 m b) gy (fun z hz hn => e z (fun q => hxL m b (q ▸ hz)) hn)
    · simp only [c, if_false]
      have f := ef m' b' h3 h4 c
      have g := r1 m' b' h1 (by omega) h3 h4
      rw [f.1, f.2]
      exact ⟨lk_e g.1 (other m' b' c), g.2⟩
  · intro m' b' z hz
    rw [e47]
    by_cases c : m' = m ∧ b' = b
    · simp only [c, and_self, if_true, List.mem_append, List.mem_singleton] at hz
      rcases hz with hz | hz
      · exact r2 m b z hz
      · rw [hz]; exact hx
    · simp only [c, if_false] at hz; exact r2 m' b' z hz
  · intro m' b'
    by_cases c : m' = m ∧ b' = b
    · simp only [c, and_self, if_true]
      exact List.nodup_append.mpr ⟨r3 m b, by simp, fun z hz w hw e => by
        rw [List.mem_singleton] at hw
        exact hxL m b (by rw [← hw, ← e]; exact hz)⟩
    · simp only [c, if_false]; exact r3 m' b'
  · intro m1 b1 m2 b2 z h1 h2
    by_cases c : m1 = m ∧ b1 = b
    · by_cases d : m2 = m ∧ b2 = b
      · exact ⟨c.1.trans d.1.symm, c.2.trans d.2.symm⟩
      · simp only [c, and_self, if_true, List.mem_append, List.mem_singleton] at h1
        simp only [d, if_false] at h2
        rcases h1 with h1 | h1
        · have := r4 m b m2 b2 z h1 h2
          exact absurd ⟨this.1.symm, this.2.symm⟩ d
        · exact absurd (h1 ▸ h2) (hxL m2 b2)
    · simp only [c, if_false] at h1
      by_cases d : m2 = m ∧ b2 = b
      · simp only [d, and_self, if_true, List.mem_append, List.mem_singleton] at h2
        rcases h2 with h2 | h2
        · have := r4 m1 b1 m b z h1 h2
          exact absurd this c
        · exact absurd (h2 ▸ h1) (hxL m1 b1)
      · simp only [d, if_false] at h2
        exact r4 m1 b1 m2 b2 z h1 h2
  · intro z hz
    rw [e47]; exact q1 z (List.mem_cons_of_mem _ hz)
  · intro m' b' z hz
    by_cases c : m' = m ∧ b' = b
    · simp only [c, and_self, if_true, List.mem_append, List.mem_singleton]
      intro h
      rcases h with h | h
      · exact q3 m b z (List.mem_cons_of_mem _ hz) h
      · exact n2.1 (h ▸ hz)
    · simp only [c, if_false]; exact q3 m' b' z (List.mem_cons_of_mem _ hz)
  · intro z hz
    exact keep z (fun e => n2.1 (e ▸ hz)) (fun y gy e => q3 m b z (List.mem_cons_of_mem _ hz) (by rw [e]; exact List.mem_of_getLast? gy))
theorem rb_new {T T' : Zt} {L : Int → Int → List Int} (h : RB_ T L) (h0 : 0 ≤ T 111 0 47) (e29 : T' 111 0 29 = T 111 0 29) (e47 : T' 111 0 47 = T 111 0 47 + 1) (e : ∀ k j, k = 252 ∨ k = 253 ∨ k = 254 ∨ k = 255 ∨ k = 256 → T' k 0 j = T k 0 j) : RB_ T' L ∧ RR_ T' L [T 111 0 47] := by
  obtain ⟨a, b, c, d⟩ := h
  refine ⟨⟨fun m b' h1 h2 h3 h4 => ?_, fun m b' x hx => ?_, c, d⟩, fun x hx => ?_, by simp, fun m b' x hx hL => ?_⟩
  · have y := a m b' h1 (by omega) h3 h4
    have z1 : kf_ b' = 253 ∨ kf_ b' = 255 := by unfold kf_; split <;> simp
    have z2 : km_ b' = 254 ∨ km_ b' = 256 := by unfold km_; split <;> simp
    rw [e (kf_ b') m (by omega), e (km_ b') m (by omega)]
    exact ⟨lk_e y.1 (fun x _ => e 252 x (by decide)), y.2⟩
  · have := b m b' x hx
    omega
  · rw [List.mem_singleton] at hx
    omega
  · rw [List.mem_singleton] at hx
    have := b m b' x hL
    omega
theorem rb_take {T T' : Zt} {m : Int} {L : Int → Int → List Int} (h : RB_ T L) (hm : 0 ≤ m ∧ m < T 111 0 29) (e29 : T' 111 0 29 = T 111 0 29) (e47 : T' 111 0 47 = T 111 0 47) (en : ∀ z, T' 252 0 z = T 252 0 z) (e3 : ∀ j, j ≠ m → T' 253 0 j = T 253 0 j) (e4 : ∀ j, j ≠ m → T' 254 0 j = T 254 0 j) (e5 : ∀ j, T' 255 0 j = T 255 0 j) (e6 : ∀ j, T' 256 0 j = T 256 0 j) (e1 : T' 253 0 m = -1) (e2 : T' 254 0 m = 0) : RB_ T' (fun m' b' => if m' = m ∧ b' = 0 then [] else L m' b') ∧ RR_ T' (fun m' b' => if m' = m ∧ b' = 0 then [] else L m' b') (L m 0) ∧ lk_ T' (T 253 0 m) (L m 0) := by
  obtain ⟨a, b, c, d⟩ := h
  have hl : lk_ T (T 253 0 m) (L m 0) := (a m 0 hm.1 hm.2 (by decide) (by decide)).1
  refine ⟨⟨?_, ?_, ?_, ?_⟩, ⟨?_, c m 0, ?_⟩, lk_e hl (fun x _ => en x)⟩
  · intro m' b' h1 h2 h3 h4
    by_cases k : m' = m ∧ b' = 0
    · obtain ⟨rfl, rfl⟩ := k
      simp only [and_self, if_true]
      exact ⟨e1, e2⟩
    · simp only [k, if_false]
      have g := a m' b' h1 (by omega) h3 h4
      rcases (by omega : b' = 0 ∨ b' = 1) with z | z
      · subst z
        have f1 : T' (kf_ 0) 0 m' = T (kf_ 0) 0 m' := e3 m' (fun q => k ⟨q, rfl⟩)
        have f2 : T' (km_ 0) 0 m' = T (km_ 0) 0 m' := e4 m' (fun q => k ⟨q, rfl⟩)
        rw [f1, f2]; exact ⟨lk_e g.1 (fun x _ => en x), g.2⟩
      · subst z
        have f1 : T' (kf_ 1) 0 m' = T (kf_ 1) 0 m' := e5 m'
        have f2 : T' (km_ 1) 0 m' = T (km_ 1) 0 m' := e6 m'
        rw [f1, f2]; exact ⟨lk_e g.1 (fun x _ => en x), g.2⟩
  · intro m' b' z hz
    rw [e47]
    by_cases k : m' = m ∧ b' = 0
    · simp [k] at hz
    · simp only [k, if_false] at hz; exact b m' b' z hz
  · intro m' b'
    by_cases k : m' = m ∧ b' = 0
    · simp [k]
    · simp only [k, if_false]; exact c m' b'
  · intro m1 b1 m2 b2 z h1 h2
    by_cases k : m1 = m ∧ b1 = 0
    · simp [k] at h1
    · by_cases k2 : m2 = m ∧ b2 = 0
      · simp [k2] at h2
      · simp only [k, k2, if_false] at h1 h2; exact d m1 b1 m2 b2 z h1 h2
  · intro z hz
    rw [e47]; exact b m 0 z hz
  · intro m' b' z hz
    by_cases k : m' = m ∧ b' = 0
    · simp [k]
    · simp only [k, if_false]
      exact fun hy => k (by have := d m' b' m 0 z hy hz; exact this)
theorem rb_del {T T' : Zt} {m x : Int} {i : Nat} {L : Int → Int → List Int} (r : RB_ T L) (hm : 0 ≤ m ∧ m < T 111 0 29) (hx : (L m 0)[i]? = some x) (e29 : T' 111 0 29 = T 111 0 29) (e47 : T' 111 0 47 = T 111 0 47)
    (e3 : ∀ j, j ≠ m → T' 253 0 j = T 253 0 j) (e4 : ∀ j, j ≠ m → T' 254 0 j = T 254 0 j) (e5 : ∀ j, T' 255 0 j = T 255 0 j) (e6 : ∀ j, T' 256 0 j = T 256 0 j)
    (e1 : T' 254 0 m = T 254 0 m - 1)
    (e2 : (i = 0 ∧ T' 253 0 m = T 252 0 x ∧ ∀ z, T' 252 0 z = T 252 0 z) ∨ (T' 253 0 m = T 253 0 m ∧ ∃ n p, i = n + 1 ∧ (L m 0)[n]? = some p ∧ T' 252 0 p = T 252 0 x ∧ ∀ z, z ≠ p → T' 252 0 z = T 252 0 z)) : RB_ T' (fun m' b' => if m' = m ∧ b' = 0 then (L m 0).eraseIdx i else L m' b') ∧ RR_ T' (fun m' b' => if m' = m ∧ b' = 0 then (L m 0).eraseIdx i else L m' b') [] := by
  obtain ⟨a, b, c, d⟩ := r
  have hl : lk_ T (T 253 0 m) (L m 0) ∧ T 254 0 m = ((L m 0).length : Int) := a m 0 hm.1 hm.2 (by decide) (by decide)
  have hi : i < (L m 0).length := by
    rcases Nat.lt_or_ge i (L m 0).length with z | z
    · exact z
    · rw [List.getElem?_eq_none z] at hx; cases hx
  have sub : ∀ z, z ∈ (L m 0).eraseIdx i → z ∈ L m 0 := fun z hz => (List.eraseIdx_sublist (L m 0) i).subset hz
  have other : ∀ m' b', ¬ (m' = m ∧ b' = 0) → ∀ z ∈ L m' b', T' 252 0 z = T 252 0 z := by
    intro m' b' hn z hz
    rcases e2 with ⟨_, _, e⟩ | ⟨_, n, p, _, gp, _, e⟩
    · exact e z
    · exact e z (fun q => hn (by have := d m' b' m 0 p (q ▸ hz) (List.mem_of_getElem? gp); exact this))
  refine ⟨⟨?_, ?_, ?_, ?_⟩, (by simp), List.nodup_nil, (by simp)⟩
  · intro m' b' h1 h2 h3 h4
    by_cases k : m' = m ∧ b' = 0
    · obtain ⟨rfl, rfl⟩ := k
      simp only [and_self, if_true]
      refine ⟨?_, ?_⟩
      · show lk_ T' (T' 253 0 m') _
        rcases e2 with ⟨z, ef, e⟩ | ⟨ef, n, p, z, gp, ep, e⟩
        · subst z
          rw [ef]
          cases hL : L m' 0 with
          | nil => rw [hL] at hi; exact absurd hi (by simp)
          | cons y l =>
            rw [hL] at hx hl
            have : y = x := by simpa using hx
            subst this
            exact lk_e hl.1.2.2 (fun z _ => e z)
        · subst z
          rw [ef]
          exact lk_del ep hl.1 (c m' 0) hx gp (fun z _ hn => e z hn)
      · show T' 254 0 m' = _
        rw [e1, hl.2, List.length_eraseIdx_of_lt hi]; omega
    · simp only [k, if_false]
      have g := a m' b' h1 (by omega) h3 h4
      rcases (by omega : b' = 0 ∨ b' = 1) with z | z
      · subst z
        have f1 : T' (kf_ 0) 0 m' = T (kf_ 0) 0 m' := e3 m' (fun q => k ⟨q, rfl⟩)
        have f2 : T' (km_ 0) 0 m' = T (km_ 0) 0 m' := e4 m' (fun q => k ⟨q, rfl⟩)
        rw [f1, f2]; exact ⟨lk_e g.1 (other _ _ k), g.2⟩
      · subst z
        have f1 : T' (kf_ 1) 0 m' = T (kf_ 1) 0 m' := e5 m'
        have f2 : T' (km_ 1) 0 m' = T (km_ 1) 0 m' := e6 m'
        rw [f1, f2]; exact ⟨lk_e g.1 (other _ _ k), g.2⟩
  · intro m' b' z hz
    rw [e47]
    by_cases k : m' = m ∧ b' = 0
    · simp only [k, and_self, if_true] at hz; exact b m 0 z (sub z hz)
    · simp only [k, if_false] at hz; exact b m' b' z hz
  · intro m' b'
    by_cases k : m' = m ∧ b' = 0
    · simp only [k, and_self, if_true]; exact (c m 0).sublist (List.eraseIdx_sublist _ _)
    · simp only [k, if_false]; exact c m' b'
  · intro m1 b1 m2 b2 z h1 h2
    by_cases k : m1 = m ∧ b1 = 0
    · by_cases k2 : m2 = m ∧ b2 = 0
      · exact ⟨k.1.trans k2.1.symm, k.2.trans k2.2.symm⟩
      · simp only [k, and_self, if_true] at h1
        simp only [k2, if_false] at h2
        have := d m 0 m2 b2 z (sub z h1) h2
        exact absurd ⟨this.1.symm, this.2.symm⟩ k2
    · simp only [k, if_false] at h1
      by_cases k2 : m2 = m ∧ b2 = 0
      · simp only [k2, and_self, if_true] at h2
        have := d m1 b1 m 0 z h1 (sub z h2)
        exact absurd this k
      · simp only [k2, if_false] at h2
        exact d m1 b1 m2 b2 z h1 h2

