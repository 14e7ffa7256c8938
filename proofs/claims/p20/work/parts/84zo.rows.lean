-- rows of the plays as lists
abbrev Rw_ : Type := Int × Int × Int × Int
def ra9_ (T : Zt) (a i : Int) : Rw_ := (T 190 a (i * 4), T 190 a (i * 4 + 1), T 190 a (i * 4 + 2), T 190 a (i * 4 + 3))
/-- the first n rows of a log -/
def hr9_ (T : Zt) (a : Int) : Nat → List Rw_
  | 0 => []
  | n + 1 => hr9_ T a n ++ [ra9_ T a (n : Int)]
theorem hrw_l {T : Zt} {a : Int} : ∀ n : Nat, (hr9_ T a n).length = n
  | 0 => rfl
  | n + 1 => by
    show (hr9_ T a n ++ [ra9_ T a (n : Int)]).length = n + 1
    rw [List.length_append, hrw_l n]
    rfl
theorem hrw_g {T : Zt} {a : Int} {i : Nat} : ∀ n : Nat, i < n → (hr9_ T a n)[i]? = some (ra9_ T a (i : Int))
  | 0, h => absurd h (Nat.not_lt_zero _)
  | n + 1, h => by
    show (hr9_ T a n ++ [ra9_ T a (n : Int)])[i]? = _
    by_cases z : i < n
    · rw [List.getElem?_append_left (by rw [hrw_l]; exact z)]
      exact hrw_g n z
    · have e : i = n := by omega
      subst e
      rw [List.getElem?_append_right (by rw [hrw_l]; exact Nat.le_refl _), hrw_l, Nat.sub_self]
      rfl
theorem hrw_n {T : Zt} {a : Int} {i n : Nat} (h : n ≤ i) : (hr9_ T a n)[i]? = none := List.getElem?_eq_none (by rw [hrw_l]; exact h)
theorem ra_e {T T' : Zt} {a a' i i' : Int} (h : ∀ j, 0 ≤ j → j < 4 → T' 190 a' (i' * 4 + j) = T 190 a (i * 4 + j)) : ra9_ T' a' i' = ra9_ T a i := by
  have h0 := h 0 (by decide) (by decide)
  have h1 := h 1 (by decide) (by decide)
  have h2 := h 2 (by decide) (by decide)
  have h3 := h 3 (by decide) (by decide)
  rw [Int.add_zero, Int.add_zero] at h0
  unfold ra9_
  rw [h0, h1, h2, h3]
theorem hrw_u {T : Zt} {a : Int} {n : Nat} {l : List Rw_} (hl : l.length = n) (h : ∀ i : Nat, i < n → l[i]? = some (ra9_ T a (i : Int))) : hr9_ T a n = l := by
  refine List.ext_getElem? (fun i => ?_)
  by_cases z : i < n
  · rw [hrw_g n z, h i z]
  · rw [hrw_n (by omega), List.getElem?_eq_none (by omega)]
theorem hrw_e {T T' : Zt} {a a' : Int} {n : Nat} (h : ∀ j, 0 ≤ j → j < 4 * (n : Int) → T' 190 a' j = T 190 a j) : hr9_ T' a' n = hr9_ T a n :=
  hrw_u (hrw_l n) (fun i z => by
    rw [hrw_g n z]
    exact congrArg some (ra_e (fun j j0 j1 => (h ((i : Int) * 4 + j) (by omega) (by omega)).symm)))
/-- a row is written over -/
theorem hrw_s {T T' : Zt} {a i n : Int} {q : Rw_} (h0 : 0 ≤ i) (hi : i < n) (h : ∀ j, ¬ (i * 4 ≤ j ∧ j < i * 4 + 4) → T' 190 a j = T 190 a j) (hq : ra9_ T' a i = q) : hr9_ T' a n.toNat = (hr9_ T a n.toNat).set i.toNat q := by
  refine hrw_u (by rw [List.length_set, hrw_l]) (fun j z => ?_)
  by_cases e : i.toNat = j
  · subst e
    rw [List.getElem?_set, if_pos rfl, if_pos (by rw [hrw_l]; omega), show ((i.toNat : Nat) : Int) = i by omega, hq]
  · rw [List.getElem?_set_ne e, hrw_g _ z]
    exact congrArg some (ra_e (fun t t0 t1 => (h ((j : Int) * 4 + t) (by omega)).symm))
/-- a row is taken out -/
theorem hrw_d {T T' : Zt} {a i n : Int} (h0 : 0 ≤ i) (hi : i < n) (h1 : ∀ j, j < i * 4 → T' 190 a j = T 190 a j) (h2 : ∀ j, i * 4 ≤ j → j < n * 4 - 4 → T' 190 a j = T 190 a (j + 4)) : hr9_ T' a (n - 1).toNat = (hr9_ T a n.toNat).eraseIdx i.toNat := by
  refine hrw_u (by rw [List.length_eraseIdx_of_lt (by rw [hrw_l]; omega), hrw_l]; omega) (fun j z => ?_)
  by_cases e : j < i.toNat
  · rw [List.getElem?_eraseIdx_of_lt e, hrw_g _ (by omega)]
    exact congrArg some (ra_e (fun t t0 t1 => (h1 ((j : Int) * 4 + t) (by omega)).symm))
  · rw [List.getElem?_eraseIdx_of_ge (by omega), hrw_g _ (by omega)]
    refine congrArg some (ra_e (fun t t0 t1 => ?_))
    rw [h2 ((j : Int) * 4 + t) (by omega) (by omega), show (((j + 1 : Nat) : Int)) * 4 + t = (j : Int) * 4 + t + 4 by omega]
/-- a row comes behind -/
theorem hrw_k {T T' : Zt} {a a' i n : Int} {q : Rw_} (h0 : 0 ≤ i) (hn : n = i + 1) (h : ∀ j, 0 ≤ j → j < i * 4 → T' 190 a' j = T 190 a j) (hq : ra9_ T' a' i = q) : hr9_ T' a' n.toNat = hr9_ T a i.toNat ++ [q] := by
  rw [show n.toNat = i.toNat + 1 by omega]
  show hr9_ T' a' i.toNat ++ [ra9_ T' a' ((i.toNat : Nat) : Int)] = _
  rw [hrw_e (T := T) (a := a) (fun j j0 j1 => h j j0 (by omega)), show ((i.toNat : Nat) : Int) = i by omega, hq]
theorem hrw_t {T : Zt} {a i : Int} (h0 : 0 ≤ i) : hr9_ T a (i + 1).toNat = hr9_ T a i.toNat ++ [ra9_ T a i] := hrw_k h0 rfl (fun _ _ _ => rfl) rfl
-- a run of rows
abbrev Rz_ : Type := Sg_ × List Rw_ × Int
noncomputable def stH_ (r : Int → Int) (x : Rz_) (q : Rw_) : Rz_ := cz_ (lw9_ r x.1 q.1 q.2.1 q.2.2.1 q.2.2.2 = 0) (ca9_ r x.1 q.1 q.2.1 q.2.2.1 q.2.2.2, x.2.1 ++ [q], x.2.2) (x.1, x.2.1, x.2.2 + 1)
noncomputable def stR_ (r : Int → Int) (m : Int) (x : Rz_) (q : Rw_) : Rz_ := cz_ (lwR_ r x.1 q.1 q.2.1 q.2.2.1 q.2.2.2 = 0) (plR_ r x.1 m q.1 q.2.1 q.2.2.1 q.2.2.2, x.2.1 ++ [q], x.2.2) (x.1, x.2.1, x.2.2 + 1)
noncomputable def rnH_ (r : Int → Int) (a : Sg_) (l : List Rw_) : Rz_ := l.foldl (stH_ r) (a, [], 0)
noncomputable def rnR_ (r : Int → Int) (m : Int) (b : Sg_) (l : List Rw_) : Rz_ := l.foldl (stR_ r m) (b, [], 0)
theorem rnH_a {r : Int → Int} {a : Sg_} {l : List Rw_} {q : Rw_} : rnH_ r a (l ++ [q]) = stH_ r (rnH_ r a l) q := by
  unfold rnH_
  rw [List.foldl_append]
  rfl
theorem rnR_a {r : Int → Int} {m : Int} {b : Sg_} {l : List Rw_} {q : Rw_} : rnR_ r m b (l ++ [q]) = stR_ r m (rnR_ r m b l) q := by
  unfold rnR_
  rw [List.foldl_append]
  rfl
theorem stH_t {r : Int → Int} {x : Rz_} {k s q o : Int} (h : lw9_ r x.1 k s q o = 0) : stH_ r x (k, s, q, o) = (ca9_ r x.1 k s q o, x.2.1 ++ [(k, s, q, o)], x.2.2) := cz_t h
theorem stH_f {r : Int → Int} {x : Rz_} {k s q o : Int} (h : ¬ lw9_ r x.1 k s q o = 0) : stH_ r x (k, s, q, o) = (x.1, x.2.1, x.2.2 + 1) := cz_f h
theorem stR_t {r : Int → Int} {m : Int} {x : Rz_} {k s q o : Int} (h : lwR_ r x.1 k s q o = 0) : stR_ r m x (k, s, q, o) = (plR_ r x.1 m k s q o, x.2.1 ++ [(k, s, q, o)], x.2.2) := cz_t h
theorem stR_f {r : Int → Int} {m : Int} {x : Rz_} {k s q o : Int} (h : ¬ lwR_ r x.1 k s q o = 0) : stR_ r m x (k, s, q, o) = (x.1, x.2.1, x.2.2 + 1) := cz_f h
-- while a play goes on, someone stands on each field
def FN_ (a : Sg_) : Prop := a 103 3 = 0 → 1 ≤ a 470 0 ∧ 1 ≤ a 470 1
/-- the fields stay, and what has ended has ended -/
def NF_ (a a' : Sg_) : Prop := (∀ j, a' 470 j = a 470 j) ∧ (a' 103 3 = 0 → a 103 3 = 0)
theorem nf_r {a : Sg_} : NF_ a a := ⟨fun _ => rfl, id⟩
theorem nf_u {a b : Sg_} {k : Nat} {j v : Int} (h : NF_ a b) (c : k ≠ 470 ∧ k ≠ 103) : NF_ a (u2_ b k j v) := ⟨fun i => (u2_k (Ne.symm c.1) i).trans (h.1 i), fun z => h.2 ((u2_k (Ne.symm c.2) 3).symm.trans z)⟩
theorem nf_4 {a b : Sg_} {v : Int} (h : NF_ a b) : NF_ a (u2_ b 103 4 v) := ⟨fun i => (u2_k (by decide) i).trans (h.1 i), fun z => h.2 ((u2_n (by decide)).symm.trans z)⟩
theorem nf_5 {a b : Sg_} {v : Int} (h : NF_ a b) : NF_ a (u2_ b 103 5 v) := ⟨fun i => (u2_k (by decide) i).trans (h.1 i), fun z => h.2 ((u2_n (by decide)).symm.trans z)⟩
theorem nf_x {a b : Sg_} (h : NF_ a b) : NF_ a (u2_ b 103 3 1) := ⟨fun i => (u2_k (by decide) i).trans (h.1 i), fun z => absurd ((u2_s b 103 3 1).symm.trans z) (by decide)⟩
theorem nf_f {a b : Sg_} {k : Nat} {n v : Int} (h : NF_ a b) (c : k ≠ 470 ∧ k ≠ 103) : NF_ a (fy2_ b k n v) := ⟨fun i => (fy2_k (Ne.symm c.1) i).trans (h.1 i), fun z => h.2 ((fy2_k (Ne.symm c.2) 3).symm.trans z)⟩
theorem nf_g {a b : Sg_} {s : Int} (h : NF_ a b) : NF_ a (rt9_ b s) := ⟨fun i => (rt_k (by decide) i).trans (h.1 i), fun z => h.2 ((rt_k (by decide) 3).symm.trans z)⟩
theorem nf_t {a b c : Sg_} (h : NF_ a b) (g : NF_ b c) : NF_ a c := ⟨fun i => (g.1 i).trans (h.1 i), fun z => h.2 (g.2 z)⟩
theorem cz_p {A : Type} {Q : A → Prop} {c : Prop} {x y : A} (h : c → Q x) (g : ¬ c → Q y) : Q (cz_ c x y) := by
  by_cases z : c
  · rw [cz_t z]; exact h z
  · rw [cz_f z]; exact g z
theorem fn_n {a b : Sg_} (h : FN_ a) (g : NF_ a b) : FN_ b := fun z => by
  have y := h (g.2 z)
  rw [g.1 0, g.1 1]
  exact y
theorem nf_pv {r : Int → Int} {a : Sg_} {s : Int} : NF_ a (pv9_ r a s) := by
  unfold pv9_
  repeat' (first | exact nf_r | refine cz_p (Q := NF_ a) (fun _ => ?_) (fun _ => ?_) | refine nf_x ?_ | refine nf_4 ?_ | refine nf_5 ?_ | refine nf_u ?_ (by decide) | refine nf_f ?_ (by decide) | refine nf_g ?_)
theorem nf_pt {r : Int → Int} {a : Sg_} {k s : Int} : NF_ a (pt9_ r a k s) := by
  unfold pt9_
  repeat' (first | exact nf_r | refine cz_p (Q := NF_ a) (fun _ => ?_) (fun _ => ?_) | refine nf_x ?_ | refine nf_4 ?_ | refine nf_5 ?_ | refine nf_u ?_ (by decide) | refine nf_f ?_ (by decide))
theorem nf_eh {r : Int → Int} {a : Sg_} : NF_ a (eh9_ r a) := by
  unfold eh9_
  repeat' (first | exact nf_r | refine cz_p (Q := NF_ a) (fun _ => ?_) (fun _ => ?_) | refine nf_x ?_ | refine nf_4 ?_ | refine nf_5 ?_ | refine nf_u ?_ (by decide) | refine nf_f ?_ (by decide))
theorem nf_co {r : Int → Int} {a : Sg_} : NF_ a (co9_ r a) := by
  unfold co9_
  refine cz_p (Q := NF_ a) (fun _ => nf_t ?_ nf_eh) (fun _ => ?_)
  · repeat' (first | exact nf_r | refine nf_u ?_ (by decide) | refine nf_f ?_ (by decide))
  · repeat' (first | exact nf_r | refine nf_u ?_ (by decide) | refine nf_f ?_ (by decide))
theorem nf_gb {r : Int → Int} {a b : Sg_} {s v : Int} (h : NF_ a b) : NF_ a (gb9_ r b s v) := by
  unfold gb9_
  repeat' (first | exact h | refine cz_p (Q := NF_ a) (fun _ => ?_) (fun _ => ?_) | refine nf_x ?_ | refine nf_u ?_ (by decide) | refine nf_f ?_ (by decide))
theorem nf_wk {r : Int → Int} {a : Sg_} {s : Int} : NF_ a (wk9_ r a s) := by
  unfold wk9_
  repeat' (first | exact nf_r | refine cz_p (Q := NF_ a) (fun _ => ?_) (fun _ => ?_) | refine nf_gb ?_ | refine nf_x ?_ | refine nf_4 ?_ | refine nf_5 ?_ | refine nf_u ?_ (by decide))
theorem nf_ht {r : Int → Int} {a : Sg_} {s v : Int} : NF_ a (ht9_ r a s v) := by
  unfold ht9_
  exact nf_gb (nf_u nf_r (by decide))
theorem nf_pb {r : Int → Int} {a : Sg_} {k s v : Int} : NF_ a (pbb9_ r a k s v) := by
  unfold pbb9_
  refine cz_p (Q := NF_ a) (fun _ => nf_ht) (fun _ => cz_p (Q := NF_ a) (fun _ => cz_p (Q := NF_ a) (fun _ => nf_t (nf_u nf_r (by decide)) nf_wk) (fun _ => nf_u nf_r (by decide))) (fun _ => cz_p (Q := NF_ a) (fun _ => cz_p (Q := NF_ a) (fun _ => nf_t (nf_u nf_r (by decide)) nf_co) (fun _ => nf_u nf_r (by decide))) (fun _ => nf_co)))
theorem nf_su {r : Int → Int} {a : Sg_} {s q o : Int} : NF_ a (su9_ r a s q o) := by
  unfold su9_
  refine cz_p (Q := NF_ a) (fun _ => nf_r) (fun _ => ?_)
  repeat' (first | exact nf_r | refine nf_u ?_ (by decide))
theorem fn_so {r : Int → Int} {a : Sg_} {s k : Int} (w : 1 ≤ r 9) (h : FN_ a) : FN_ (so9_ r a s k) := by
  unfold so9_
  refine cz_p (Q := FN_) (fun _ => h) (fun _ => cz_p (Q := FN_) (fun _ => fun z => absurd z ?_) (fun c => fun z => ?_))
  · rw [u2_k (by decide), u2_k (by decide), u2_s]; decide
  · have e0 : ∀ j, u2_ (cg9_ (u2_ a 472 (a 471 (s * 6 + k)) 3) s k) 470 s (a 470 s - 1) 470 j = if j = s then a 470 s - 1 else a 470 j := fun j => by
      by_cases y : j = s
      · rw [if_pos y, y, u2_s]
      · rw [if_neg y, u2_n (fun t => y t.2), cg9_k (by decide), u2_k (by decide)]
    rw [u2_k (by decide), cg9_k (by decide), u2_k (by decide)] at z
    have y := h z
    rw [e0, e0]
    refine ⟨?_, ?_⟩
    · by_cases t : (0 : Int) = s
      · rw [if_pos t]; omega
      · rw [if_neg t]; exact y.1
    · by_cases t : (1 : Int) = s
      · rw [if_pos t]; omega
      · rw [if_neg t]; exact y.2
theorem fn_yl {r : Int → Int} {a : Sg_} {s k : Int} (w : 1 ≤ r 9) (h : FN_ a) : FN_ (yl9_ r a s k) := by
  unfold yl9_
  exact cz_p (Q := FN_) (fun _ => h) (fun _ => cz_p (Q := FN_) (fun _ => fn_so w (fn_n h (nf_u nf_r (by decide)))) (fun _ => fn_n h (nf_u nf_r (by decide))))
theorem fn_pf {r : Int → Int} {a : Sg_} {k s q : Int} (w : 1 ≤ r 9) (h : FN_ a) (h3 : a 103 3 = 0) : FN_ (pf9_ r a k s q) := by
  have g := h h3
  unfold pf9_
  refine cz_p (Q := FN_) (fun _ => fn_n h (nf_u nf_r (by decide))) (fun _ => cz_p (Q := FN_) (fun _ => fn_n h (nf_u nf_r (by decide))) (fun _ => cz_p (Q := FN_) (fun _ => fn_yl w h) (fun _ => cz_p (Q := FN_) (fun _ => fn_so w h) (fun _ => cz_p (Q := FN_) (fun _ => fn_n h (nf_x (nf_4 nf_r))) (fun _ => fun _ => ?_)))))
  rw [u2_k (by decide), u2_k (by decide), u2_k (by decide), u2_k (by decide)]
  exact g
theorem fn_ca {r : Int → Int} {a : Sg_} {k s q o : Int} (w : RB9_ r) (h : FN_ a) (hl : lw9_ r a k s q o = 0) : FN_ (ca9_ r a k s q o) := by
  have h3 := (lw_0 hl).1
  have w9 : 1 ≤ r 9 := w.2.1.1
  unfold ca9_
  exact cz_p (Q := FN_) (fun _ => fn_n h nf_su) (fun _ => cz_p (Q := FN_) (fun _ => fn_pf w9 h h3) (fun _ => cz_p (Q := FN_) (fun _ => fn_n h nf_pv) (fun _ => cz_p (Q := FN_) (fun _ => fn_n h nf_pt) (fun _ => fn_n h nf_pb))))
/-- both runs are the same -/
theorem rn_f {m : Int} {r : Int → Int} (w : RB9_ r) : ∀ (l : List Rw_) (x y : Rz_) (n : Int), SI_ m n r y.1 x.1 → FN_ x.1 → y.2 = x.2 → n + 3 * (l.length : Int) ≤ 1000000 → SI_ m (n + 3 * (l.length : Int)) r (l.foldl (stR_ r m) y).1 (l.foldl (stH_ r) x).1 ∧ FN_ (l.foldl (stH_ r) x).1 ∧ (l.foldl (stR_ r m) y).2 = (l.foldl (stH_ r) x).2
  | [], x, y, n, h, f, e, _ => ⟨by rw [show n + 3 * (([] : List Rw_).length : Int) = n by simp]; exact h, f, e⟩
  | (k, s, q, o) :: l, x, y, n, h, f, e, g => by
    have g' : n + 3 + 3 * (l.length : Int) ≤ 1000000 := by
      rw [List.length_cons] at g
      omega
    have hn := h.2.2.1
    have el : lwR_ r y.1 k s q o = lw9_ r x.1 k s q o := lw_q h.1 h.2.1 (fun s a b => h.2.2.2.2.2.2.2.2.2 s a b)
    rw [show n + 3 * (((k, s, q, o) :: l).length : Int) = n + 3 + 3 * (l.length : Int) by rw [List.length_cons]; omega]
    show SI_ m _ r (l.foldl (stR_ r m) (stR_ r m y (k, s, q, o))).1 (l.foldl (stH_ r) (stH_ r x (k, s, q, o))).1 ∧ FN_ (l.foldl (stH_ r) (stH_ r x (k, s, q, o))).1 ∧ (l.foldl (stR_ r m) (stR_ r m y (k, s, q, o))).2 = (l.foldl (stH_ r) (stH_ r x (k, s, q, o))).2
    by_cases z : lw9_ r x.1 k s q o = 0
    · rw [stH_t z, stR_t (el.trans z)]
      have h3 := (lw_0 z).1
      refine rn_f w l _ _ (n + 3) (si_ca h w z (fun t t0 t1 => ?_) (by omega)) (fn_ca w f z) ?_ g'
      · have y9 := f h3
        rcases (by omega : t = 0 ∨ t = 1) with c | c
        · rw [c]; exact y9.1
        · rw [c]; exact y9.2
      · show (y.2.1 ++ [(k, s, q, o)], y.2.2) = (x.2.1 ++ [(k, s, q, o)], x.2.2)
        rw [e]
    · rw [stH_f z, stR_f (fun c => z (el.symm.trans c))]
      refine rn_f w l _ _ (n + 3) (si_m h (by omega) (by omega)) f ?_ g'
      show (y.2.1, y.2.2 + 1) = (x.2.1, x.2.2 + 1)
      rw [e]
theorem rn_q {m : Int} {r : Int → Int} {b a : Sg_} (w : RB9_ r) (h : SI_ m 0 r b a) (f : FN_ a) {l : List Rw_} (g : 3 * (l.length : Int) ≤ 1000000) : SI_ m (3 * (l.length : Int)) r (rnR_ r m b l).1 (rnH_ r a l).1 ∧ FN_ (rnH_ r a l).1 ∧ (rnR_ r m b l).2 = (rnH_ r a l).2 := by
  have z := rn_f (m := m) w l (a, [], 0) (b, [], 0) 0 h f rfl (by omega)
  rw [show (0 : Int) + 3 * (l.length : Int) = 3 * (l.length : Int) by omega] at z
  exact z
-- the reference's rows
def rwc_ (T : Zt) (x : Int) : Rw_ := (T 248 0 x, T 249 0 x, T 250 0 x, T 251 0 x)
def ch9_ (T : Zt) : Int → Nat → List Int
  | _, 0 => []
  | f, n + 1 => f :: ch9_ T (T 252 0 f) n
theorem ch_l {T : Zt} : ∀ {l : List Int} {f : Int}, lk_ T f l → ch9_ T f l.length = l
  | [], _, _ => rfl
  | x :: l, f, h => by
    show f :: ch9_ T (T 252 0 f) l.length = x :: l
    rw [h.1, ch_l h.2.2]
/-- the rows of a match, as they stand -/
def rw9_ (T : Zt) (m : Int) : List Rw_ := (ch9_ T (T 253 0 m) (T 254 0 m).toNat).map (rwc_ T)
theorem rb_c {T : Zt} {L : Int → Int → List Int} (h : RB_ T L) {m : Int} (h0 : 0 ≤ m) (h1 : m < T 111 0 29) : ch9_ T (T 253 0 m) (T 254 0 m).toNat = L m 0 := by
  have y : lk_ T (T 253 0 m) (L m 0) ∧ T 254 0 m = ((L m 0).length : Int) := h.1 m 0 h0 h1 (by decide) (by decide)
  rw [y.2, Int.toNat_natCast]
  exact ch_l y.1
theorem rw_l {T : Zt} {L : Int → Int → List Int} (h : RB_ T L) {m : Int} (h0 : 0 ≤ m) (h1 : m < T 111 0 29) : rw9_ T m = (L m 0).map (rwc_ T) := by
  unfold rw9_
  rw [rb_c h h0 h1]
theorem ch_n {T : Zt} : ∀ {n : Nat} {f : Int}, (ch9_ T f n).length = n
  | 0, _ => rfl
  | n + 1, f => by
    show (ch9_ T (T 252 0 f) n).length + 1 = n + 1
    rw [ch_n]
theorem rw_n {T : Zt} {m : Int} : (rw9_ T m).length = (T 254 0 m).toNat := by
  unfold rw9_
  rw [List.length_map, ch_n]
theorem ch_k {T T' : Zt} (e : ∀ x, T' 252 0 x = T 252 0 x) : ∀ (n : Nat) (f : Int), ch9_ T' f n = ch9_ T f n
  | 0, _ => rfl
  | n + 1, f => by
    show f :: ch9_ T' (T' 252 0 f) n = f :: ch9_ T (T 252 0 f) n
    rw [e f, ch_k e n]
theorem cl_k {T T' : Zt} (e : ∀ k x, k = 248 ∨ k = 249 ∨ k = 250 ∨ k = 251 → T' k 0 x = T k 0 x) : rwc_ T' = rwc_ T := by
  funext x
  unfold rwc_
  rw [e 248 x (by decide), e 249 x (by decide), e 250 x (by decide), e 251 x (by decide)]
/-- what leaves the rows alone -/
theorem rw_k {T T' : Zt} {m : Int} (e : ∀ k x, k = 248 ∨ k = 249 ∨ k = 250 ∨ k = 251 → T' k 0 x = T k 0 x) (e2 : ∀ x, T' 252 0 x = T 252 0 x) (e3 : T' 253 0 m = T 253 0 m) (e4 : T' 254 0 m = T 254 0 m) : rw9_ T' m = rw9_ T m := by
  unfold rw9_
  rw [cl_k e, e3, e4, ch_k e2]
/-- a row comes behind the rows of a match -/
theorem rw_p {T T' : Zt} {m x : Int} {L : Int → Int → List Int} (hB : RB_ T L) (hB' : RB_ T' (fun m' b' => if m' = m ∧ b' = 0 then L m 0 ++ [x] else L m' b')) (e29 : T' 111 0 29 = T 111 0 29) (ec : rwc_ T' = rwc_ T) (h0 : 0 ≤ m) (h1 : m < T 111 0 29) : rw9_ T' m = rw9_ T m ++ [rwc_ T x] ∧ ∀ j, j ≠ m → 0 ≤ j → j < T 111 0 29 → rw9_ T' j = rw9_ T j := by
  refine ⟨?_, fun j hj j0 j1 => ?_⟩
  · rw [rw_l hB' h0 (by omega), rw_l hB h0 h1, ec]
    show (if m = m ∧ (0 : Int) = 0 then L m 0 ++ [x] else L m 0).map (rwc_ T) = _
    rw [if_pos ⟨rfl, rfl⟩, List.map_append]
    rfl
  · rw [rw_l hB' j0 (by omega), rw_l hB j0 j1, ec]
    show (if j = m ∧ (0 : Int) = 0 then L m 0 ++ [x] else L j 0).map (rwc_ T) = _
    rw [if_neg (fun z => hj z.1)]
theorem rw_a {T T' : Zt} {m x : Int} {L : Int → Int → List Int} (hB : RB_ T L) (hB' : RB_ T' (fun m' b' => if m' = m ∧ b' = 1 then L m 1 ++ [x] else L m' b')) (e29 : T' 111 0 29 = T 111 0 29) (ec : rwc_ T' = rwc_ T) : ∀ j, 0 ≤ j → j < T 111 0 29 → rw9_ T' j = rw9_ T j := fun j j0 j1 => by
  rw [rw_l hB' j0 (by omega), rw_l hB j0 j1, ec]
  show (if j = m ∧ (0 : Int) = 1 then L m 1 ++ [x] else L j 0).map (rwc_ T) = _
  rw [if_neg (fun z => absurd z.2 (by decide))]
theorem rw_t {T T' : Zt} {m : Int} {L : Int → Int → List Int} (hB : RB_ T L) (hB' : RB_ T' (fun m' b' => if m' = m ∧ b' = 0 then [] else L m' b')) (e29 : T' 111 0 29 = T 111 0 29) (ec : rwc_ T' = rwc_ T) (h0 : 0 ≤ m) (h1 : m < T 111 0 29) : rw9_ T' m = [] ∧ ∀ j, j ≠ m → 0 ≤ j → j < T 111 0 29 → rw9_ T' j = rw9_ T j := by
  refine ⟨?_, fun j hj j0 j1 => ?_⟩
  · rw [rw_l hB' h0 (by omega)]
    show (if m = m ∧ (0 : Int) = 0 then [] else L m 0).map (rwc_ T') = _
    rw [if_pos ⟨rfl, rfl⟩]
    rfl
  · rw [rw_l hB' j0 (by omega), rw_l hB j0 j1, ec]
    show (if j = m ∧ (0 : Int) = 0 then [] else L j 0).map (rwc_ T) = _
    rw [if_neg (fun z => hj z.1)]
theorem ei_m {A B : Type} {f : A → B} : ∀ (l : List A) (i : Nat), (l.eraseIdx i).map f = (l.map f).eraseIdx i
  | [], _ => rfl
  | _ :: _, 0 => rfl
  | x :: l, i + 1 => by
    show f x :: (l.eraseIdx i).map f = f x :: (l.map f).eraseIdx i
    rw [ei_m l i]
theorem rw_d {T T' : Zt} {m : Int} {i : Nat} {L : Int → Int → List Int} (hB : RB_ T L) (hB' : RB_ T' (fun m' b' => if m' = m ∧ b' = 0 then (L m 0).eraseIdx i else L m' b')) (e29 : T' 111 0 29 = T 111 0 29) (ec : rwc_ T' = rwc_ T) (h0 : 0 ≤ m) (h1 : m < T 111 0 29) : rw9_ T' m = (rw9_ T m).eraseIdx i ∧ ∀ j, j ≠ m → 0 ≤ j → j < T 111 0 29 → rw9_ T' j = rw9_ T j := by
  refine ⟨?_, fun j hj j0 j1 => ?_⟩
  · rw [rw_l hB' h0 (by omega), rw_l hB h0 h1, ec]
    show (if m = m ∧ (0 : Int) = 0 then (L m 0).eraseIdx i else L m 0).map (rwc_ T) = _
    rw [if_pos ⟨rfl, rfl⟩, ei_m]
  · rw [rw_l hB' j0 (by omega), rw_l hB j0 j1, ec]
    show (if j = m ∧ (0 : Int) = 0 then (L m 0).eraseIdx i else L j 0).map (rwc_ T) = _
    rw [if_neg (fun z => hj z.1)]
/-- a row that none has is told of -/
theorem rw_x {T T' : Zt} {x : Int} {L : Int → Int → List Int} (hB : RB_ T L) (hB' : RB_ T' L) (e29 : T' 111 0 29 = T 111 0 29) (e : ∀ k y, k = 248 ∨ k = 249 ∨ k = 250 ∨ k = 251 → y ≠ x → T' k 0 y = T k 0 y) (hx : ∀ m b, x ∉ L m b) : ∀ j, 0 ≤ j → j < T 111 0 29 → rw9_ T' j = rw9_ T j := fun j j0 j1 => by
  rw [rw_l hB' j0 (by omega), rw_l hB j0 j1]
  refine List.map_congr_left (fun y hy => ?_)
  have n : y ≠ x := fun z => hx j 0 (z ▸ hy)
  unfold rwc_
  rw [e 248 y (by decide) n, e 249 y (by decide) n, e 250 y (by decide) n, e 251 y (by decide) n]
/-- a row is told anew -/
theorem rw_c {T T' : Zt} {m x : Int} {i : Nat} {q : Rw_} {L : Int → Int → List Int} (hB : RB_ T L) (hB' : RB_ T' L) (e29 : T' 111 0 29 = T 111 0 29) (e : ∀ k y, k = 248 ∨ k = 249 ∨ k = 250 ∨ k = 251 → y ≠ x → T' k 0 y = T k 0 y) (hq : rwc_ T' x = q) (hi : (L m 0)[i]? = some x) (h0 : 0 ≤ m) (h1 : m < T 111 0 29) : rw9_ T' m = (rw9_ T m).set i q ∧ ∀ j, j ≠ m → 0 ≤ j → j < T 111 0 29 → rw9_ T' j = rw9_ T j := by
  have ne : ∀ y, y ≠ x → rwc_ T' y = rwc_ T y := fun y n => by
    unfold rwc_
    rw [e 248 y (by decide) n, e 249 y (by decide) n, e 250 y (by decide) n, e 251 y (by decide) n]
  have hx : x ∈ L m 0 := List.mem_of_getElem? hi
  have hl : i < (L m 0).length := by
    rcases Nat.lt_or_ge i (L m 0).length with z | z
    · exact z
    · rw [List.getElem?_eq_none z] at hi; cases hi
  refine ⟨?_, fun j hj j0 j1 => ?_⟩
  · rw [rw_l hB' h0 (by omega), rw_l hB h0 h1]
    refine List.ext_getElem? (fun t => ?_)
    rw [List.getElem?_map]
    by_cases c : i = t
    · subst c
      rw [hi, List.getElem?_set, if_pos rfl, if_pos (by rw [List.length_map]; exact hl), ← hq]
      rfl
    · rw [List.getElem?_set_ne c, List.getElem?_map]
      rcases Nat.lt_or_ge t (L m 0).length with z | z
      · have ht : (L m 0)[t]? = some ((L m 0)[t]) := List.getElem?_eq_getElem z
        have nn : (L m 0)[t] ≠ x := fun w => by
          have hi2 : (L m 0)[i] = x := by
            have y := List.getElem?_eq_getElem hl
            rw [y] at hi
            exact Option.some.inj hi
          rcases Nat.lt_or_ge i t with u | u
          · exact (List.pairwise_iff_getElem.mp (hB.2.2.1 m 0)) i t hl z u (hi2.trans w.symm)
          · exact (List.pairwise_iff_getElem.mp (hB.2.2.1 m 0)) t i z hl (by omega) (w.trans hi2.symm)
        rw [ht]
        exact congrArg some (ne _ nn)
      · rw [List.getElem?_eq_none z]
        rfl
  · rw [rw_l hB' j0 (by omega), rw_l hB j0 j1]
    refine List.map_congr_left (fun y hy => ne y (fun z => hj ?_))
    exact (hB.2.2.2 j 0 m 0 x (z ▸ hy) hx).1
/-- how a match of the reference begins -/
def BGR_ (m : Int) (r : Int → Int) (a b : Sg_) : Prop :=
  (∀ t, 0 ≤ t → t ≤ 1 → b 449 t = a 449 t) ∧ (∀ t x, 0 ≤ t → t ≤ 1 → t * 10 ≤ x → x < t * 10 + a 449 t → b 448 x = a 448 x) ∧ (∀ t, 0 ≤ t → t ≤ 1 → b 470 t = r 9) ∧
  (∀ t x, 0 ≤ t → t ≤ 1 → t * 10 ≤ x → x < t * 10 + a 449 t → (x < t * 10 + r 9 → b 472 x = 1) ∧ (t * 10 + r 9 ≤ x → b 472 x = 0) ∧ b 473 x = 0 ∧ b 474 x = 0) ∧
  (∀ t x, 0 ≤ t → t ≤ 1 → t * 6 ≤ x → x < t * 6 + r 9 → b 471 x = 20 * m + t * 10 + (x - t * 6)) ∧
  (b 466 0 = 0 ∧ b 466 1 = 0 ∧ b 467 0 = 0 ∧ b 467 1 = 0 ∧ b 468 0 = 0 ∧ b 468 1 = 0 ∧ b 469 0 = 0 ∧ b 469 1 = 0) ∧ b 103 4 = 0 ∧ b 103 5 = cz_ (r 0 = 3) 1 0 ∧ b 103 3 = 1
theorem bg_l {T T' : Zt} {m : Int} {ru : Int → Int} (hru : RLR_ T m ru) (h9 : 1 ≤ ru 9 ∧ ru 9 ≤ 6) (g49 : ∀ t, 0 ≤ t → t ≤ 1 → 0 ≤ T 239 0 (2 * m + t) ∧ T 239 0 (2 * m + t) ≤ 10) (e39 : ∀ j, T' 239 0 j = T 239 0 j) (e40 : ∀ j, T' 240 0 j = T 240 0 j)
    (h1 : ∀ j, 2 * m ≤ j → j < 2 * m + 2 → T' 244 0 j = T 205 0 (23 * T 230 0 m + 9))
    (h2 : ∀ j, 20 * m ≤ j → j < 20 * m + 20 → j % 10 < T 239 0 (j / 10) → (j % 10 < T 205 0 (23 * T 230 0 m + 9) → T' 241 0 j = 1) ∧ (T 205 0 (23 * T 230 0 m + 9) ≤ j % 10 → T' 241 0 j = 0) ∧ T' 242 0 j = 0 ∧ T' 243 0 j = 0)
    (h3 : ∀ j, 12 * m ≤ j → j < 12 * m + 12 → j % 6 < T 205 0 (23 * T 230 0 m + 9) → T' 245 0 j = 10 * (j / 6) + j % 6)
    (h4 : ∀ j, 8 * m ≤ j → j < 8 * m + 8 → j ≠ 8 * m + 5 → T' 246 0 j = 0) (h5 : (T 205 0 (23 * T 230 0 m + 0) = 3 → T' 246 0 (8 * m + 5) = 1) ∧ (T 205 0 (23 * T 230 0 m + 0) ≠ 3 → T' 246 0 (8 * m + 5) = 0)) (h6 : T' 236 0 m = 0) (h7 : T' 237 0 m = 0) (h8 : T' 235 0 m = 1) : BGR_ m ru (rp9_ T m) (rp9_ T' m) := by
  have r9 := hru 9 (by decide) (by decide)
  have r0 := hru 0 (by decide) (by decide)
  rw [r9] at h1 h2 h3
  rw [r0] at h5
  have a49 : ∀ t, 0 ≤ t → t ≤ 1 → rp9_ T m 449 t = T 239 0 (2 * m + t) := fun t t0 t1 => rp_v (dm_449 ⟨t0, t1⟩) rfl rfl
  refine ⟨fun t t0 t1 => ?_, fun t x t0 t1 x0 x1 => ?_, fun t t0 t1 => ?_, fun t x t0 t1 x0 x1 => ?_, fun t x t0 t1 x0 x1 => ?_, ⟨?_, ?_, ?_, ?_, ?_, ?_, ?_, ?_⟩, ?_, ?_, ?_⟩
  · rw [a49 t t0 t1, rp_v (m := m) (K := 239) (x := 2 * m + t) (dm_449 ⟨t0, t1⟩) rfl rfl, e39]
  · have g := g49 t t0 t1
    rw [a49 t t0 t1] at x1
    have d : 0 ≤ x ∧ x ≤ 19 := by omega
    rw [rp_v (m := m) (K := 240) (x := 20 * m + x) (dm_448 d) rfl rfl, rp_v (m := m) (K := 240) (x := 20 * m + x) (dm_448 d) rfl rfl, e40]
  · rw [rp_v (m := m) (K := 244) (x := 2 * m + t) (dm_470 ⟨t0, t1⟩) rfl rfl]
    exact h1 _ (by omega) (by omega)
  · have g := g49 t t0 t1
    rw [a49 t t0 t1] at x1
    have d : 0 ≤ x ∧ x ≤ 19 := by omega
    have q1 : (20 * m + x) / 10 = 2 * m + t := by omega
    have q2 : (20 * m + x) % 10 = x - t * 10 := by omega
    have y := h2 (20 * m + x) (by omega) (by omega) (by rw [q1, q2]; omega)
    rw [q2] at y
    rw [rp_v (m := m) (K := 241) (x := 20 * m + x) (dm_472 d) rfl rfl, rp_v (m := m) (K := 242) (x := 20 * m + x) (dm_473 d) rfl rfl, rp_v (m := m) (K := 243) (x := 20 * m + x) (dm_474 d) rfl rfl]
    exact ⟨fun z => y.1 (by omega), fun z => y.2.1 (by omega), y.2.2⟩
  · have d : 0 ≤ x ∧ x ≤ 11 := by omega
    rw [rp_v (m := m) (K := 245) (x := 12 * m + x) (dm_471 d) rfl rfl, h3 (12 * m + x) (by omega) (by omega) (by omega)]
    omega
  · rw [rp_v (m := m) (k := 466) (j := 0) (K := 246) (x := 8 * m + 1 + 0) rfl rfl rfl]; exact h4 _ (by omega) (by omega) (by omega)
  · rw [rp_v (m := m) (k := 466) (j := 1) (K := 246) (x := 8 * m + 1 + 1) rfl rfl rfl]; exact h4 _ (by omega) (by omega) (by omega)
  · rw [rp_v (m := m) (k := 467) (j := 0) (K := 246) (x := 8 * m + 3 + 0) rfl rfl rfl]; exact h4 _ (by omega) (by omega) (by omega)
  · rw [rp_v (m := m) (k := 467) (j := 1) (K := 246) (x := 8 * m + 3 + 1) rfl rfl rfl]; exact h4 _ (by omega) (by omega) (by omega)
  · rw [rp_v (m := m) (k := 468) (j := 0) (K := 236) (x := m) rfl rfl rfl]; exact h6
  · rw [rp_v (m := m) (k := 468) (j := 1) (K := 237) (x := m) rfl rfl rfl]; exact h7
  · rw [rp_v (m := m) (k := 469) (j := 0) (K := 246) (x := 8 * m + 6 + 0) rfl rfl rfl]; exact h4 _ (by omega) (by omega) (by omega)
  · rw [rp_v (m := m) (k := 469) (j := 1) (K := 246) (x := 8 * m + 6 + 1) rfl rfl rfl]; exact h4 _ (by omega) (by omega) (by omega)
  · rw [rp_v (m := m) (k := 103) (j := 4) (K := 246) (x := 8 * m) rfl rfl rfl]; exact h4 _ (by omega) (by omega) (by omega)
  · rw [rp_v (m := m) (k := 103) (j := 5) (K := 246) (x := 8 * m + 5) rfl rfl rfl]
    by_cases z : ru 0 = 3
    · rw [cz_t z]; exact h5.1 z
    · rw [cz_f z]; exact h5.2 z
  · rw [rp_v (m := m) (k := 103) (j := 3) (K := 235) (x := m) rfl rfl rfl]; exact h8
theorem si_bg {m : Int} {r : Int → Int} {a0 b a : Sg_} (w : RB9_ r) (g49 : ∀ t, 0 ≤ t → t ≤ 1 → r 9 ≤ a 449 t ∧ a 449 t ≤ 10) (w5 : ∀ s x y, 0 ≤ s → s ≤ 1 → s * 10 ≤ x → x < s * 10 + a 449 s → s * 10 ≤ y → y < s * 10 + a 449 s → a 448 x = a 448 y → x = y) (f49 : ∀ t, 0 ≤ t → t ≤ 1 → a0 449 t = a 449 t) (f48 : ∀ t x, 0 ≤ t → t ≤ 1 → t * 10 ≤ x → x < t * 10 + a 449 t → a0 448 x = a 448 x) (h : BGR_ m r a0 b) : SI_ m 0 r b (bb9_ r a) ∧ FN_ (bb9_ r a) := by
  obtain ⟨h1, h2, h3, h4, h5, h6, h7, h8, h9⟩ := h
  have s := si_bb (m := m) (b := b) w g49 w5 (fun t t0 t1 => (h1 t t0 t1).trans (f49 t t0 t1)) (fun t x t0 t1 x0 x1 => (h2 t x t0 t1 x0 (by rw [f49 t t0 t1]; exact x1)).trans (f48 t x t0 t1 x0 x1)) h3 (fun t x t0 t1 x0 x1 => h4 t x t0 t1 x0 (by rw [f49 t t0 t1]; exact x1)) h5 h6 h7 h8 h9
  refine ⟨s, fun _ => ?_⟩
  have e0 := (eq_j s.1 (s := 0) (by decide) (by decide)).2.1
  have e1 := (eq_j s.1 (s := 1) (by decide) (by decide)).2.1
  have f0 := h3 0 (by decide) (by decide)
  have f1 := h3 1 (by decide) (by decide)
  have w9 := w.2.1
  omega
-- the rows of the reference, their lists told
theorem rb_put {T T' : Zt} {m b x : Int} {rest : List Int} {L : Int → Int → List Int} (hb : 0 ≤ b ∧ b ≤ 1) (hm : 0 ≤ m ∧ m < T 111 0 29) (h47 : T 111 0 47 ≤ 3000) (r : RB_ T L) (q : RR_ T L (x :: rest))
    (e29 : T' 111 0 29 = T 111 0 29) (e47 : T' 111 0 47 = T 111 0 47)
    (ef : ∀ m' b', 0 ≤ b' → b' ≤ 1 → ¬ (m' = m ∧ b' = b) → T' (kf_ b') 0 m' = T (kf_ b') 0 m' ∧ T' (km_ b') 0 m' = T (km_ b') 0 m')
    (e1 : T' (km_ b) 0 m = T (km_ b) 0 m + 1) (e3 : T' 252 0 x = -1)
    (e2 : (L m b = [] ∧ T' (kf_ b) 0 m = x ∧ ∀ z, z ≠ x → T' 252 0 z = T 252 0 z) ∨ (T' (kf_ b) 0 m = T (kf_ b) 0 m ∧ ∃ y, (L m b).getLast? = some y ∧ T' 252 0 y = x ∧ ∀ z, z ≠ x → z ≠ y → T' 252 0 z = T 252 0 z)) :
    RB_ T' (fun m' b' => if m' = m ∧ b' = b then L m b ++ [x] else L m' b') ∧ RR_ T' (fun m' b' => if m' = m ∧ b' = b then L m b ++ [x] else L m' b') rest ∧ ∀ z ∈ rest, T' 252 0 z = T 252 0 z := by
  obtain ⟨r1, r2, r3, r4⟩ := r
  obtain ⟨q1, q2, q3⟩ := q
  have hx := q1 x List.mem_cons_self
  have n2 := List.nodup_cons.mp q2
  have hxL : ∀ m' b', x ∉ L m' b' := fun m' b' => q3 m' b' x List.mem_cons_self
  have hl := r1 m b hm.1 hm.2 hb.1 hb.2
  -- what stays of the links
  have keep : ∀ z, z ≠ x → (∀ y, (L m b).getLast? = some y → z ≠ y) → T' 252 0 z = T 252 0 z := by
    intro z hz hy
    rcases e2 with ⟨_, _, e⟩ | ⟨_, y, gy, _, e⟩
    · exact e z hz
    · exact e z hz (hy y gy)
  have other : ∀ m' b', ¬ (m' = m ∧ b' = b) → ∀ z ∈ L m' b', T' 252 0 z = T 252 0 z := fun m' b' hn z hz =>
    keep z (fun e => hxL m' b' (e ▸ hz)) (fun y gy e => hn (by
      have := r4 m' b' m b y (e ▸ hz) (List.mem_of_getLast? gy)
      exact this))
  refine ⟨⟨?_, ?_, ?_, ?_⟩, ⟨?_, n2.2, ?_⟩, ?_⟩
  · intro m' b' h1 h2 h3 h4
    by_cases c : m' = m ∧ b' = b
    · simp only [c, and_self, if_true]
      refine ⟨?_, by rw [e1, hl.2]; simp⟩
      rcases e2 with ⟨en, ef1, e⟩ | ⟨ef1, y, gy, ey, e⟩
      · rw [en, ef1]; exact ⟨rfl, by omega, e3⟩
      · rw [ef1]
        exact lk_app (by omega) e3 ey hl.1 (r3 m b) gy (fun z hz hn => e z (fun q => hxL m b (q ▸ hz)) hn)
    · simp only [c, if_false]
      have f := ef m' b' h3 h4 c
      have g := r1 m' b' h1 (by omega) h3 h4
      rw [f.1, f.2]
      exact ⟨lk_e g.1 (other m' b' c), g.2⟩
  · intro m' b' z hz
    rw [e47]
    by_cases c : m' = m ∧ b' = b
    · simp only [c, and_self, if_true, List.mem_append, List.mem_singleton] at hz
      rcases hz with hz | hz
      · exact r2 m b z hz
      · rw [hz]; exact hx
    · simp only [c, if_false] at hz; exact r2 m' b' z hz
  · intro m' b'
    by_cases c : m' = m ∧ b' = b
    · simp only [c, and_self, if_true]
      exact List.nodup_append.mpr ⟨r3 m b, by simp, fun z hz w hw e => by
        rw [List.mem_singleton] at hw
        exact hxL m b (by rw [← hw, ← e]; exact hz)⟩
    · simp only [c, if_false]; exact r3 m' b'
  · intro m1 b1 m2 b2 z h1 h2
    by_cases c : m1 = m ∧ b1 = b
    · by_cases d : m2 = m ∧ b2 = b
      · exact ⟨c.1.trans d.1.symm, c.2.trans d.2.symm⟩
      · simp only [c, and_self, if_true, List.mem_append, List.mem_singleton] at h1
        simp only [d, if_false] at h2
        rcases h1 with h1 | h1
        · have := r4 m b m2 b2 z h1 h2
          exact absurd ⟨this.1.symm, this.2.symm⟩ d
        · exact absurd (h1 ▸ h2) (hxL m2 b2)
    · simp only [c, if_false] at h1
      by_cases d : m2 = m ∧ b2 = b
      · simp only [d, and_self, if_true, List.mem_append, List.mem_singleton] at h2
        rcases h2 with h2 | h2
        · have := r4 m1 b1 m b z h1 h2
          exact absurd this c
        · exact absurd (h2 ▸ h1) (hxL m1 b1)
      · simp only [d, if_false] at h2
        exact r4 m1 b1 m2 b2 z h1 h2
  · intro z hz
    rw [e47]; exact q1 z (List.mem_cons_of_mem _ hz)
  · intro m' b' z hz
    by_cases c : m' = m ∧ b' = b
    · simp only [c, and_self, if_true, List.mem_append, List.mem_singleton]
      intro h
      rcases h with h | h
      · exact q3 m b z (List.mem_cons_of_mem _ hz) h
      · exact n2.1 (h ▸ hz)
    · simp only [c, if_false]; exact q3 m' b' z (List.mem_cons_of_mem _ hz)
  · intro z hz
    exact keep z (fun e => n2.1 (e ▸ hz)) (fun y gy e => q3 m b z (List.mem_cons_of_mem _ hz) (by rw [e]; exact List.mem_of_getLast? gy))
theorem rb_new {T T' : Zt} {L : Int → Int → List Int} (h : RB_ T L) (h0 : 0 ≤ T 111 0 47) (e29 : T' 111 0 29 = T 111 0 29) (e47 : T' 111 0 47 = T 111 0 47 + 1) (e : ∀ k j, k = 252 ∨ k = 253 ∨ k = 254 ∨ k = 255 ∨ k = 256 → T' k 0 j = T k 0 j) : RB_ T' L ∧ RR_ T' L [T 111 0 47] := by
  obtain ⟨a, b, c, d⟩ := h
  refine ⟨⟨fun m b' h1 h2 h3 h4 => ?_, fun m b' x hx => ?_, c, d⟩, fun x hx => ?_, by simp, fun m b' x hx hL => ?_⟩
  · have y := a m b' h1 (by omega) h3 h4
    have z1 : kf_ b' = 253 ∨ kf_ b' = 255 := by unfold kf_; split <;> simp
    have z2 : km_ b' = 254 ∨ km_ b' = 256 := by unfold km_; split <;> simp
    rw [e (kf_ b') m (by omega), e (km_ b') m (by omega)]
    exact ⟨lk_e y.1 (fun x _ => e 252 x (by decide)), y.2⟩
  · have := b m b' x hx
    omega
  · rw [List.mem_singleton] at hx
    omega
  · rw [List.mem_singleton] at hx
    have := b m b' x hL
    omega
theorem rb_take {T T' : Zt} {m : Int} {L : Int → Int → List Int} (h : RB_ T L) (hm : 0 ≤ m ∧ m < T 111 0 29) (e29 : T' 111 0 29 = T 111 0 29) (e47 : T' 111 0 47 = T 111 0 47) (en : ∀ z, T' 252 0 z = T 252 0 z) (e3 : ∀ j, j ≠ m → T' 253 0 j = T 253 0 j) (e4 : ∀ j, j ≠ m → T' 254 0 j = T 254 0 j) (e5 : ∀ j, T' 255 0 j = T 255 0 j) (e6 : ∀ j, T' 256 0 j = T 256 0 j) (e1 : T' 253 0 m = -1) (e2 : T' 254 0 m = 0) : RB_ T' (fun m' b' => if m' = m ∧ b' = 0 then [] else L m' b') ∧ RR_ T' (fun m' b' => if m' = m ∧ b' = 0 then [] else L m' b') (L m 0) ∧ lk_ T' (T 253 0 m) (L m 0) := by
  obtain ⟨a, b, c, d⟩ := h
  have hl : lk_ T (T 253 0 m) (L m 0) := (a m 0 hm.1 hm.2 (by decide) (by decide)).1
  refine ⟨⟨?_, ?_, ?_, ?_⟩, ⟨?_, c m 0, ?_⟩, lk_e hl (fun x _ => en x)⟩
  · intro m' b' h1 h2 h3 h4
    by_cases k : m' = m ∧ b' = 0
    · obtain ⟨rfl, rfl⟩ := k
      simp only [and_self, if_true]
      exact ⟨e1, e2⟩
    · simp only [k, if_false]
      have g := a m' b' h1 (by omega) h3 h4
      rcases (by omega : b' = 0 ∨ b' = 1) with z | z
      · subst z
        have f1 : T' (kf_ 0) 0 m' = T (kf_ 0) 0 m' := e3 m' (fun q => k ⟨q, rfl⟩)
        have f2 : T' (km_ 0) 0 m' = T (km_ 0) 0 m' := e4 m' (fun q => k ⟨q, rfl⟩)
        rw [f1, f2]; exact ⟨lk_e g.1 (fun x _ => en x), g.2⟩
      · subst z
        have f1 : T' (kf_ 1) 0 m' = T (kf_ 1) 0 m' := e5 m'
        have f2 : T' (km_ 1) 0 m' = T (km_ 1) 0 m' := e6 m'
        rw [f1, f2]; exact ⟨lk_e g.1 (fun x _ => en x), g.2⟩
  · intro m' b' z hz
    rw [e47]
    by_cases k : m' = m ∧ b' = 0
    · simp [k] at hz
    · simp only [k, if_false] at hz; exact b m' b' z hz
  · intro m' b'
    by_cases k : m' = m ∧ b' = 0
    · simp [k]
    · simp only [k, if_false]; exact c m' b'
  · intro m1 b1 m2 b2 z h1 h2
    by_cases k : m1 = m ∧ b1 = 0
    · simp [k] at h1
    · by_cases k2 : m2 = m ∧ b2 = 0
      · simp [k2] at h2
      · simp only [k, k2, if_false] at h1 h2; exact d m1 b1 m2 b2 z h1 h2
  · intro z hz
    rw [e47]; exact b m 0 z hz
  · intro m' b' z hz
    by_cases k : m' = m ∧ b' = 0
    · simp [k]
    · simp only [k, if_false]
      exact fun hy => k (by have := d m' b' m 0 z hy hz; exact this)
theorem rb_del {T T' : Zt} {m x : Int} {i : Nat} {L : Int → Int → List Int} (r : RB_ T L) (hm : 0 ≤ m ∧ m < T 111 0 29) (hx : (L m 0)[i]? = some x) (e29 : T' 111 0 29 = T 111 0 29) (e47 : T' 111 0 47 = T 111 0 47)
    (e3 : ∀ j, j ≠ m → T' 253 0 j = T 253 0 j) (e4 : ∀ j, j ≠ m → T' 254 0 j = T 254 0 j) (e5 : ∀ j, T' 255 0 j = T 255 0 j) (e6 : ∀ j, T' 256 0 j = T 256 0 j)
    (e1 : T' 254 0 m = T 254 0 m - 1)
    (e2 : (i = 0 ∧ T' 253 0 m = T 252 0 x ∧ ∀ z, T' 252 0 z = T 252 0 z) ∨ (T' 253 0 m = T 253 0 m ∧ ∃ n p, i = n + 1 ∧ (L m 0)[n]? = some p ∧ T' 252 0 p = T 252 0 x ∧ ∀ z, z ≠ p → T' 252 0 z = T 252 0 z)) : RB_ T' (fun m' b' => if m' = m ∧ b' = 0 then (L m 0).eraseIdx i else L m' b') ∧ RR_ T' (fun m' b' => if m' = m ∧ b' = 0 then (L m 0).eraseIdx i else L m' b') [] := by
  obtain ⟨a, b, c, d⟩ := r
  have hl : lk_ T (T 253 0 m) (L m 0) ∧ T 254 0 m = ((L m 0).length : Int) := a m 0 hm.1 hm.2 (by decide) (by decide)
  have hi : i < (L m 0).length := by
    rcases Nat.lt_or_ge i (L m 0).length with z | z
    · exact z
    · rw [List.getElem?_eq_none z] at hx; cases hx
  have sub : ∀ z, z ∈ (L m 0).eraseIdx i → z ∈ L m 0 := fun z hz => (List.eraseIdx_sublist (L m 0) i).subset hz
  have other : ∀ m' b', ¬ (m' = m ∧ b' = 0) → ∀ z ∈ L m' b', T' 252 0 z = T 252 0 z := by
    intro m' b' hn z hz
    rcases e2 with ⟨_, _, e⟩ | ⟨_, n, p, _, gp, _, e⟩
    · exact e z
    · exact e z (fun q => hn (by have := d m' b' m 0 p (q ▸ hz) (List.mem_of_getElem? gp); exact this))
  refine ⟨⟨?_, ?_, ?_, ?_⟩, (by simp), List.nodup_nil, (by simp)⟩
  · intro m' b' h1 h2 h3 h4
    by_cases k : m' = m ∧ b' = 0
    · obtain ⟨rfl, rfl⟩ := k
      simp only [and_self, if_true]
      refine ⟨?_, ?_⟩
      · show lk_ T' (T' 253 0 m') _
        rcases e2 with ⟨z, ef, e⟩ | ⟨ef, n, p, z, gp, ep, e⟩
        · subst z
          rw [ef]
          cases hL : L m' 0 with
          | nil => rw [hL] at hi; exact absurd hi (by simp)
          | cons y l =>
            rw [hL] at hx hl
            have : y = x := by simpa using hx
            subst this
            exact lk_e hl.1.2.2 (fun z _ => e z)
        · subst z
          rw [ef]
          exact lk_del ep hl.1 (c m' 0) hx gp (fun z _ hn => e z hn)
      · show T' 254 0 m' = _
        rw [e1, hl.2, List.length_eraseIdx_of_lt hi]; omega
    · simp only [k, if_false]
      have g := a m' b' h1 (by omega) h3 h4
      rcases (by omega : b' = 0 ∨ b' = 1) with z | z
      · subst z
        have f1 : T' (kf_ 0) 0 m' = T (kf_ 0) 0 m' := e3 m' (fun q => k ⟨q, rfl⟩)
        have f2 : T' (km_ 0) 0 m' = T (km_ 0) 0 m' := e4 m' (fun q => k ⟨q, rfl⟩)
        rw [f1, f2]; exact ⟨lk_e g.1 (other _ _ k), g.2⟩
      · subst z
        have f1 : T' (kf_ 1) 0 m' = T (kf_ 1) 0 m' := e5 m'
        have f2 : T' (km_ 1) 0 m' = T (km_ 1) 0 m' := e6 m'
        rw [f1, f2]; exact ⟨lk_e g.1 (other _ _ k), g.2⟩
  · intro m' b' z hz
    rw [e47]
    by_cases k : m' = m ∧ b' = 0
    · simp only [k, and_self, if_true] at hz; exact b m 0 z (sub z hz)
    · simp only [k, if_false] at hz; exact b m' b' z hz
  · intro m' b'
    by_cases k : m' = m ∧ b' = 0
    · simp only [k, and_self, if_true]; exact (c m 0).sublist (List.eraseIdx_sublist _ _)
    · simp only [k, if_false]; exact c m' b'
  · intro m1 b1 m2 b2 z h1 h2
    by_cases k : m1 = m ∧ b1 = 0
    · by_cases k2 : m2 = m ∧ b2 = 0
      · exact ⟨k.1.trans k2.1.symm, k.2.trans k2.2.symm⟩
      · simp only [k, and_self, if_true] at h1
        simp only [k2, if_false] at h2
        have := d m 0 m2 b2 z (sub z h1) h2
        exact absurd ⟨this.1.symm, this.2.symm⟩ k2
    · simp only [k, if_false] at h1
      by_cases k2 : m2 = m ∧ b2 = 0
      · simp only [k2, and_self, if_true] at h2
        have := d m1 b1 m 0 z h1 (sub z h2)
        exact absurd this k
      · simp only [k2, if_false] at h2
        exact d m1 b1 m2 b2 z h1 h2
theorem cp_i {T U : Zt} {a b n j : Int} (h : U = cp_ T a b n) (h0 : 0 ≤ j) (h1 : j < n) : U 190 b j = T 190 a j := by
  rw [h]
  unfold cp_
  exact if_pos ⟨rfl, rfl, h0, h1⟩
theorem ra_k {T T' : Zt} {a i : Int} (h : ∀ j, T' 190 a j = T 190 a j) : ra9_ T' a i = ra9_ T a i := ra_e (fun _ _ _ => h _)
/-- a frame that leaves the cells of a play alone -/
theorem rs_w {ws : List (Nat × List Int)} {T T1 : Zt} {p : Int} (f : fr_ ws T T1) (w : ∀ (k : Nat) (j : Int), dk_ k j = true → fw_ ws k j = false) : rs9_ T1 p = rs9_ T p := rs_n (fun k j d => f k p j (w k j d))
theorem bk_J7_copyOf_e_0 : ck_ fJ7 (some (.array .int)) cJ7_copyOf_59c91 0 [.iload 1, .aload 0, .arraylength, .if_icmp .ne 14, .aload 0] 7 = true := qck_r (nn_ _) (by decide +kernel)
theorem bs_J7_copyOf_e_0 {P : Zt → Option Zv → Prop} (K : Int → Zl → List Zv → Zt → Prop) : sx_ K P [.iload 1, .aload 0, .arraylength, .if_icmp .ne 14, .aload 0] 7 = x_iload 1 (x_aload 0 (x_arraylength (x_if_icmp .ne 14 K (x_aload 0 (K 7))))) := ((xe_iload 1).trans (congrArg (x_iload 1) ((xe_aload 0).trans (congrArg (x_aload 0) ((xe_arraylength).trans (congrArg (x_arraylength) ((xe_if_icmp .ne 14).trans (congrArg (x_if_icmp .ne 14 K) ((xe_aload 0).trans (congrArg (x_aload 0) xe_nil))))))))))
theorem bk_J7_copyOf_e_14 : ck_ fJ7 (some (.array .int)) cJ7_copyOf_59c91 14 [.iload 1] 15 = true := qck_r (nn_ _) (by decide +kernel)
theorem bs_J7_copyOf_e_14 {P : Zt → Option Zv → Prop} (K : Int → Zl → List Zv → Zt → Prop) : sx_ K P [.iload 1] 15 = x_iload 1 (K 15) := ((xe_iload 1).trans (congrArg (x_iload 1) xe_nil))
theorem bk_J7_copyOf_e_17 : ck_ fJ7 (some (.array .int)) cJ7_copyOf_59c91 17 [.astore 2, .aload 0, .iconst 0, .aload 2, .iconst 0, .aload 0, .arraylength, .iload 1] 25 = true := qck_r (nn_ _) (by decide +kernel)
theorem bs_J7_copyOf_e_17 {P : Zt → Option Zv → Prop} (K : Int → Zl → List Zv → Zt → Prop) : sx_ K P [.astore 2, .aload 0, .iconst 0, .aload 2, .iconst 0, .aload 0, .arraylength, .iload 1] 25 = x_astore 2 (x_aload 0 (x_iconst 0 (x_aload 2 (x_iconst 0 (x_aload 0 (x_arraylength (x_iload 1 (K 25)))))))) := ((xe_astore 2).trans (congrArg (x_astore 2) ((xe_aload 0).trans (congrArg (x_aload 0) ((xe_iconst 0).trans (congrArg (x_iconst 0) ((xe_aload 2).trans (congrArg (x_aload 2) ((xe_iconst 0).trans (congrArg (x_iconst 0) ((xe_aload 0).trans (congrArg (x_aload 0) ((xe_arraylength).trans (congrArg (x_arraylength) ((xe_iload 1).trans (congrArg (x_iload 1) xe_nil))))))))))))))))
theorem bk_J7_copyOf_e_31 : ck_ fJ7 (some (.array .int)) cJ7_copyOf_59c91 31 [.aload 2] 32 = true := qck_r (nn_ _) (by decide +kernel)
theorem bs_J7_copyOf_e_31 {P : Zt → Option Zv → Prop} (K : Int → Zl → List Zv → Zt → Prop) : sx_ K P [.aload 2] 32 = x_aload 2 (K 32) := ((xe_aload 2).trans (congrArg (x_aload 2) xe_nil))
abbrev po_J7_copyOf_e (T : Zt) (sl : Nat) (a : Int) (n : Int) : Zt → Option Zv → Prop := fun T' r => r = some (vR 190 (T 191 0 0)) ∧ fr_ [(190, []), (191, [0])] T T' ∧ T' 191 0 0 = T 191 0 0 + 1 ∧ T' 190 (T 191 0 0) (-2) = n ∧ (∀ x j, x ≠ T 191 0 0 → T' 190 x j = T 190 x j) ∧ ∀ j, 0 ≤ j → j < T 190 a (-2) → T' 190 (T 191 0 0) j = T 190 a j
set_option maxHeartbeats 4000000 in
theorem ct_J7_copyOf_e {T : Zt} {sl : Nat} {a : Int} {n : Int} (h1 : T 190 a (-2) < n ∧ n ≤ 100000 ∧ 0 ≤ T 190 a (-2)) (h2 : n.toNat ≤ 2 * sl) (h3 : a < T 191 0 0) : Ct_ yJ7_copyOf_59c91 (zJ7_copyOf_59c91 sl) T [vR 190 a, vI n] (po_J7_copyOf_e T sl a n) := by
  refine ct_of (by decide) rfl rfl (Nat.le_of_ble_eq_true rfl) (fun hT hav => ?_) (hi := fun h => absurd ((im_ev _).symm.trans h) (by decide))
  have hr_n : -2147483648 ≤ n ∧ n ≤ 2147483647 := hav (vI n) (List.mem_cons_of_mem _ List.mem_cons_self)
  have hz : (zJ7_copyOf_59c91 sl).2.2.2.1 = some .boolean → ∀ (T' : Zt) (x : Int), po_J7_copyOf_e T sl a n T' (some (vI x)) → 0 ≤ x ∧ x ≤ 1 := fun h => by cases h
  show J_ (zJ7_copyOf_59c91 sl) T (po_J7_copyOf_e T sl a n) 1 (2 * sl) 0 [some (vR 190 a), some (vI n), none] [] T
  refine j_blx (F := fJ7) tb_J7 (nn_ _) bk_J7_copyOf_e_0 bs_J7_copyOf_e_0 hz (fun K hK => ?_)
  intro b1 b1b
  refine And.intro (fun c2 => ?_) (fun c2 => ?_)
  · refine hK 14 _ [] T ?_
    refine j_blx (F := fJ7) tb_J7 (nn_ _) bk_J7_copyOf_e_14 bs_J7_copyOf_e_14 hz (fun K hK => ?_)
    refine hK 15 _ [vI n] T ?_
    refine j_newL (bc' := 0) (bs' := 0) (pc := 15) (by decide) (by omega) (by omega) (by omega) (by show decode cJ7_copyOf_59c91 (Int.toNat 15) = _; decide +kernel) (lwq_1 (dqc_m (dqc_m (dqa_m (List.mem_of_getElem? (i := 0) rfl)))) rfl : Cond.arrayClass .int ∈ lw_g) ?_
    refine j_nm (fun U3 hU3 => ?_)
    have fU3 := nv_fr hU3
    have aU3 := nv_t9 hU3
    have lU3 := nv_tl hU3
    have oU3 := nv_to hU3
    show J_ (zJ7_copyOf_59c91 sl) T (po_J7_copyOf_e T sl a n) 0 0 17 _ [vR 190 (T 191 0 0)] U3
    refine j_blx (F := fJ7) tb_J7 (nn_ _) bk_J7_copyOf_e_17 bs_J7_copyOf_e_17 hz (fun K hK => ?_)
    have y8 : U3 190 a (-2) = T 190 a (-2) := oU3 a (-2) (by omega)
    intro b4 b4b
    refine hK 25 [some (vR 190 a), some (vI n), some (vR 190 (T 191 0 0))] [vI n, vI (U3 190 a (-2)), vI 0, vR 190 (T 191 0 0), vI 0, vR 190 a] U3 ?_
    obtain ⟨x5, e6, hx5⟩ : ∃ x5 : Int, (if n < (U3 190 a (-2)) then n else (U3 190 a (-2))) = x5 ∧ ((x5 = U3 190 a (-2) ∨ x5 = n) ∧ x5 ≤ U3 190 a (-2) ∧ x5 ≤ n) := ⟨_, rfl, by split <;> omega⟩
    refine j_mn (pc := 25) (lwq_5 (dqc_m (dqc_m (dqc_m (dqc_m (dqa_m (List.mem_of_getElem? (i := 6) rfl)))))) rfl : Cond.methodLink RJ7 304 Lib.Math.min.name ∈ lw_g) (lwq_4 (dqc_m (dqc_m (dqc_m (dqa_m (dqa_m (List.mem_of_getElem? (i := 5) rfl)))))) rfl : Cond.static Lib.Math.min.name ∈ lw_g) (lwq_1 (dqa_m (dqa_m (List.mem_of_getElem? (i := 1) rfl))) rfl : Cond.initialized "java/lang/Math" ∈ lw_g) (lwq_4 (dqc_m (dqc_m (dqc_m (dqa_m (dqa_m (List.mem_of_getElem? (i := 6) rfl)))))) rfl : Cond.code Lib.Math.min.name Lib.Math.min.code 2 (some .int) ∈ lw_g) (by show decode cJ7_copyOf_59c91 (Int.toNat 25) = _; decide +kernel) (by decide) (Nat.le_of_ble_eq_true rfl) (Nat.le_of_ble_eq_true rfl) (Nat.le_of_ble_eq_true rfl) ?_
    rw [e6]
    clear e6
    show J_ (zJ7_copyOf_59c91 sl) T (po_J7_copyOf_e T sl a n) 0 0 28 _ [vI x5, vI 0, vR 190 (T 191 0 0), vI 0, vR 190 a] U3
    have y9 : U3 190 a (-2) = T 190 a (-2) := oU3 a (-2) (by omega)
    refine j_acp (pc := 28) (by decide) (by omega) (by omega) (by omega) (lwq_5 (dqc_m (dqc_m (dqc_m (dqc_m (dqa_m (List.mem_of_getElem? (i := 7) rfl)))))) rfl : Cond.methodLink RJ7 150 arraycopyName ∈ lw_g) (lwq_5 (dqc_m (dqc_m (dqc_m (dqc_m (dqa_m (dqa_m (List.mem_of_getElem? (i := 1) rfl))))))) rfl : Cond.native arraycopyName ∈ lw_g) (lwq_5 (dqc_m (dqc_m (dqc_m (dqc_m (dqa_m (dqa_m (List.mem_of_getElem? (i := 0) rfl))))))) rfl : Cond.static arraycopyName ∈ lw_g) (lwq_1 (dqa_m (dqa_m (List.mem_of_getElem? (i := 4) rfl))) rfl : Cond.initialized "java/lang/System" ∈ lw_g) (by show decode cJ7_copyOf_59c91 (Int.toNat 28) = _; decide +kernel) (by show 1 ≤ 1; omega) (by show 8 + (nativeFrameWords "java/lang/System" "arraycopy" 5 + 11) ≤ 70; decide) (by decide) ?_
    refine j_nm (fun U7 hU7 => ?_)
    have fU7 := cp_fr hU7
    have lU7 := cp_l hU7
    have oU7 := cp_o hU7
    show J_ (zJ7_copyOf_59c91 sl) T (po_J7_copyOf_e T sl a n) 0 0 31 _ [] U7
    refine j_blx (F := fJ7) tb_J7 (nn_ _) bk_J7_copyOf_e_31 bs_J7_copyOf_e_31 hz (fun K hK => ?_)
    refine hK 32 _ [vR 190 (T 191 0 0)] U7 ?_
    refine j_aret (pc := 32) rfl (Or.inr ⟨_, rfl⟩) (by show decode cJ7_copyOf_59c91 (Int.toNat 32) = _; decide +kernel) ?_
    refine (show po_J7_copyOf_e T sl a n U7 (some (vR 190 (T 191 0 0))) from ?_)
    have e8 : U7 191 0 0 = U3 191 0 0 := fU7 191 0 0 rfl
    exact ⟨rfl, fr_t (fr_s fU3 rfl) (fr_s fU7 rfl), (fU7 191 0 0 rfl).trans aU3, (lU7 _).trans lU3, fun x j hx => (oU7 x j hx).trans (oU3 x j hx), fun j j0 j1 => (cp_i hU7 j0 (by omega)).trans (oU3 a j (by omega))⟩
  · exact absurd c2 (by omega)
theorem bk_X3_writeRow_e_0 : ck_ fX3 none cX3_writeRow 0 [.aload 0, .iload 1, .iconst 4, .imul, .iload 2, .iastore, .aload 0, .iload 1, .iconst 4, .imul, .iconst 1, .iadd, .iload 3, .iastore, .aload 0, .iload 1, .iconst 4, .imul, .iconst 2, .iadd, .iload 4, .iastore, .aload 0, .iload 1, .iconst 4, .imul, .iconst 3, .iadd, .iload 5, .iastore, .return_] 33 = true := qck_r (nn_ _) (by decide +kernel)
theorem bs_X3_writeRow_e_0 {P : Zt → Option Zv → Prop} (K : Int → Zl → List Zv → Zt → Prop) : sx_ K P [.aload 0, .iload 1, .iconst 4, .imul, .iload 2, .iastore, .aload 0, .iload 1, .iconst 4, .imul, .iconst 1, .iadd, .iload 3, .iastore, .aload 0, .iload 1, .iconst 4, .imul, .iconst 2, .iadd, .iload 4, .iastore, .aload 0, .iload 1, .iconst 4, .imul, .iconst 3, .iadd, .iload 5, .iastore, .return_] 33 = x_aload 0 (x_iload 1 (x_iconst 4 (x_imul (x_iload 2 (x_iastore (x_aload 0 (x_iload 1 (x_iconst 4 (x_imul (x_iconst 1 (x_iadd (x_iload 3 (x_iastore (x_aload 0 (x_iload 1 (x_iconst 4 (x_imul (x_iconst 2 (x_iadd (x_iload 4 (x_iastore (x_aload 0 (x_iload 1 (x_iconst 4 (x_imul (x_iconst 3 (x_iadd (x_iload 5 (x_iastore (x_return_ P)))))))))))))))))))))))))))))) := ((xe_aload 0).trans (congrArg (x_aload 0) ((xe_iload 1).trans (congrArg (x_iload 1) ((xe_iconst 4).trans (congrArg (x_iconst 4) ((xe_imul).trans (congrArg (x_imul) ((xe_iload 2).trans (congrArg (x_iload 2) ((xe_iastore).trans (congrArg (x_iastore) ((xe_aload 0).trans (congrArg (x_aload 0) ((xe_iload 1).trans (congrArg (x_iload 1) ((xe_iconst 4).trans (congrArg (x_iconst 4) ((xe_imul).trans (congrArg (x_imul) ((xe_iconst 1).trans (congrArg (x_iconst 1) ((xe_iadd).trans (congrArg (x_iadd) ((xe_iload 3).trans (congrArg (x_iload 3) ((xe_iastore).trans (congrArg (x_iastore) ((xe_aload 0).trans (congrArg (x_aload 0) ((xe_iload 1).trans (congrArg (x_iload 1) ((xe_iconst 4).trans (congrArg (x_iconst 4) ((xe_imul).trans (congrArg (x_imul) ((xe_iconst 2).trans (congrArg (x_iconst 2) ((xe_iadd).trans (congrArg (x_iadd) ((xe_iload 4).trans (congrArg (x_iload 4) ((xe_iastore).trans (congrArg (x_iastore) ((xe_aload 0).trans (congrArg (x_aload 0) ((xe_iload 1).trans (congrArg (x_iload 1) ((xe_iconst 4).trans (congrArg (x_iconst 4) ((xe_imul).trans (congrArg (x_imul) ((xe_iconst 3).trans (congrArg (x_iconst 3) ((xe_iadd).trans (congrArg (x_iadd) ((xe_iload 5).trans (congrArg (x_iload 5) ((xe_iastore).trans (congrArg (x_iastore) (xe_return_)))))))))))))))))))))))))))))))))))))))))))))))))))))))))))))
abbrev po_X3_writeRow_e (T : Zt) (a : Int) (i k s v w : Int) : Zt → Option Zv → Prop := fun T' r => r = none ∧ fr_ [(190, [])] T T' ∧ (∀ x, T' 190 x (-2) = T 190 x (-2)) ∧ (∀ x j, ¬ (x = a ∧ i * 4 ≤ j ∧ j < i * 4 + 4) → T' 190 x j = T 190 x j) ∧ ra9_ T' a i = (k, s, v, w)
set_option maxHeartbeats 4000000 in
theorem ct_X3_writeRow_e {T : Zt} {a : Int} {i k s v w : Int} (h1 : 0 ≤ i ∧ i ≤ 1000 ∧ i * 4 + 3 < T 190 a (-2)) : Ct_ yX3_writeRow zX3_writeRow T [vR 190 a, vI i, vI k, vI s, vI v, vI w] (po_X3_writeRow_e T a i k s v w) := by
  refine ct_of pn_3 rfl rfl (Nat.le_of_ble_eq_true rfl) (fun hT hav => ?_)
  have hr_i : -2147483648 ≤ i ∧ i ≤ 2147483647 := hav (vI i) (List.mem_cons_of_mem _ List.mem_cons_self)
  have hr_k : -2147483648 ≤ k ∧ k ≤ 2147483647 := hav (vI k) (List.mem_cons_of_mem _ (List.mem_cons_of_mem _ List.mem_cons_self))
  have hr_s : -2147483648 ≤ s ∧ s ≤ 2147483647 := hav (vI s) (List.mem_cons_of_mem _ (List.mem_cons_of_mem _ (List.mem_cons_of_mem _ List.mem_cons_self)))
  have hr_v : -2147483648 ≤ v ∧ v ≤ 2147483647 := hav (vI v) (List.mem_cons_of_mem _ (List.mem_cons_of_mem _ (List.mem_cons_of_mem _ (List.mem_cons_of_mem _ List.mem_cons_self))))
  have hr_w : -2147483648 ≤ w ∧ w ≤ 2147483647 := hav (vI w) (List.mem_cons_of_mem _ (List.mem_cons_of_mem _ (List.mem_cons_of_mem _ (List.mem_cons_of_mem _ (List.mem_cons_of_mem _ List.mem_cons_self)))))
  have hz : zX3_writeRow.2.2.2.1 = some .boolean → ∀ (T' : Zt) (x : Int), po_X3_writeRow_e T a i k s v w T' (some (vI x)) → 0 ≤ x ∧ x ≤ 1 := fun h => by cases h
  show J_ zX3_writeRow T (po_X3_writeRow_e T a i k s v w) 0 0 0 [some (vR 190 a), some (vI i), some (vI k), some (vI s), some (vI v), some (vI w)] [] T
  refine j_blx (F := fX3) tb_X3 (nn_ _) bk_X3_writeRow_e_0 bs_X3_writeRow_e_0 hz (fun K hK => ?_)
  refine rg_i (by omega) ?_
  refine iy_i (by omega) (by omega) ?_
  refine x_nm (fun U1 hU1 => ?_)
  have e2 := up_f hU1
  refine rg_i (by omega) ?_
  refine rg_i (by omega) ?_
  have y3 : U1 190 a (-2) = T 190 a (-2) := up_g hU1 (fun z => by omega)
  refine iy_i (by omega) (by omega) ?_
  refine x_nm (fun U4 hU4 => ?_)
  have e5 := up_f hU4
  refine rg_i (by omega) ?_
  refine rg_i (by omega) ?_
  have y6 : U4 190 a (-2) = T 190 a (-2) := (up_g hU4 (fun z => by omega)).trans (up_g hU1 (fun z => by omega))
  refine iy_i (by omega) (by omega) ?_
  refine x_nm (fun U7 hU7 => ?_)
  have e8 := up_f hU7
  refine rg_i (by omega) ?_
  refine rg_i (by omega) ?_
  have y9 : U7 190 a (-2) = T 190 a (-2) := (up_g hU7 (fun z => by omega)).trans ((up_g hU4 (fun z => by omega)).trans (up_g hU1 (fun z => by omega)))
  refine iy_i (by omega) (by omega) ?_
  refine x_nm (fun U10 hU10 => ?_)
  have e11 := up_f hU10
  refine (show po_X3_writeRow_e T a i k s v w U10 (none) from ?_)
  have g0 : U10 190 a (i * 4) = k := (up_g hU10 (fun z => by omega)).trans ((up_g hU7 (fun z => by omega)).trans ((up_g hU4 (fun z => by omega)).trans (up_f hU1)))
  have g1 : U10 190 a ((i * 4) + 1) = s := (up_g hU10 (fun z => by omega)).trans ((up_g hU7 (fun z => by omega)).trans (up_f hU4))
  have g2 : U10 190 a ((i * 4) + 2) = v := (up_g hU10 (fun z => by omega)).trans (up_f hU7)
  have g3 : U10 190 a ((i * 4) + 3) = w := up_f hU10
  refine ⟨rfl, fr_u (fr_u (fr_u (fr_u (fr_0 _ _) hU1 rfl) hU4 rfl) hU7 rfl) hU10 rfl, fun x => (up_g hU10 (fun z => by omega)).trans ((up_g hU7 (fun z => by omega)).trans ((up_g hU4 (fun z => by omega)).trans (up_g hU1 (fun z => by omega)))), fun x j hx => (up_g hU10 (fun z => hx (by omega))).trans ((up_g hU7 (fun z => hx (by omega))).trans ((up_g hU4 (fun z => hx (by omega))).trans (up_g hU1 (fun z => hx (by omega))))), ?_⟩
  show (U10 190 a (i * 4), U10 190 a (i * 4 + 1), U10 190 a (i * 4 + 2), U10 190 a (i * 4 + 3)) = (k, s, v, w)
  rw [g0, g1, g2, g3]
theorem bk_X3_keepRow_e_0 : ck_ fX3 none cX3_keepRow 0 [.aload 0, .tableswitch 0 3 15 #[], .iconst 4, .imul, .iconst 4, .iadd, .aload 0, .tableswitch 0 3 14 #[], .arraylength, .if_icmp .le 34, .aload 0, .aload 0, .tableswitch 0 3 14 #[], .aload 0, .tableswitch 0 3 14 #[], .arraylength, .iconst 2, .imul] 28 = true := qck_r (nn_ _) (by decide +kernel)
theorem bs_X3_keepRow_e_0 {P : Zt → Option Zv → Prop} (K : Int → Zl → List Zv → Zt → Prop) : sx_ K P [.aload 0, .tableswitch 0 3 15 #[], .iconst 4, .imul, .iconst 4, .iadd, .aload 0, .tableswitch 0 3 14 #[], .arraylength, .if_icmp .le 34, .aload 0, .aload 0, .tableswitch 0 3 14 #[], .aload 0, .tableswitch 0 3 14 #[], .arraylength, .iconst 2, .imul] 28 = x_aload 0 (x_g0 103 15 0 3000 (x_iconst 4 (x_imul (x_iconst 4 (x_iadd (x_aload 0 (x_g3 103 190 14 (x_arraylength (x_if_icmp .le 34 K (x_aload 0 (x_aload 0 (x_g3 103 190 14 (x_aload 0 (x_g3 103 190 14 (x_arraylength (x_iconst 2 (x_imul (K 28)))))))))))))))))) := ((xe_aload 0).trans (congrArg (x_aload 0) ((xe_g0 (kk := 103) rfl tl_3_15).trans (congrArg (x_g0 103 15 0 3000) ((xe_iconst 4).trans (congrArg (x_iconst 4) ((xe_imul).trans (congrArg (x_imul) ((xe_iconst 4).trans (congrArg (x_iconst 4) ((xe_iadd).trans (congrArg (x_iadd) ((xe_aload 0).trans (congrArg (x_aload 0) ((xe_g3 (kk := 103) rfl tl_3_14).trans (congrArg (x_g3 103 190 14) ((xe_arraylength).trans (congrArg (x_arraylength) ((xe_if_icmp .le 34).trans (congrArg (x_if_icmp .le 34 K) ((xe_aload 0).trans (congrArg (x_aload 0) ((xe_aload 0).trans (congrArg (x_aload 0) ((xe_g3 (kk := 103) rfl tl_3_14).trans (congrArg (x_g3 103 190 14) ((xe_aload 0).trans (congrArg (x_aload 0) ((xe_g3 (kk := 103) rfl tl_3_14).trans (congrArg (x_g3 103 190 14) ((xe_arraylength).trans (congrArg (x_arraylength) ((xe_iconst 2).trans (congrArg (x_iconst 2) ((xe_imul).trans (congrArg (x_imul) xe_nil))))))))))))))))))))))))))))))))))))
theorem bk_X3_keepRow_e_34 : ck_ fX3 none cX3_keepRow 34 [.aload 0, .tableswitch 0 3 14 #[], .aload 0, .tableswitch 0 3 15 #[], .iload 1, .iload 2, .iload 3, .iload 4] 47 = true := qck_r (nn_ _) (by decide +kernel)
theorem bs_X3_keepRow_e_34 {P : Zt → Option Zv → Prop} (K : Int → Zl → List Zv → Zt → Prop) : sx_ K P [.aload 0, .tableswitch 0 3 14 #[], .aload 0, .tableswitch 0 3 15 #[], .iload 1, .iload 2, .iload 3, .iload 4] 47 = x_aload 0 (x_g3 103 190 14 (x_aload 0 (x_g0 103 15 0 3000 (x_iload 1 (x_iload 2 (x_iload 3 (x_iload 4 (K 47)))))))) := ((xe_aload 0).trans (congrArg (x_aload 0) ((xe_g3 (kk := 103) rfl tl_3_14).trans (congrArg (x_g3 103 190 14) ((xe_aload 0).trans (congrArg (x_aload 0) ((xe_g0 (kk := 103) rfl tl_3_15).trans (congrArg (x_g0 103 15 0 3000) ((xe_iload 1).trans (congrArg (x_iload 1) ((xe_iload 2).trans (congrArg (x_iload 2) ((xe_iload 3).trans (congrArg (x_iload 3) ((xe_iload 4).trans (congrArg (x_iload 4) xe_nil))))))))))))))))
theorem bk_X3_keepRow_e_50 : ck_ fX3 none cX3_keepRow 50 [.aload 0, .dup, .tableswitch 0 3 15 #[], .iconst 1, .iadd, .tableswitch 1 3 15 #[], .return_] 61 = true := qck_r (nn_ _) (by decide +kernel)
theorem bs_X3_keepRow_e_50 {P : Zt → Option Zv → Prop} (K : Int → Zl → List Zv → Zt → Prop) : sx_ K P [.aload 0, .dup, .tableswitch 0 3 15 #[], .iconst 1, .iadd, .tableswitch 1 3 15 #[], .return_] 61 = x_aload 0 (x_dup (x_g0 103 15 0 3000 (x_iconst 1 (x_iadd (x_p 103 15 0 3000 (x_return_ P)))))) := ((xe_aload 0).trans (congrArg (x_aload 0) ((xe_dup).trans (congrArg (x_dup) ((xe_g0 (kk := 103) rfl tl_3_15).trans (congrArg (x_g0 103 15 0 3000) ((xe_iconst 1).trans (congrArg (x_iconst 1) ((xe_iadd).trans (congrArg (x_iadd) ((xe_p (kk := 103) rfl tl_3_15).trans (congrArg (x_p 103 15 0 3000) (xe_return_)))))))))))))
abbrev po_X3_keepRow_e (T : Zt) (p : Int) (k s v w : Int) : Zt → Option Zv → Prop := fun T' r => r = none ∧ fr_ [(103, [14, 15]), (190, []), (191, [0])] T T' ∧ (oq_ T T' p ∧ T' 103 p 15 = T 103 p 15 + 1 ∧ (∀ x, x < T 191 0 0 → T' 190 x (-2) = T 190 x (-2)) ∧ T 191 0 0 ≤ T' 191 0 0 ∧ T' 191 0 0 ≤ T 191 0 0 + 1 ∧ lz_ (T' 190 (T' 103 p 14) (-2)) ∧ T' 103 p 14 < T' 191 0 0 ∧ 4 * (T 103 p 15 + 1) ≤ T' 190 (T' 103 p 14) (-2) ∧ T' 190 (T' 103 p 14) (-2) ≤ 2 * T 190 (T 103 p 14) (-2) ∧ (∀ x j, x < T 191 0 0 → x ≠ T 103 p 14 → T' 190 x j = T 190 x j) ∧ (T' 103 p 14 = T 103 p 14 ∨ T' 103 p 14 = T 191 0 0) ∧ hr9_ T' (T' 103 p 14) (T' 103 p 15).toNat = hr9_ T (T 103 p 14) (T 103 p 15).toNat ++ [(k, s, v, w)])
set_option maxHeartbeats 4000000 in
theorem ct_X3_keepRow_e {T : Zt} {p : Int} {k s v w : Int} (h1 : 0 ≤ T 103 p 15 ∧ T 103 p 15 < 512 ∧ 4 * T 103 p 15 ≤ T 190 (T 103 p 14) (-2)) (h2 : T 103 p 14 < T 191 0 0 ∧ T 191 0 0 ≤ 2000000000 ∧ -2147483648 ≤ T 103 p 14) (hz9 : lz_ (T 190 (T 103 p 14) (-2))) : Ct_ yX3_keepRow zX3_keepRow T [vR 103 p, vI k, vI s, vI v, vI w] (po_X3_keepRow_e T p k s v w) := by
  refine ct_of pn_3 rfl rfl (Nat.le_of_ble_eq_true rfl) (fun hT hav => ?_)
  have hr_k : -2147483648 ≤ k ∧ k ≤ 2147483647 := hav (vI k) (List.mem_cons_of_mem _ List.mem_cons_self)
  have hr_s : -2147483648 ≤ s ∧ s ≤ 2147483647 := hav (vI s) (List.mem_cons_of_mem _ (List.mem_cons_of_mem _ List.mem_cons_self))
  have hr_v : -2147483648 ≤ v ∧ v ≤ 2147483647 := hav (vI v) (List.mem_cons_of_mem _ (List.mem_cons_of_mem _ (List.mem_cons_of_mem _ List.mem_cons_self)))
  have hr_w : -2147483648 ≤ w ∧ w ≤ 2147483647 := hav (vI w) (List.mem_cons_of_mem _ (List.mem_cons_of_mem _ (List.mem_cons_of_mem _ (List.mem_cons_of_mem _ List.mem_cons_self))))
  have hz : zX3_keepRow.2.2.2.1 = some .boolean → ∀ (T' : Zt) (x : Int), po_X3_keepRow_e T p k s v w T' (some (vI x)) → 0 ≤ x ∧ x ≤ 1 := fun h => by cases h
  have hb9 := lz_b hz9
  show J_ zX3_keepRow T (po_X3_keepRow_e T p k s v w) 1 2048 0 [some (vR 103 p), some (vI k), some (vI s), some (vI v), some (vI w)] [] T
  refine j_blx (F := fX3) tb_X3 (nn_ _) bk_X3_keepRow_e_0 bs_X3_keepRow_e_0 hz (fun K hK => ?_)
  intro b1 b1b
  refine rg_i (by omega) ?_
  refine rg_i (by omega) ?_
  intro b3 b3b
  refine And.intro (fun c4 => ?_) (fun c4 => ?_)
  · refine hK 34 _ [] T ?_
    refine j_blx (F := fX3) tb_X3 (nn_ _) bk_X3_keepRow_e_34 bs_X3_keepRow_e_34 hz (fun K hK => ?_)
    intro b6 b6b
    refine hK 47 _ [vI w, vI v, vI s, vI k, vI (T 103 p 15), vR 190 (T 103 p 14)] T ?_
    refine j_callS (y := yX3_writeRow) (Yc := zX3_writeRow) (rest := []) [vR 190 (T 103 p 14), vI (T 103 p 15), vI k, vI s, vI v, vI w] (ct_X3_writeRow_e (T := T) (by omega)) cl_X3_161 (qd_c (by decide +kernel)) (nn_ _) rfl (rf_of rfl) (Nat.le_of_ble_eq_true rfl) (Nat.le_of_ble_eq_true rfl) (Nat.le_of_ble_eq_true rfl) rfl ?_
    rintro U7 _ ⟨rfl, fU7, lU7, wU7, rU7⟩
    show J_ zX3_keepRow T (po_X3_keepRow_e T p k s v w) 1 2048 50 _ [] U7
    refine j_blx (F := fX3) tb_X3 (nn_ _) bk_X3_keepRow_e_50 bs_X3_keepRow_e_50 hz (fun K hK => ?_)
    intro b8 b8b
    have e9 : U7 103 p 15 = T 103 p 15 := fU7 103 p 15 rfl
    rw [e9] at b8 b8b ⊢
    refine rg_i (by omega) ?_
    refine bd_i (by omega) ?_
    refine x_nm (fun U10 hU10 => ?_)
    have e11 := up_f hU10
    refine (show po_X3_keepRow_e T p k s v w U10 (none) from ?_)
    have e12 : U10 103 p 15 = (T 103 p 15) + 1 := up_f hU10
    have e13 : U10 103 p 14 = T 103 p 14 := (up_j hU10 (by decide) 103 p).trans (fU7 103 p 14 rfl)
    have e14 : U10 191 0 0 = T 191 0 0 := (up_k hU10 (by exact Nat.ne_of_beq_eq_false rfl) 0 0).trans (fU7 191 0 0 rfl)
    have e15 : U10 103 p 14 = T 103 p 14 := (up_j hU10 (by decide) 103 p).trans (fU7 103 p 14 rfl)
    have e16 : U10 103 p 15 = (T 103 p 15) + 1 := up_f hU10
    have d1 : U10 103 p 14 = T 103 p 14 := by omega
    have d2 : U10 190 (U10 103 p 14) (-2) = T 190 (T 103 p 14) (-2) := by rw [d1]; exact (up_k hU10 (by exact Nat.ne_of_beq_eq_false rfl) _ (-2)).trans (lU7 _)
    have e17 : U10 191 0 0 = T 191 0 0 := (up_k hU10 (by exact Nat.ne_of_beq_eq_false rfl) 0 0).trans (fU7 191 0 0 rfl)
    have d6 : lz_ (U10 190 (U10 103 p 14) (-2)) := by rw [d2]; exact hz9
    have b1 : ra9_ U10 (U10 103 p 14) (T 103 p 15) = (k, s, v, w) := by
      rw [d1, ra_k (T := U7) (fun _ => up_k hU10 (by exact Nat.ne_of_beq_eq_false rfl) _ _)]
      exact rU7
    have b2 : hr9_ U10 (U10 103 p 14) (U10 103 p 15).toNat = hr9_ T (T 103 p 14) (T 103 p 15).toNat ++ [(k, s, v, w)] := hrw_k (by omega) (by omega) (fun j j0 j1 => by
      rw [d1]
      exact (up_k hU10 (by exact Nat.ne_of_beq_eq_false rfl) _ _).trans (wU7 _ _ (fun z => by omega))) b1
    exact ⟨rfl, fr_u (fr_t (fr_0 _ _) (fr_s fU7 rfl)) hU10 rfl, oq_u (oq_1 (oq_r) fU7) hU10, by omega, fun x hx => (up_k hU10 (by exact Nat.ne_of_beq_eq_false rfl) _ (-2)).trans (lU7 _), by omega, by omega, d6, by omega, by omega, by omega, fun x j h1 h2 => (up_k hU10 (by exact Nat.ne_of_beq_eq_false rfl) _ _).trans (wU7 _ _ (fun z => by omega)), by omega, b2⟩
  · have hg9 : T 190 (T 103 p 14) (-2) ≤ 1024 := lz_h hz9 (by omega)
    intro b20 b20b
    refine rg_i (by omega) ?_
    refine hK 28 _ [vI ((T 190 (T 103 p 14) (-2)) * 2), vR 190 (T 103 p 14), vR 103 p] T ?_
    refine j_callS (pc := 28) (y := yJ7_copyOf_59c91) (Yc := (zJ7_copyOf_59c91 1024)) (rest := [vR 103 p]) [vR 190 (T 103 p 14), vI ((T 190 (T 103 p 14) (-2)) * 2)] (ct_J7_copyOf_e (T := T) (sl := 1024) (by omega) (by omega) (by omega)) (cl_X3_157 _) (qd_c (by decide +kernel)) (by decide) rfl rfl (Nat.le_of_ble_eq_true rfl) (by first | decide | (simp only [zJ7_copyOf_59c91]; omega)) (by first | decide | (simp only [zJ7_copyOf_59c91]; omega)) rfl ?_
    rintro U21 _ ⟨rfl, fU21, aU21, lU21, oU21, cU21⟩
    show J_ zX3_keepRow T (po_X3_keepRow_e T p k s v w) 0 0 31 _ [vR 190 (T 191 0 0), vR 103 p] U21
    refine j_putV (pc := 31) (ci := 3) (j := 14) (z := T 191 0 0) (by decide) fr5_X3_36 tl_3_14 (by decide +kernel) rfl (by omega) (by omega) ?_
    refine j_nm (fun U22 hU22 => ?_)
    have e23 := up_f hU22
    show J_ zX3_keepRow T (po_X3_keepRow_e T p k s v w) 0 0 34 _ [] U22
    refine j_blx (F := fX3) tb_X3 (nn_ _) bk_X3_keepRow_e_34 bs_X3_keepRow_e_34 hz (fun K hK => ?_)
    have e25 : U22 103 p 14 = T 191 0 0 := up_f hU22
    intro b26 b26b
    have e27 : U22 103 p 15 = T 103 p 15 := (up_j hU22 (by decide) 103 p).trans (fU21 103 p 15 rfl)
    rw [e27] at b26 b26b ⊢
    refine hK 47 _ [vI w, vI v, vI s, vI k, vI (T 103 p 15), vR 190 (U22 103 p 14)] U22 ?_
    have y28 : U22 190 (U22 103 p 14) (-2) = (T 190 (T 103 p 14) (-2)) * 2 := by rw [e25]; exact (up_k hU22 (by exact Nat.ne_of_beq_eq_false rfl) _ (-2)).trans lU21
    refine j_callS (y := yX3_writeRow) (Yc := zX3_writeRow) (rest := []) [vR 190 (U22 103 p 14), vI (T 103 p 15), vI k, vI s, vI v, vI w] (ct_X3_writeRow_e (T := U22) (by omega)) cl_X3_161 (qd_c (by decide +kernel)) (nn_ _) rfl (rf_of rfl) (Nat.le_of_ble_eq_true rfl) (Nat.le_of_ble_eq_true rfl) (Nat.le_of_ble_eq_true rfl) rfl ?_
    rintro U29 _ ⟨rfl, fU29, lU29, wU29, rU29⟩
    show J_ zX3_keepRow T (po_X3_keepRow_e T p k s v w) 0 0 50 _ [] U29
    refine j_blx (F := fX3) tb_X3 (nn_ _) bk_X3_keepRow_e_50 bs_X3_keepRow_e_50 hz (fun K hK => ?_)
    intro b30 b30b
    have e31 : U29 103 p 15 = T 103 p 15 := (fU29 103 p 15 rfl).trans ((up_j hU22 (by decide) 103 p).trans (fU21 103 p 15 rfl))
    rw [e31] at b30 b30b ⊢
    refine rg_i (by omega) ?_
    refine bd_i (by omega) ?_
    refine x_nm (fun U32 hU32 => ?_)
    have e33 := up_f hU32
    refine (show po_X3_keepRow_e T p k s v w U32 (none) from ?_)
    have e34 : U32 103 p 15 = (T 103 p 15) + 1 := up_f hU32
    have e35 : U32 103 p 14 = T 191 0 0 := (up_j hU32 (by decide) 103 p).trans ((fU29 103 p 14 rfl).trans (up_f hU22))
    have e36 : U32 191 0 0 = U21 191 0 0 := (up_k hU32 (by exact Nat.ne_of_beq_eq_false rfl) 0 0).trans ((fU29 191 0 0 rfl).trans (up_k hU22 (by exact Nat.ne_of_beq_eq_false rfl) 0 0))
    have e37 : U32 103 p 14 = T 191 0 0 := (up_j hU32 (by decide) 103 p).trans ((fU29 103 p 14 rfl).trans (up_f hU22))
    have e38 : U32 103 p 15 = (T 103 p 15) + 1 := up_f hU32
    have d1 : U32 103 p 14 = T 191 0 0 := by omega
    have d2 : U32 190 (U32 103 p 14) (-2) = (T 190 (T 103 p 14) (-2)) * 2 := by rw [d1]; exact ((up_k hU32 (by exact Nat.ne_of_beq_eq_false rfl) _ (-2)).trans ((lU29 _).trans (up_k hU22 (by exact Nat.ne_of_beq_eq_false rfl) _ (-2)))).trans lU21
    have e39 : U32 191 0 0 = U21 191 0 0 := (up_k hU32 (by exact Nat.ne_of_beq_eq_false rfl) 0 0).trans ((fU29 191 0 0 rfl).trans (up_k hU22 (by exact Nat.ne_of_beq_eq_false rfl) 0 0))
    have d5 : T 190 (T 103 p 14) (-2) < 2048 := by omega
    have d6 : lz_ (U32 190 (U32 103 p 14) (-2)) := by rw [d2, show (T 190 (T 103 p 14) (-2)) * 2 = 2 * (T 190 (T 103 p 14) (-2)) by omega]; exact lz_d hz9 d5
    have b1 : ra9_ U32 (U32 103 p 14) (T 103 p 15) = (k, s, v, w) := by
      rw [d1, ra_k (T := U29) (fun _ => up_k hU32 (by exact Nat.ne_of_beq_eq_false rfl) _ _)]
      rw [← e25]
      exact rU29
    have b2 : hr9_ U32 (U32 103 p 14) (U32 103 p 15).toNat = hr9_ T (T 103 p 14) (T 103 p 15).toNat ++ [(k, s, v, w)] := hrw_k (by omega) (by omega) (fun j j0 j1 => by
      rw [d1]
      exact ((up_k hU32 (by exact Nat.ne_of_beq_eq_false rfl) _ _).trans ((wU29 _ _ (fun z => by omega)).trans (up_k hU22 (by exact Nat.ne_of_beq_eq_false rfl) _ _))).trans (cU21 j j0 (by omega))) b1
    exact ⟨rfl, fr_u (fr_t (fr_u (fr_t (fr_0 _ _) (fr_s fU21 rfl)) hU22 rfl) (fr_s fU29 rfl)) hU32 rfl, oq_u (oq_1 (oq_u (oq_9 (oq_r) fU21) hU22) fU29) hU32, by omega, fun x hx => ((up_k hU32 (by exact Nat.ne_of_beq_eq_false rfl) _ (-2)).trans ((lU29 _).trans (up_k hU22 (by exact Nat.ne_of_beq_eq_false rfl) _ (-2)))).trans (oU21 x (-2) (by omega)), by omega, by omega, d6, by omega, by omega, by omega, fun x j h1 h2 => (up_k hU32 (by exact Nat.ne_of_beq_eq_false rfl) _ _).trans ((wU29 _ _ (fun z => by omega)).trans ((up_k hU22 (by exact Nat.ne_of_beq_eq_false rfl) _ _).trans (oU21 _ _ (by omega)))), by omega, b2⟩
abbrev po_X3_keepRow0_e (T : Zt) (p : Int) (k s v w : Int) : Zt → Option Zv → Prop := fun T' r => r = none ∧ fr_ [(103, [15]), (190, [])] T T' ∧ (oq_ T T' p ∧ T' 103 p 15 = T 103 p 15 + 1 ∧ (∀ x, x < T 191 0 0 → T' 190 x (-2) = T 190 x (-2)) ∧ (∀ x j, ¬ (x = T 103 p 14 ∧ T 103 p 15 * 4 ≤ j ∧ j < T 103 p 15 * 4 + 4) → T' 190 x j = T 190 x j) ∧ hr9_ T' (T' 103 p 14) (T' 103 p 15).toNat = hr9_ T (T 103 p 14) (T 103 p 15).toNat ++ [(k, s, v, w)])
set_option maxHeartbeats 4000000 in
theorem ct_X3_keepRow0_e {T : Zt} {p : Int} {k s v w : Int} (h1 : 0 ≤ T 103 p 15 ∧ T 103 p 15 < 512 ∧ 4 * T 103 p 15 ≤ T 190 (T 103 p 14) (-2)) (h2 : T 103 p 14 < T 191 0 0 ∧ T 191 0 0 ≤ 2000000000 ∧ -2147483648 ≤ T 103 p 14) (h3 : 4 * T 103 p 15 + 4 ≤ T 190 (T 103 p 14) (-2)) : Ct_ yX3_keepRow zX3_keepRow0 T [vR 103 p, vI k, vI s, vI v, vI w] (po_X3_keepRow0_e T p k s v w) := by
  refine ct_of pn_3 rfl rfl (Nat.le_of_ble_eq_true rfl) (fun hT hav => ?_)
  have hr_k : -2147483648 ≤ k ∧ k ≤ 2147483647 := hav (vI k) (List.mem_cons_of_mem _ List.mem_cons_self)
  have hr_s : -2147483648 ≤ s ∧ s ≤ 2147483647 := hav (vI s) (List.mem_cons_of_mem _ (List.mem_cons_of_mem _ List.mem_cons_self))
  have hr_v : -2147483648 ≤ v ∧ v ≤ 2147483647 := hav (vI v) (List.mem_cons_of_mem _ (List.mem_cons_of_mem _ (List.mem_cons_of_mem _ List.mem_cons_self)))
  have hr_w : -2147483648 ≤ w ∧ w ≤ 2147483647 := hav (vI w) (List.mem_cons_of_mem _ (List.mem_cons_of_mem _ (List.mem_cons_of_mem _ (List.mem_cons_of_mem _ List.mem_cons_self))))
  have hz : zX3_keepRow0.2.2.2.1 = some .boolean → ∀ (T' : Zt) (x : Int), po_X3_keepRow0_e T p k s v w T' (some (vI x)) → 0 ≤ x ∧ x ≤ 1 := fun h => by cases h
  show J_ zX3_keepRow0 T (po_X3_keepRow0_e T p k s v w) 0 0 0 [some (vR 103 p), some (vI k), some (vI s), some (vI v), some (vI w)] [] T
  refine j_blx (F := fX3) tb_X3 (nn_ _) bk_X3_keepRow_e_0 bs_X3_keepRow_e_0 hz (fun K hK => ?_)
  intro b1 b1b
  refine rg_i (by omega) ?_
  refine rg_i (by omega) ?_
  intro b3 b3b
  refine And.intro (fun c4 => ?_) (fun c4 => ?_)
  · refine hK 34 _ [] T ?_
    refine j_blx (F := fX3) tb_X3 (nn_ _) bk_X3_keepRow_e_34 bs_X3_keepRow_e_34 hz (fun K hK => ?_)
    intro b6 b6b
    refine hK 47 _ [vI w, vI v, vI s, vI k, vI (T 103 p 15), vR 190 (T 103 p 14)] T ?_
    refine j_callS (y := yX3_writeRow) (Yc := zX3_writeRow) (rest := []) [vR 190 (T 103 p 14), vI (T 103 p 15), vI k, vI s, vI v, vI w] (ct_X3_writeRow_e (T := T) (by omega)) cl_X3_161 (qd_c (by decide +kernel)) (nn_ _) rfl (rf_of rfl) (Nat.le_of_ble_eq_true rfl) (Nat.le_of_ble_eq_true rfl) (Nat.le_of_ble_eq_true rfl) rfl ?_
    rintro U7 _ ⟨rfl, fU7, lU7, wU7, rU7⟩
    show J_ zX3_keepRow0 T (po_X3_keepRow0_e T p k s v w) 0 0 50 _ [] U7
    refine j_blx (F := fX3) tb_X3 (nn_ _) bk_X3_keepRow_e_50 bs_X3_keepRow_e_50 hz (fun K hK => ?_)
    intro b8 b8b
    have e9 : U7 103 p 15 = T 103 p 15 := fU7 103 p 15 rfl
    rw [e9] at b8 b8b ⊢
    refine rg_i (by omega) ?_
    refine bd_i (by omega) ?_
    refine x_nm (fun U10 hU10 => ?_)
    have e11 := up_f hU10
    refine (show po_X3_keepRow0_e T p k s v w U10 (none) from ?_)
    have e12 : U10 103 p 15 = (T 103 p 15) + 1 := up_f hU10
    have e13 : U10 103 p 14 = T 103 p 14 := (up_j hU10 (by decide) 103 p).trans (fU7 103 p 14 rfl)
    have e14 : U10 103 p 14 = T 103 p 14 := (up_j hU10 (by decide) 103 p).trans (fU7 103 p 14 rfl)
    have e15 : U10 103 p 15 = (T 103 p 15) + 1 := up_f hU10
    have d1 : U10 103 p 14 = T 103 p 14 := by omega
    have b1 : ra9_ U10 (U10 103 p 14) (T 103 p 15) = (k, s, v, w) := by
      rw [d1, ra_k (T := U7) (fun _ => up_k hU10 (by exact Nat.ne_of_beq_eq_false rfl) _ _)]
      exact rU7
    have b2 : hr9_ U10 (U10 103 p 14) (U10 103 p 15).toNat = hr9_ T (T 103 p 14) (T 103 p 15).toNat ++ [(k, s, v, w)] := hrw_k (by omega) (by omega) (fun j j0 j1 => by
      rw [d1]
      exact (up_k hU10 (by exact Nat.ne_of_beq_eq_false rfl) _ _).trans (wU7 _ _ (fun z => by omega))) b1
    exact ⟨rfl, fr_u (fr_t (fr_0 _ _) (fr_s fU7 rfl)) hU10 rfl, oq_u (oq_1 (oq_r) fU7) hU10, by omega, fun x hx => (up_k hU10 (by exact Nat.ne_of_beq_eq_false rfl) _ (-2)).trans (lU7 _), fun x j hx => (up_k hU10 (by exact Nat.ne_of_beq_eq_false rfl) _ _).trans (wU7 _ _ (fun z => hx (by omega))), b2⟩
  · exact absurd c4 (by omega)
theorem bk_X3_putAside_e_0 : ck_ fX3 none cX3_putAside 0 [.aload 0, .tableswitch 0 3 17 #[], .iconst 4, .imul, .iconst 4, .iadd, .aload 0, .tableswitch 0 3 16 #[], .arraylength, .if_icmp .le 34, .aload 0, .aload 0, .tableswitch 0 3 16 #[], .aload 0, .tableswitch 0 3 16 #[], .arraylength, .iconst 2, .imul] 28 = true := qck_r (nn_ _) (by decide +kernel)
theorem bs_X3_putAside_e_0 {P : Zt → Option Zv → Prop} (K : Int → Zl → List Zv → Zt → Prop) : sx_ K P [.aload 0, .tableswitch 0 3 17 #[], .iconst 4, .imul, .iconst 4, .iadd, .aload 0, .tableswitch 0 3 16 #[], .arraylength, .if_icmp .le 34, .aload 0, .aload 0, .tableswitch 0 3 16 #[], .aload 0, .tableswitch 0 3 16 #[], .arraylength, .iconst 2, .imul] 28 = x_aload 0 (x_g0 103 17 0 3000 (x_iconst 4 (x_imul (x_iconst 4 (x_iadd (x_aload 0 (x_g3 103 190 16 (x_arraylength (x_if_icmp .le 34 K (x_aload 0 (x_aload 0 (x_g3 103 190 16 (x_aload 0 (x_g3 103 190 16 (x_arraylength (x_iconst 2 (x_imul (K 28)))))))))))))))))) := ((xe_aload 0).trans (congrArg (x_aload 0) ((xe_g0 (kk := 103) rfl tl_3_17).trans (congrArg (x_g0 103 17 0 3000) ((xe_iconst 4).trans (congrArg (x_iconst 4) ((xe_imul).trans (congrArg (x_imul) ((xe_iconst 4).trans (congrArg (x_iconst 4) ((xe_iadd).trans (congrArg (x_iadd) ((xe_aload 0).trans (congrArg (x_aload 0) ((xe_g3 (kk := 103) rfl tl_3_16).trans (congrArg (x_g3 103 190 16) ((xe_arraylength).trans (congrArg (x_arraylength) ((xe_if_icmp .le 34).trans (congrArg (x_if_icmp .le 34 K) ((xe_aload 0).trans (congrArg (x_aload 0) ((xe_aload 0).trans (congrArg (x_aload 0) ((xe_g3 (kk := 103) rfl tl_3_16).trans (congrArg (x_g3 103 190 16) ((xe_aload 0).trans (congrArg (x_aload 0) ((xe_g3 (kk := 103) rfl tl_3_16).trans (congrArg (x_g3 103 190 16) ((xe_arraylength).trans (congrArg (x_arraylength) ((xe_iconst 2).trans (congrArg (x_iconst 2) ((xe_imul).trans (congrArg (x_imul) xe_nil))))))))))))))))))))))))))))))))))))
theorem bk_X3_putAside_e_34 : ck_ fX3 none cX3_putAside 34 [.aload 0, .tableswitch 0 3 16 #[], .aload 0, .tableswitch 0 3 17 #[], .iload 1, .iload 2, .iload 3, .iload 4] 47 = true := qck_r (nn_ _) (by decide +kernel)
theorem bs_X3_putAside_e_34 {P : Zt → Option Zv → Prop} (K : Int → Zl → List Zv → Zt → Prop) : sx_ K P [.aload 0, .tableswitch 0 3 16 #[], .aload 0, .tableswitch 0 3 17 #[], .iload 1, .iload 2, .iload 3, .iload 4] 47 = x_aload 0 (x_g3 103 190 16 (x_aload 0 (x_g0 103 17 0 3000 (x_iload 1 (x_iload 2 (x_iload 3 (x_iload 4 (K 47)))))))) := ((xe_aload 0).trans (congrArg (x_aload 0) ((xe_g3 (kk := 103) rfl tl_3_16).trans (congrArg (x_g3 103 190 16) ((xe_aload 0).trans (congrArg (x_aload 0) ((xe_g0 (kk := 103) rfl tl_3_17).trans (congrArg (x_g0 103 17 0 3000) ((xe_iload 1).trans (congrArg (x_iload 1) ((xe_iload 2).trans (congrArg (x_iload 2) ((xe_iload 3).trans (congrArg (x_iload 3) ((xe_iload 4).trans (congrArg (x_iload 4) xe_nil))))))))))))))))
theorem bk_X3_putAside_e_50 : ck_ fX3 none cX3_putAside 50 [.aload 0, .dup, .tableswitch 0 3 17 #[], .iconst 1, .iadd, .tableswitch 1 3 17 #[], .return_] 61 = true := qck_r (nn_ _) (by decide +kernel)
theorem bs_X3_putAside_e_50 {P : Zt → Option Zv → Prop} (K : Int → Zl → List Zv → Zt → Prop) : sx_ K P [.aload 0, .dup, .tableswitch 0 3 17 #[], .iconst 1, .iadd, .tableswitch 1 3 17 #[], .return_] 61 = x_aload 0 (x_dup (x_g0 103 17 0 3000 (x_iconst 1 (x_iadd (x_p 103 17 0 3000 (x_return_ P)))))) := ((xe_aload 0).trans (congrArg (x_aload 0) ((xe_dup).trans (congrArg (x_dup) ((xe_g0 (kk := 103) rfl tl_3_17).trans (congrArg (x_g0 103 17 0 3000) ((xe_iconst 1).trans (congrArg (x_iconst 1) ((xe_iadd).trans (congrArg (x_iadd) ((xe_p (kk := 103) rfl tl_3_17).trans (congrArg (x_p 103 17 0 3000) (xe_return_)))))))))))))
abbrev po_X3_putAside0_e (T : Zt) (p : Int) (k s v w : Int) : Zt → Option Zv → Prop := fun T' r => r = none ∧ fr_ [(103, [17]), (190, [])] T T' ∧ (oq_ T T' p ∧ T' 103 p 17 = T 103 p 17 + 1 ∧ (∀ x, x < T 191 0 0 → T' 190 x (-2) = T 190 x (-2)) ∧ (∀ x j, ¬ (x = T 103 p 16 ∧ T 103 p 17 * 4 ≤ j ∧ j < T 103 p 17 * 4 + 4) → T' 190 x j = T 190 x j))
set_option maxHeartbeats 4000000 in
theorem ct_X3_putAside0_e {T : Zt} {p : Int} {k s v w : Int} (h1 : 0 ≤ T 103 p 17 ∧ T 103 p 17 < 512 ∧ 4 * T 103 p 17 ≤ T 190 (T 103 p 16) (-2)) (h2 : T 103 p 16 < T 191 0 0 ∧ T 191 0 0 ≤ 2000000000 ∧ -2147483648 ≤ T 103 p 16) (h3 : 4 * T 103 p 17 + 4 ≤ T 190 (T 103 p 16) (-2)) : Ct_ yX3_putAside zX3_putAside0 T [vR 103 p, vI k, vI s, vI v, vI w] (po_X3_putAside0_e T p k s v w) := by
  refine ct_of pn_3 rfl rfl (Nat.le_of_ble_eq_true rfl) (fun hT hav => ?_)
  have hr_k : -2147483648 ≤ k ∧ k ≤ 2147483647 := hav (vI k) (List.mem_cons_of_mem _ List.mem_cons_self)
  have hr_s : -2147483648 ≤ s ∧ s ≤ 2147483647 := hav (vI s) (List.mem_cons_of_mem _ (List.mem_cons_of_mem _ List.mem_cons_self))
  have hr_v : -2147483648 ≤ v ∧ v ≤ 2147483647 := hav (vI v) (List.mem_cons_of_mem _ (List.mem_cons_of_mem _ (List.mem_cons_of_mem _ List.mem_cons_self)))
  have hr_w : -2147483648 ≤ w ∧ w ≤ 2147483647 := hav (vI w) (List.mem_cons_of_mem _ (List.mem_cons_of_mem _ (List.mem_cons_of_mem _ (List.mem_cons_of_mem _ List.mem_cons_self))))
  have hz : zX3_putAside0.2.2.2.1 = some .boolean → ∀ (T' : Zt) (x : Int), po_X3_putAside0_e T p k s v w T' (some (vI x)) → 0 ≤ x ∧ x ≤ 1 := fun h => by cases h
  show J_ zX3_putAside0 T (po_X3_putAside0_e T p k s v w) 0 0 0 [some (vR 103 p), some (vI k), some (vI s), some (vI v), some (vI w)] [] T
  refine j_blx (F := fX3) tb_X3 (nn_ _) bk_X3_putAside_e_0 bs_X3_putAside_e_0 hz (fun K hK => ?_)
  intro b1 b1b
  refine rg_i (by omega) ?_
  refine rg_i (by omega) ?_
  intro b3 b3b
  refine And.intro (fun c4 => ?_) (fun c4 => ?_)
  · refine hK 34 _ [] T ?_
    refine j_blx (F := fX3) tb_X3 (nn_ _) bk_X3_putAside_e_34 bs_X3_putAside_e_34 hz (fun K hK => ?_)
    intro b6 b6b
    refine hK 47 _ [vI w, vI v, vI s, vI k, vI (T 103 p 17), vR 190 (T 103 p 16)] T ?_
    refine j_callS (y := yX3_writeRow) (Yc := zX3_writeRow) (rest := []) [vR 190 (T 103 p 16), vI (T 103 p 17), vI k, vI s, vI v, vI w] (ct_X3_writeRow_e (T := T) (by omega)) cl_X3_161 (qd_c (by decide +kernel)) (nn_ _) rfl (rf_of rfl) (Nat.le_of_ble_eq_true rfl) (Nat.le_of_ble_eq_true rfl) (Nat.le_of_ble_eq_true rfl) rfl ?_
    rintro U7 _ ⟨rfl, fU7, lU7, wU7, rU7⟩
    show J_ zX3_putAside0 T (po_X3_putAside0_e T p k s v w) 0 0 50 _ [] U7
    refine j_blx (F := fX3) tb_X3 (nn_ _) bk_X3_putAside_e_50 bs_X3_putAside_e_50 hz (fun K hK => ?_)
    intro b8 b8b
    have e9 : U7 103 p 17 = T 103 p 17 := fU7 103 p 17 rfl
    rw [e9] at b8 b8b ⊢
    refine rg_i (by omega) ?_
    refine bd_i (by omega) ?_
    refine x_nm (fun U10 hU10 => ?_)
    have e11 := up_f hU10
    refine (show po_X3_putAside0_e T p k s v w U10 (none) from ?_)
    have e12 : U10 103 p 17 = (T 103 p 17) + 1 := up_f hU10
    have e13 : U10 103 p 16 = T 103 p 16 := (up_j hU10 (by decide) 103 p).trans (fU7 103 p 16 rfl)
    have e14 : U10 103 p 17 = (T 103 p 17) + 1 := up_f hU10
    have d1 : U10 103 p 16 = T 103 p 16 := by omega
    exact ⟨rfl, fr_u (fr_t (fr_0 _ _) (fr_s fU7 rfl)) hU10 rfl, oq_u (oq_1 (oq_r) fU7) hU10, by omega, fun x hx => (up_k hU10 (by exact Nat.ne_of_beq_eq_false rfl) _ (-2)).trans (lU7 _), fun x j hx => (up_k hU10 (by exact Nat.ne_of_beq_eq_false rfl) _ _).trans (wU7 _ _ (fun z => hx (by omega)))⟩
  · exact absurd c4 (by omega)
abbrev po_X3_putAsideD_e (T : Zt) (p : Int) (sl : Nat) (k s v w : Int) : Zt → Option Zv → Prop := fun T' r => r = none ∧ fr_ [(103, [16, 17]), (190, []), (191, [0])] T T' ∧ (oq_ T T' p ∧ T' 103 p 17 = T 103 p 17 + 1 ∧ (∀ x, x < T 191 0 0 → T' 190 x (-2) = T 190 x (-2)) ∧ T 191 0 0 ≤ T' 191 0 0 ∧ T' 191 0 0 ≤ T 191 0 0 + 1 ∧ lz_ (T' 190 (T' 103 p 16) (-2)) ∧ T' 103 p 16 < T' 191 0 0 ∧ 4 * (T 103 p 17 + 1) ≤ T' 190 (T' 103 p 16) (-2) ∧ T' 190 (T' 103 p 16) (-2) ≤ 2 * T 190 (T 103 p 16) (-2) ∧ (∀ x j, x < T 191 0 0 → x ≠ T 103 p 16 → T' 190 x j = T 190 x j) ∧ (T' 103 p 16 = T 103 p 16 ∨ T' 103 p 16 = T 191 0 0))
set_option maxHeartbeats 4000000 in
theorem ct_X3_putAsideD_e {T : Zt} {p : Int} {sl : Nat} {k s v w : Int} (h1 : 0 ≤ T 103 p 17 ∧ T 103 p 17 < 512 ∧ 4 * T 103 p 17 ≤ T 190 (T 103 p 16) (-2)) (h2 : T 103 p 16 < T 191 0 0 ∧ T 191 0 0 ≤ 2000000000 ∧ -2147483648 ≤ T 103 p 16) (hz9 : lz_ (T 190 (T 103 p 16) (-2))) (hsl : T 190 (T 103 p 16) (-2) ≤ (sl : Int)) : Ct_ yX3_putAside (zX3_putAsideD sl) T [vR 103 p, vI k, vI s, vI v, vI w] (po_X3_putAsideD_e T p sl k s v w) := by
  refine ct_of pn_3 rfl rfl (Nat.le_of_ble_eq_true rfl) (fun hT hav => ?_) (hi := fun h => absurd ((im_ev _).symm.trans h) (by decide))
  have hr_k : -2147483648 ≤ k ∧ k ≤ 2147483647 := hav (vI k) (List.mem_cons_of_mem _ List.mem_cons_self)
  have hr_s : -2147483648 ≤ s ∧ s ≤ 2147483647 := hav (vI s) (List.mem_cons_of_mem _ (List.mem_cons_of_mem _ List.mem_cons_self))
  have hr_v : -2147483648 ≤ v ∧ v ≤ 2147483647 := hav (vI v) (List.mem_cons_of_mem _ (List.mem_cons_of_mem _ (List.mem_cons_of_mem _ List.mem_cons_self)))
  have hr_w : -2147483648 ≤ w ∧ w ≤ 2147483647 := hav (vI w) (List.mem_cons_of_mem _ (List.mem_cons_of_mem _ (List.mem_cons_of_mem _ (List.mem_cons_of_mem _ List.mem_cons_self))))
  have hz : (zX3_putAsideD sl).2.2.2.1 = some .boolean → ∀ (T' : Zt) (x : Int), po_X3_putAsideD_e T p sl k s v w T' (some (vI x)) → 0 ≤ x ∧ x ≤ 1 := fun h => by cases h
  have hb9 := lz_b hz9
  show J_ (zX3_putAsideD sl) T (po_X3_putAsideD_e T p sl k s v w) 1 (2 * sl) 0 [some (vR 103 p), some (vI k), some (vI s), some (vI v), some (vI w)] [] T
  refine j_blx (F := fX3) tb_X3 (nn_ _) bk_X3_putAside_e_0 bs_X3_putAside_e_0 hz (fun K hK => ?_)
  intro b1 b1b
  refine rg_i (by omega) ?_
  refine rg_i (by omega) ?_
  intro b3 b3b
  refine And.intro (fun c4 => ?_) (fun c4 => ?_)
  · refine hK 34 _ [] T ?_
    refine j_blx (F := fX3) tb_X3 (nn_ _) bk_X3_putAside_e_34 bs_X3_putAside_e_34 hz (fun K hK => ?_)
    intro b6 b6b
    refine hK 47 _ [vI w, vI v, vI s, vI k, vI (T 103 p 17), vR 190 (T 103 p 16)] T ?_
    refine j_callS (pc := 47) (y := yX3_writeRow) (Yc := zX3_writeRow) (rest := []) [vR 190 (T 103 p 16), vI (T 103 p 17), vI k, vI s, vI v, vI w] (ct_X3_writeRow_e (T := T) (by omega)) cl_X3_161 (by show decode cX3_putAside (Int.toNat 47) = _; decide +kernel) (by decide) rfl rfl (Nat.le_of_ble_eq_true rfl) (by first | decide | (simp only [zX3_writeRow]; omega)) (by first | decide | (simp only [zX3_writeRow]; omega)) rfl ?_
    rintro U7 _ ⟨rfl, fU7, lU7, wU7, rU7⟩
    show J_ (zX3_putAsideD sl) T (po_X3_putAsideD_e T p sl k s v w) 1 (2 * sl) 50 _ [] U7
    refine j_blx (F := fX3) tb_X3 (nn_ _) bk_X3_putAside_e_50 bs_X3_putAside_e_50 hz (fun K hK => ?_)
    intro b8 b8b
    have e9 : U7 103 p 17 = T 103 p 17 := fU7 103 p 17 rfl
    rw [e9] at b8 b8b ⊢
    refine rg_i (by omega) ?_
    refine bd_i (by omega) ?_
    refine x_nm (fun U10 hU10 => ?_)
    have e11 := up_f hU10
    refine (show po_X3_putAsideD_e T p sl k s v w U10 (none) from ?_)
    have e12 : U10 103 p 17 = (T 103 p 17) + 1 := up_f hU10
    have e13 : U10 103 p 16 = T 103 p 16 := (up_j hU10 (by decide) 103 p).trans (fU7 103 p 16 rfl)
    have e14 : U10 191 0 0 = T 191 0 0 := (up_k hU10 (by exact Nat.ne_of_beq_eq_false rfl) 0 0).trans (fU7 191 0 0 rfl)
    have e15 : U10 103 p 16 = T 103 p 16 := (up_j hU10 (by decide) 103 p).trans (fU7 103 p 16 rfl)
    have e16 : U10 103 p 17 = (T 103 p 17) + 1 := up_f hU10
    have d1 : U10 103 p 16 = T 103 p 16 := by omega
    have d2 : U10 190 (U10 103 p 16) (-2) = T 190 (T 103 p 16) (-2) := by rw [d1]; exact (up_k hU10 (by exact Nat.ne_of_beq_eq_false rfl) _ (-2)).trans (lU7 _)
    have e17 : U10 191 0 0 = T 191 0 0 := (up_k hU10 (by exact Nat.ne_of_beq_eq_false rfl) 0 0).trans (fU7 191 0 0 rfl)
    have d6 : lz_ (U10 190 (U10 103 p 16) (-2)) := by rw [d2]; exact hz9
    exact ⟨rfl, fr_u (fr_t (fr_0 _ _) (fr_s fU7 rfl)) hU10 rfl, oq_u (oq_1 (oq_r) fU7) hU10, by omega, fun x hx => (up_k hU10 (by exact Nat.ne_of_beq_eq_false rfl) _ (-2)).trans (lU7 _), by omega, by omega, d6, by omega, by omega, by omega, fun x j h1 h2 => (up_k hU10 (by exact Nat.ne_of_beq_eq_false rfl) _ _).trans (wU7 _ _ (fun z => by omega)), by omega⟩
  · have hg9 : T 190 (T 103 p 16) (-2) ≤ 1024 := lz_h hz9 (by omega)
    intro b20 b20b
    refine rg_i (by omega) ?_
    refine hK 28 _ [vI ((T 190 (T 103 p 16) (-2)) * 2), vR 190 (T 103 p 16), vR 103 p] T ?_
    refine j_callS (pc := 28) (y := yJ7_copyOf_59c91) (Yc := (zJ7_copyOf_59c91 sl)) (rest := [vR 103 p]) [vR 190 (T 103 p 16), vI ((T 190 (T 103 p 16) (-2)) * 2)] (ct_J7_copyOf_e (T := T) (sl := sl) (by omega) (by omega) (by omega)) (cl_X3_157 _) (by show decode cX3_putAside (Int.toNat 28) = _; decide +kernel) (by decide) rfl rfl (Nat.le_of_ble_eq_true rfl) (by first | decide | (simp only [zJ7_copyOf_59c91]; omega)) (by first | decide | (simp only [zJ7_copyOf_59c91]; omega)) rfl ?_
    rintro U21 _ ⟨rfl, fU21, aU21, lU21, oU21, cU21⟩
    show J_ (zX3_putAsideD sl) T (po_X3_putAsideD_e T p sl k s v w) 0 ((2 * sl) - (2 * sl)) 31 _ [vR 190 (T 191 0 0), vR 103 p] U21
    refine j_putV (pc := 31) (ci := 3) (j := 16) (z := T 191 0 0) (by decide) fr5_X3_39 tl_3_16 (by show decode cX3_putAside (Int.toNat 31) = _; decide +kernel) rfl (by omega) (by omega) ?_
    refine j_nm (fun U22 hU22 => ?_)
    have e23 := up_f hU22
    show J_ (zX3_putAsideD sl) T (po_X3_putAsideD_e T p sl k s v w) 0 ((2 * sl) - (2 * sl)) 34 _ [] U22
    refine j_blx (F := fX3) tb_X3 (nn_ _) bk_X3_putAside_e_34 bs_X3_putAside_e_34 hz (fun K hK => ?_)
    have e25 : U22 103 p 16 = T 191 0 0 := up_f hU22
    intro b26 b26b
    have e27 : U22 103 p 17 = T 103 p 17 := (up_j hU22 (by decide) 103 p).trans (fU21 103 p 17 rfl)
    rw [e27] at b26 b26b ⊢
    refine hK 47 _ [vI w, vI v, vI s, vI k, vI (T 103 p 17), vR 190 (U22 103 p 16)] U22 ?_
    have y28 : U22 190 (U22 103 p 16) (-2) = (T 190 (T 103 p 16) (-2)) * 2 := by rw [e25]; exact (up_k hU22 (by exact Nat.ne_of_beq_eq_false rfl) _ (-2)).trans lU21
    refine j_callS (pc := 47) (y := yX3_writeRow) (Yc := zX3_writeRow) (rest := []) [vR 190 (U22 103 p 16), vI (T 103 p 17), vI k, vI s, vI v, vI w] (ct_X3_writeRow_e (T := U22) (by omega)) cl_X3_161 (by show decode cX3_putAside (Int.toNat 47) = _; decide +kernel) (by decide) rfl rfl (Nat.le_of_ble_eq_true rfl) (by first | decide | (simp only [zX3_writeRow]; omega)) (by first | decide | (simp only [zX3_writeRow]; omega)) rfl ?_
    rintro U29 _ ⟨rfl, fU29, lU29, wU29, rU29⟩
    show J_ (zX3_putAsideD sl) T (po_X3_putAsideD_e T p sl k s v w) 0 ((2 * sl) - (2 * sl)) 50 _ [] U29
    refine j_blx (F := fX3) tb_X3 (nn_ _) bk_X3_putAside_e_50 bs_X3_putAside_e_50 hz (fun K hK => ?_)
    intro b30 b30b
    have e31 : U29 103 p 17 = T 103 p 17 := (fU29 103 p 17 rfl).trans ((up_j hU22 (by decide) 103 p).trans (fU21 103 p 17 rfl))
    rw [e31] at b30 b30b ⊢
    refine rg_i (by omega) ?_
    refine bd_i (by omega) ?_
    refine x_nm (fun U32 hU32 => ?_)
    have e33 := up_f hU32
    refine (show po_X3_putAsideD_e T p sl k s v w U32 (none) from ?_)
    have e34 : U32 103 p 17 = (T 103 p 17) + 1 := up_f hU32
    have e35 : U32 103 p 16 = T 191 0 0 := (up_j hU32 (by decide) 103 p).trans ((fU29 103 p 16 rfl).trans (up_f hU22))
    have e36 : U32 191 0 0 = U21 191 0 0 := (up_k hU32 (by exact Nat.ne_of_beq_eq_false rfl) 0 0).trans ((fU29 191 0 0 rfl).trans (up_k hU22 (by exact Nat.ne_of_beq_eq_false rfl) 0 0))
    have e37 : U32 103 p 16 = T 191 0 0 := (up_j hU32 (by decide) 103 p).trans ((fU29 103 p 16 rfl).trans (up_f hU22))
    have e38 : U32 103 p 17 = (T 103 p 17) + 1 := up_f hU32
    have d1 : U32 103 p 16 = T 191 0 0 := by omega
    have d2 : U32 190 (U32 103 p 16) (-2) = (T 190 (T 103 p 16) (-2)) * 2 := by rw [d1]; exact ((up_k hU32 (by exact Nat.ne_of_beq_eq_false rfl) _ (-2)).trans ((lU29 _).trans (up_k hU22 (by exact Nat.ne_of_beq_eq_false rfl) _ (-2)))).trans lU21
    have e39 : U32 191 0 0 = U21 191 0 0 := (up_k hU32 (by exact Nat.ne_of_beq_eq_false rfl) 0 0).trans ((fU29 191 0 0 rfl).trans (up_k hU22 (by exact Nat.ne_of_beq_eq_false rfl) 0 0))
    have d5 : T 190 (T 103 p 16) (-2) < 2048 := by omega
    have d6 : lz_ (U32 190 (U32 103 p 16) (-2)) := by rw [d2, show (T 190 (T 103 p 16) (-2)) * 2 = 2 * (T 190 (T 103 p 16) (-2)) by omega]; exact lz_d hz9 d5
    exact ⟨rfl, fr_u (fr_t (fr_u (fr_t (fr_0 _ _) (fr_s fU21 rfl)) hU22 rfl) (fr_s fU29 rfl)) hU32 rfl, oq_u (oq_1 (oq_u (oq_9 (oq_r) fU21) hU22) fU29) hU32, by omega, fun x hx => ((up_k hU32 (by exact Nat.ne_of_beq_eq_false rfl) _ (-2)).trans ((lU29 _).trans (up_k hU22 (by exact Nat.ne_of_beq_eq_false rfl) _ (-2)))).trans (oU21 x (-2) (by omega)), by omega, by omega, d6, by omega, by omega, by omega, fun x j h1 h2 => (up_k hU32 (by exact Nat.ne_of_beq_eq_false rfl) _ _).trans ((wU29 _ _ (fun z => by omega)).trans ((up_k hU22 (by exact Nat.ne_of_beq_eq_false rfl) _ _).trans (oU21 _ _ (by omega)))), by omega⟩
theorem bk_X3_isSameRow_e_0 : ck_ fX3 (some .boolean) cX3_isSameRow 0 [.aload 0, .tableswitch 0 3 14 #[], .iload 1, .iconst 4, .imul, .iaload, .iload 2, .if_icmp .ne 60, .aload 0, .tableswitch 0 3 14 #[], .iload 1, .iconst 4, .imul, .iconst 1, .iadd, .iaload, .iload 3, .if_icmp .ne 60, .aload 0, .tableswitch 0 3 14 #[], .iload 1, .iconst 4, .imul, .iconst 2, .iadd, .iaload, .iload 4, .if_icmp .ne 60, .aload 0, .tableswitch 0 3 14 #[], .iload 1, .iconst 4, .imul, .iconst 3, .iadd, .iaload, .iload 5, .if_icmp .ne 60, .iconst 1, .goto 61] 60 = true := qck_r (nn_ _) (by decide +kernel)
theorem bs_X3_isSameRow_e_0 {P : Zt → Option Zv → Prop} (K : Int → Zl → List Zv → Zt → Prop) : sx_ K P [.aload 0, .tableswitch 0 3 14 #[], .iload 1, .iconst 4, .imul, .iaload, .iload 2, .if_icmp .ne 60, .aload 0, .tableswitch 0 3 14 #[], .iload 1, .iconst 4, .imul, .iconst 1, .iadd, .iaload, .iload 3, .if_icmp .ne 60, .aload 0, .tableswitch 0 3 14 #[], .iload 1, .iconst 4, .imul, .iconst 2, .iadd, .iaload, .iload 4, .if_icmp .ne 60, .aload 0, .tableswitch 0 3 14 #[], .iload 1, .iconst 4, .imul, .iconst 3, .iadd, .iaload, .iload 5, .if_icmp .ne 60, .iconst 1, .goto 61] 60 = x_aload 0 (x_g3 103 190 14 (x_iload 1 (x_iconst 4 (x_imul (x_iaload (x_iload 2 (x_if_icmp .ne 60 K (x_aload 0 (x_g3 103 190 14 (x_iload 1 (x_iconst 4 (x_imul (x_iconst 1 (x_iadd (x_iaload (x_iload 3 (x_if_icmp .ne 60 K (x_aload 0 (x_g3 103 190 14 (x_iload 1 (x_iconst 4 (x_imul (x_iconst 2 (x_iadd (x_iaload (x_iload 4 (x_if_icmp .ne 60 K (x_aload 0 (x_g3 103 190 14 (x_iload 1 (x_iconst 4 (x_imul (x_iconst 3 (x_iadd (x_iaload (x_iload 5 (x_if_icmp .ne 60 K (x_iconst 1 (x_goto 61 K))))))))))))))))))))))))))))))))))))))) := ((xe_aload 0).trans (congrArg (x_aload 0) ((xe_g3 (kk := 103) rfl tl_3_14).trans (congrArg (x_g3 103 190 14) ((xe_iload 1).trans (congrArg (x_iload 1) ((xe_iconst 4).trans (congrArg (x_iconst 4) ((xe_imul).trans (congrArg (x_imul) ((xe_iaload).trans (congrArg (x_iaload) ((xe_iload 2).trans (congrArg (x_iload 2) ((xe_if_icmp .ne 60).trans (congrArg (x_if_icmp .ne 60 K) ((xe_aload 0).trans (congrArg (x_aload 0) ((xe_g3 (kk := 103) rfl tl_3_14).trans (congrArg (x_g3 103 190 14) ((xe_iload 1).trans (congrArg (x_iload 1) ((xe_iconst 4).trans (congrArg (x_iconst 4) ((xe_imul).trans (congrArg (x_imul) ((xe_iconst 1).trans (congrArg (x_iconst 1) ((xe_iadd).trans (congrArg (x_iadd) ((xe_iaload).trans (congrArg (x_iaload) ((xe_iload 3).trans (congrArg (x_iload 3) ((xe_if_icmp .ne 60).trans (congrArg (x_if_icmp .ne 60 K) ((xe_aload 0).trans (congrArg (x_aload 0) ((xe_g3 (kk := 103) rfl tl_3_14).trans (congrArg (x_g3 103 190 14) ((xe_iload 1).trans (congrArg (x_iload 1) ((xe_iconst 4).trans (congrArg (x_iconst 4) ((xe_imul).trans (congrArg (x_imul) ((xe_iconst 2).trans (congrArg (x_iconst 2) ((xe_iadd).trans (congrArg (x_iadd) ((xe_iaload).trans (congrArg (x_iaload) ((xe_iload 4).trans (congrArg (x_iload 4) ((xe_if_icmp .ne 60).trans (congrArg (x_if_icmp .ne 60 K) ((xe_aload 0).trans (congrArg (x_aload 0) ((xe_g3 (kk := 103) rfl tl_3_14).trans (congrArg (x_g3 103 190 14) ((xe_iload 1).trans (congrArg (x_iload 1) ((xe_iconst 4).trans (congrArg (x_iconst 4) ((xe_imul).trans (congrArg (x_imul) ((xe_iconst 3).trans (congrArg (x_iconst 3) ((xe_iadd).trans (congrArg (x_iadd) ((xe_iaload).trans (congrArg (x_iaload) ((xe_iload 5).trans (congrArg (x_iload 5) ((xe_if_icmp .ne 60).trans (congrArg (x_if_icmp .ne 60 K) ((xe_iconst 1).trans (congrArg (x_iconst 1) (xe_goto 61)))))))))))))))))))))))))))))))))))))))))))))))))))))))))))))))))))))))))))))))
theorem bk_X3_isSameRow_e_60 : ck_ fX3 (some .boolean) cX3_isSameRow 60 [.iconst 0, .ireturn] 62 = true := qck_r (nn_ _) (by decide +kernel)
theorem bs_X3_isSameRow_e_60 {P : Zt → Option Zv → Prop} (K : Int → Zl → List Zv → Zt → Prop) : sx_ K P [.iconst 0, .ireturn] 62 = x_iconst 0 (x_ireturn P) := ((xe_iconst 0).trans (congrArg (x_iconst 0) (xe_ireturn)))
theorem bk_X3_isSameRow_e_61 : ck_ fX3 (some .boolean) cX3_isSameRow 61 [.ireturn] 62 = true := qck_r (nn_ _) (by decide +kernel)
theorem bs_X3_isSameRow_e_61 {P : Zt → Option Zv → Prop} (K : Int → Zl → List Zv → Zt → Prop) : sx_ K P [.ireturn] 62 = x_ireturn P := (xe_ireturn)
abbrev po_X3_isSameRow_e (T : Zt) (p : Int) (i k s v w : Int) : Zt → Option Zv → Prop := fun T' r => T = T' ∧ ∃ x : Int, r = some (vI x) ∧ ((x = 1 ∧ (T 190 (T 103 p 14) (i * 4) = k ∧ T 190 (T 103 p 14) (i * 4 + 1) = s ∧ T 190 (T 103 p 14) (i * 4 + 2) = v ∧ T 190 (T 103 p 14) (i * 4 + 3) = w)) ∨ (x = 0 ∧ ¬ (T 190 (T 103 p 14) (i * 4) = k ∧ T 190 (T 103 p 14) (i * 4 + 1) = s ∧ T 190 (T 103 p 14) (i * 4 + 2) = v ∧ T 190 (T 103 p 14) (i * 4 + 3) = w)))
set_option maxHeartbeats 4000000 in
theorem ct_X3_isSameRow_e {T : Zt} {p : Int} {i k s v w : Int} (h1 : 0 ≤ i ∧ i ≤ 1000 ∧ i * 4 + 3 < T 190 (T 103 p 14) (-2)) : Ct_ yX3_isSameRow zX3_isSameRow T [vR 103 p, vI i, vI k, vI s, vI v, vI w] (po_X3_isSameRow_e T p i k s v w) := by
  refine ct_of pn_3 rfl rfl (Nat.le_of_ble_eq_true rfl) (fun hT hav => ?_)
  have hr_i : -2147483648 ≤ i ∧ i ≤ 2147483647 := hav (vI i) (List.mem_cons_of_mem _ List.mem_cons_self)
  have hr_k : -2147483648 ≤ k ∧ k ≤ 2147483647 := hav (vI k) (List.mem_cons_of_mem _ (List.mem_cons_of_mem _ List.mem_cons_self))
  have hr_s : -2147483648 ≤ s ∧ s ≤ 2147483647 := hav (vI s) (List.mem_cons_of_mem _ (List.mem_cons_of_mem _ (List.mem_cons_of_mem _ List.mem_cons_self)))
  have hr_v : -2147483648 ≤ v ∧ v ≤ 2147483647 := hav (vI v) (List.mem_cons_of_mem _ (List.mem_cons_of_mem _ (List.mem_cons_of_mem _ (List.mem_cons_of_mem _ List.mem_cons_self))))
  have hr_w : -2147483648 ≤ w ∧ w ≤ 2147483647 := hav (vI w) (List.mem_cons_of_mem _ (List.mem_cons_of_mem _ (List.mem_cons_of_mem _ (List.mem_cons_of_mem _ (List.mem_cons_of_mem _ List.mem_cons_self)))))
  have hz : zX3_isSameRow.2.2.2.1 = some .boolean → ∀ (T' : Zt) (x : Int), po_X3_isSameRow_e T p i k s v w T' (some (vI x)) → 0 ≤ x ∧ x ≤ 1 := fun _ T' x h => by obtain ⟨-, y, e, hy⟩ := h; cases e; omega
  show J_ zX3_isSameRow T (po_X3_isSameRow_e T p i k s v w) 0 0 0 [some (vR 103 p), some (vI i), some (vI k), some (vI s), some (vI v), some (vI w)] [] T
  refine j_blx (F := fX3) tb_X3 (nn_ _) bk_X3_isSameRow_e_0 bs_X3_isSameRow_e_0 hz (fun K hK => ?_)
  refine rg_i (by omega) ?_
  refine ix_i (by omega) ?_
  intro b2 b2b
  refine And.intro (fun c3 => ?_) (fun c3 => ?_)
  · refine hK 60 _ [] T ?_
    refine j_blx (F := fX3) tb_X3 (nn_ _) bk_X3_isSameRow_e_60 bs_X3_isSameRow_e_60 hz (fun K hK => ?_)
    refine (show po_X3_isSameRow_e T p i k s v w T (some (vI 0)) from ?_)
    exact ⟨rfl, _, rfl, Or.inr ⟨rfl, by omega⟩⟩
  · refine rg_i (by omega) ?_
    refine rg_i (by omega) ?_
    refine ix_i (by omega) ?_
    intro b5 b5b
    refine And.intro (fun c6 => ?_) (fun c6 => ?_)
    · refine hK 60 _ [] T ?_
      refine j_blx (F := fX3) tb_X3 (nn_ _) bk_X3_isSameRow_e_60 bs_X3_isSameRow_e_60 hz (fun K hK => ?_)
      refine (show po_X3_isSameRow_e T p i k s v w T (some (vI 0)) from ?_)
      exact ⟨rfl, _, rfl, Or.inr ⟨rfl, by omega⟩⟩
    · refine rg_i (by omega) ?_
      refine rg_i (by omega) ?_
      refine ix_i (by omega) ?_
      intro b8 b8b
      refine And.intro (fun c9 => ?_) (fun c9 => ?_)
      · refine hK 60 _ [] T ?_
        refine j_blx (F := fX3) tb_X3 (nn_ _) bk_X3_isSameRow_e_60 bs_X3_isSameRow_e_60 hz (fun K hK => ?_)
        refine (show po_X3_isSameRow_e T p i k s v w T (some (vI 0)) from ?_)
        exact ⟨rfl, _, rfl, Or.inr ⟨rfl, by omega⟩⟩
      · refine rg_i (by omega) ?_
        refine rg_i (by omega) ?_
        refine ix_i (by omega) ?_
        intro b11 b11b
        refine And.intro (fun c12 => ?_) (fun c12 => ?_)
        · refine hK 60 _ [] T ?_
          refine j_blx (F := fX3) tb_X3 (nn_ _) bk_X3_isSameRow_e_60 bs_X3_isSameRow_e_60 hz (fun K hK => ?_)
          refine (show po_X3_isSameRow_e T p i k s v w T (some (vI 0)) from ?_)
          exact ⟨rfl, _, rfl, Or.inr ⟨rfl, by omega⟩⟩
        · refine hK 61 _ [vI 1] T ?_
          refine j_blx (F := fX3) tb_X3 (nn_ _) bk_X3_isSameRow_e_61 bs_X3_isSameRow_e_61 hz (fun K hK => ?_)
          refine (show po_X3_isSameRow_e T p i k s v w T (some (vI 1)) from ?_)
          exact ⟨rfl, _, rfl, Or.inl ⟨rfl, by omega⟩⟩
theorem bk_X3_takeOut_e_6 : ck_ fX3 none cX3_takeOut 6 [.iload 2, .aload 0, .tableswitch 0 3 15 #[], .iconst 4, .imul, .if_icmp .ge 36, .aload 0, .tableswitch 0 3 14 #[], .iload 2, .iconst 4, .isub, .aload 0, .tableswitch 0 3 14 #[], .iload 2, .iaload, .iastore, .iinc 2 1, .goto 6] 36 = true := qck_r (nn_ _) (by decide +kernel)
theorem bs_X3_takeOut_e_6 {P : Zt → Option Zv → Prop} (K : Int → Zl → List Zv → Zt → Prop) : sx_ K P [.iload 2, .aload 0, .tableswitch 0 3 15 #[], .iconst 4, .imul, .if_icmp .ge 36, .aload 0, .tableswitch 0 3 14 #[], .iload 2, .iconst 4, .isub, .aload 0, .tableswitch 0 3 14 #[], .iload 2, .iaload, .iastore, .iinc 2 1, .goto 6] 36 = x_iload 2 (x_aload 0 (x_g0 103 15 0 3000 (x_iconst 4 (x_imul (x_if_icmp .ge 36 K (x_aload 0 (x_g3 103 190 14 (x_iload 2 (x_iconst 4 (x_isub (x_aload 0 (x_g3 103 190 14 (x_iload 2 (x_iaload (x_iastore (x_iinc 2 1 (x_goto 6 K))))))))))))))))) := ((xe_iload 2).trans (congrArg (x_iload 2) ((xe_aload 0).trans (congrArg (x_aload 0) ((xe_g0 (kk := 103) rfl tl_3_15).trans (congrArg (x_g0 103 15 0 3000) ((xe_iconst 4).trans (congrArg (x_iconst 4) ((xe_imul).trans (congrArg (x_imul) ((xe_if_icmp .ge 36).trans (congrArg (x_if_icmp .ge 36 K) ((xe_aload 0).trans (congrArg (x_aload 0) ((xe_g3 (kk := 103) rfl tl_3_14).trans (congrArg (x_g3 103 190 14) ((xe_iload 2).trans (congrArg (x_iload 2) ((xe_iconst 4).trans (congrArg (x_iconst 4) ((xe_isub).trans (congrArg (x_isub) ((xe_aload 0).trans (congrArg (x_aload 0) ((xe_g3 (kk := 103) rfl tl_3_14).trans (congrArg (x_g3 103 190 14) ((xe_iload 2).trans (congrArg (x_iload 2) ((xe_iaload).trans (congrArg (x_iaload) ((xe_iastore).trans (congrArg (x_iastore) ((xe_iinc 2 1).trans (congrArg (x_iinc 2 1) (xe_goto 6)))))))))))))))))))))))))))))))))))
theorem bk_X3_takeOut_e_36 : ck_ fX3 none cX3_takeOut 36 [.aload 0, .dup, .tableswitch 0 3 15 #[], .iconst 1, .isub, .tableswitch 1 3 15 #[], .return_] 47 = true := qck_r (nn_ _) (by decide +kernel)
theorem bs_X3_takeOut_e_36 {P : Zt → Option Zv → Prop} (K : Int → Zl → List Zv → Zt → Prop) : sx_ K P [.aload 0, .dup, .tableswitch 0 3 15 #[], .iconst 1, .isub, .tableswitch 1 3 15 #[], .return_] 47 = x_aload 0 (x_dup (x_g0 103 15 0 3000 (x_iconst 1 (x_isub (x_p 103 15 0 3000 (x_return_ P)))))) := ((xe_aload 0).trans (congrArg (x_aload 0) ((xe_dup).trans (congrArg (x_dup) ((xe_g0 (kk := 103) rfl tl_3_15).trans (congrArg (x_g0 103 15 0 3000) ((xe_iconst 1).trans (congrArg (x_iconst 1) ((xe_isub).trans (congrArg (x_isub) ((xe_p (kk := 103) rfl tl_3_15).trans (congrArg (x_p 103 15 0 3000) (xe_return_)))))))))))))
theorem bk_X3_takeOut_e_0 : ck_ fX3 none cX3_takeOut 0 [.iload 1, .iconst 4, .imul, .iconst 4, .iadd, .istore 2] 6 = true := qck_r (nn_ _) (by decide +kernel)
theorem bs_X3_takeOut_e_0 {P : Zt → Option Zv → Prop} (K : Int → Zl → List Zv → Zt → Prop) : sx_ K P [.iload 1, .iconst 4, .imul, .iconst 4, .iadd, .istore 2] 6 = x_iload 1 (x_iconst 4 (x_imul (x_iconst 4 (x_iadd (x_istore 2 (K 6)))))) := ((xe_iload 1).trans (congrArg (x_iload 1) ((xe_iconst 4).trans (congrArg (x_iconst 4) ((xe_imul).trans (congrArg (x_imul) ((xe_iconst 4).trans (congrArg (x_iconst 4) ((xe_iadd).trans (congrArg (x_iadd) ((xe_istore 2).trans (congrArg (x_istore 2) xe_nil))))))))))))
abbrev po_X3_takeOut_e (T : Zt) (p : Int) (i : Int) : Zt → Option Zv → Prop := fun T' r => r = none ∧ fr_ [(103, [15]), (190, [])] T T' ∧ (oq_ T T' p ∧ T' 103 p 15 = T 103 p 15 - 1 ∧ (∀ x, T' 190 x (-2) = T 190 x (-2)) ∧ (∀ x j, x ≠ T 103 p 14 → T' 190 x j = T 190 x j) ∧ hr9_ T' (T 103 p 14) (T' 103 p 15).toNat = (hr9_ T (T 103 p 14) (T 103 p 15).toNat).eraseIdx i.toNat)
set_option maxHeartbeats 4000000 in
theorem ct_X3_takeOut_e {T : Zt} {p : Int} {i : Int} (h1 : 0 ≤ i ∧ i < T 103 p 15 ∧ T 103 p 15 ≤ 1000 ∧ 4 * T 103 p 15 ≤ T 190 (T 103 p 14) (-2)) : Ct_ yX3_takeOut zX3_takeOut T [vR 103 p, vI i] (po_X3_takeOut_e T p i) := by
  refine ct_of pn_3 rfl rfl (Nat.le_of_ble_eq_true rfl) (fun hT hav => ?_)
  have hr_i : -2147483648 ≤ i ∧ i ≤ 2147483647 := hav (vI i) (List.mem_cons_of_mem _ List.mem_cons_self)
  have hz : zX3_takeOut.2.2.2.1 = some .boolean → ∀ (T' : Zt) (x : Int), po_X3_takeOut_e T p i T' (some (vI x)) → 0 ≤ x ∧ x ≤ 1 := fun h => by cases h
  show J_ zX3_takeOut T (po_X3_takeOut_e T p i) 0 0 0 [some (vR 103 p), some (vI i), none] [] T
  have c_6 : ∀ (nn : Nat) (j : Int) (T1 : Zt), ((4 * T 103 p 15 - j).toNat) ≤ nn → (fr_ [(190, [])] T T1) → (∀ x, T1 190 x (-2) = T 190 x (-2)) → (oq_ T T1 p) → (∀ x j, x ≠ T 103 p 14 → T1 190 x j = T 190 x j) → (i * 4 + 4 ≤ j ∧ j ≤ 4 * T 103 p 15) → (∀ x, x < i * 4 → T1 190 (T 103 p 14) x = T 190 (T 103 p 14) x) → (∀ x, i * 4 ≤ x → x < j - 4 → T1 190 (T 103 p 14) x = T 190 (T 103 p 14) (x + 4)) → (∀ x, j ≤ x → T1 190 (T 103 p 14) x = T 190 (T 103 p 14) x) → J_ zX3_takeOut T (po_X3_takeOut_e T p i) 0 0 6 [some (vR 103 p), some (vI i), some (vI j)] [] T1 := by
    intro nn
    induction nn using Nat.strongRecOn with
    | _ nn ih_6 =>
      intro j T1 hm_6 hf_6 lT1 oT1 xT1 i1 t1 t2 t3
      replace hm_6 := fun (_ : Unit) => hm_6
      refine j_blx (F := fX3) tb_X3 (nn_ _) bk_X3_takeOut_e_6 bs_X3_takeOut_e_6 hz (fun K hK => ?_)
      intro b1 b1b
      have e2 : T1 103 p 15 = T 103 p 15 := hf_6 103 p 15 rfl
      rw [e2] at b1 b1b ⊢
      refine rg_i (by omega) ?_
      refine And.intro (fun c3 => ?_) (fun c3 => ?_)
      · refine hK 36 _ [] T1 ?_
        refine j_blx (F := fX3) tb_X3 (nn_ _) bk_X3_takeOut_e_36 bs_X3_takeOut_e_36 hz (fun K hK => ?_)
        intro b4 b4b
        have e5 : T1 103 p 15 = T 103 p 15 := hf_6 103 p 15 rfl
        rw [e5] at b4 b4b ⊢
        refine rg_i (by omega) ?_
        refine bd_i (by omega) ?_
        refine x_nm (fun U6 hU6 => ?_)
        have e7 := up_f hU6
        refine (show po_X3_takeOut_e T p i U6 (none) from ?_)
        have e8 : U6 103 p 15 = (T 103 p 15) - 1 := up_f hU6
        have e9 : U6 103 p 15 = (T 103 p 15) - 1 := up_f hU6
        have b2 : hr9_ U6 (T 103 p 14) (U6 103 p 15).toNat = (hr9_ T (T 103 p 14) (T 103 p 15).toNat).eraseIdx i.toNat := by
          rw [show U6 103 p 15 = T 103 p 15 - 1 by omega]
          exact hrw_d (by omega) (by omega) (fun j h => (up_k hU6 (by exact Nat.ne_of_beq_eq_false rfl) _ _).trans (t1 j h)) (fun j a b => (up_k hU6 (by exact Nat.ne_of_beq_eq_false rfl) _ _).trans (t2 j a (by omega)))
        exact ⟨rfl, fr_u (fr_t (fr_0 _ _) (fr_s hf_6 rfl)) hU6 rfl, oq_u (oT1) hU6, by omega, fun x => (up_k hU6 (by exact Nat.ne_of_beq_eq_false rfl) _ (-2)).trans (lT1 x), fun x j hx => (up_k hU6 (by exact Nat.ne_of_beq_eq_false rfl) _ _).trans (xT1 x j hx), b2⟩
      · have e11 : T1 103 p 14 = T 103 p 14 := hf_6 103 p 14 rfl
        refine rg_i (by omega) ?_
        have e13 : T1 103 p 14 = T 103 p 14 := hf_6 103 p 14 rfl
        have y14 : T1 190 (T1 103 p 14) (-2) = T 190 (T 103 p 14) (-2) := by rw [e13]; exact lT1 _
        refine ix_i (by omega) ?_
        intro b15 b15b
        have e16 : T1 190 (T1 103 p 14) j = T1 190 (T 103 p 14) j := by rw [e13]
        rw [e16] at b15 b15b ⊢
        have y17 : T1 190 (T1 103 p 14) (-2) = T 190 (T 103 p 14) (-2) := by rw [e13]; exact lT1 _
        refine iy_i (by omega) (by omega) ?_
        refine x_nm (fun U18 hU18 => ?_)
        have e19 := up_f hU18
        refine rg_i (by omega) ?_
        refine hK 6 [some (vR 103 p), some (vI i), some (vI (j + 1))] [] U18 ?_
        refine ih_6 _ ?_ (j + 1) U18 (Nat.le_refl _) ?_ ?_ ?_ ?_ ?_ ?_ ?_ ?_
        · have hm_6 := hm_6 (); omega
        · exact fr_u (fr_t (fr_0 _ _) (fr_s hf_6 rfl)) hU18 rfl
        · exact fun x => (up_g hU18 (fun z => by omega)).trans (lT1 x)
        · exact oq_w (oT1) hU18
        · exact fun x j hx => (up_g hU18 (fun z => by omega)).trans (xT1 x j hx)
        · omega
        · exact fun x hx => (up_g hU18 (fun z => by omega)).trans (t1 x hx)
        · intro x a b
          by_cases z : x = j - 4
          · rw [z]
            rw [show j - 4 + 4 = j by omega]
            exact (congrArg (fun i9 => U18 190 i9 (j - 4)) e13.symm).trans ((up_x hU18 (by omega)).trans (t3 j (by omega)))
          · rw [up_g hU18 (fun y => by omega)]
            exact t2 x a (by omega)
        · exact fun x hx => (up_g hU18 (fun z => by omega)).trans (t3 x (by omega))
  refine j_blx (F := fX3) tb_X3 (nn_ _) bk_X3_takeOut_e_0 bs_X3_takeOut_e_0 hz (fun K hK => ?_)
  refine rg_i (by omega) ?_
  refine rg_i (by omega) ?_
  refine hK 6 [some (vR 103 p), some (vI i), some (vI ((i * 4) + 4))] [] T ?_
  refine c_6 _ ((i * 4) + 4) T (Nat.le_refl _) ?_ ?_ ?_ ?_ ?_ ?_ ?_ ?_
  · exact fr_0 _ _
  · exact fun x => rfl
  · exact oq_r
  · exact fun x j _ => rfl
  · omega
  · exact fun x _ => rfl
  · intro x a b; omega
  · exact fun x _ => rfl
theorem bk_X3_putInPlace_e_0 : ck_ fX3 none cX3_putInPlace 0 [.aload 0, .tableswitch 0 3 14 #[], .iload 1, .iload 2, .iload 3, .iload 4, .iload 5] 11 = true := qck_r (nn_ _) (by decide +kernel)
theorem bs_X3_putInPlace_e_0 {P : Zt → Option Zv → Prop} (K : Int → Zl → List Zv → Zt → Prop) : sx_ K P [.aload 0, .tableswitch 0 3 14 #[], .iload 1, .iload 2, .iload 3, .iload 4, .iload 5] 11 = x_aload 0 (x_g3 103 190 14 (x_iload 1 (x_iload 2 (x_iload 3 (x_iload 4 (x_iload 5 (K 11))))))) := ((xe_aload 0).trans (congrArg (x_aload 0) ((xe_g3 (kk := 103) rfl tl_3_14).trans (congrArg (x_g3 103 190 14) ((xe_iload 1).trans (congrArg (x_iload 1) ((xe_iload 2).trans (congrArg (x_iload 2) ((xe_iload 3).trans (congrArg (x_iload 3) ((xe_iload 4).trans (congrArg (x_iload 4) ((xe_iload 5).trans (congrArg (x_iload 5) xe_nil))))))))))))))
theorem bk_X3_putInPlace_e_14 : ck_ fX3 none cX3_putInPlace 14 [.return_] 15 = true := qck_r (nn_ _) (by decide +kernel)
theorem bs_X3_putInPlace_e_14 {P : Zt → Option Zv → Prop} (K : Int → Zl → List Zv → Zt → Prop) : sx_ K P [.return_] 15 = x_return_ P := (xe_return_)
abbrev po_X3_putInPlace_e (T : Zt) (p : Int) (i k s v w : Int) : Zt → Option Zv → Prop := fun T' r => r = none ∧ fr_ [(190, [])] T T' ∧ (∀ x, T' 190 x (-2) = T 190 x (-2)) ∧ (∀ x j, x ≠ T 103 p 14 → T' 190 x j = T 190 x j) ∧ hr9_ T' (T 103 p 14) (T 103 p 15).toNat = (hr9_ T (T 103 p 14) (T 103 p 15).toNat).set i.toNat (k, s, v, w)
set_option maxHeartbeats 4000000 in
theorem ct_X3_putInPlace_e {T : Zt} {p : Int} {i k s v w : Int} (h1 : 0 ≤ i ∧ i ≤ 1000 ∧ i * 4 + 3 < T 190 (T 103 p 14) (-2) ∧ i < T 103 p 15) : Ct_ yX3_putInPlace zX3_putInPlace T [vR 103 p, vI i, vI k, vI s, vI v, vI w] (po_X3_putInPlace_e T p i k s v w) := by
  refine ct_of pn_3 rfl rfl (Nat.le_of_ble_eq_true rfl) (fun hT hav => ?_)
  have hr_i : -2147483648 ≤ i ∧ i ≤ 2147483647 := hav (vI i) (List.mem_cons_of_mem _ List.mem_cons_self)
  have hr_k : -2147483648 ≤ k ∧ k ≤ 2147483647 := hav (vI k) (List.mem_cons_of_mem _ (List.mem_cons_of_mem _ List.mem_cons_self))
  have hr_s : -2147483648 ≤ s ∧ s ≤ 2147483647 := hav (vI s) (List.mem_cons_of_mem _ (List.mem_cons_of_mem _ (List.mem_cons_of_mem _ List.mem_cons_self)))
  have hr_v : -2147483648 ≤ v ∧ v ≤ 2147483647 := hav (vI v) (List.mem_cons_of_mem _ (List.mem_cons_of_mem _ (List.mem_cons_of_mem _ (List.mem_cons_of_mem _ List.mem_cons_self))))
  have hr_w : -2147483648 ≤ w ∧ w ≤ 2147483647 := hav (vI w) (List.mem_cons_of_mem _ (List.mem_cons_of_mem _ (List.mem_cons_of_mem _ (List.mem_cons_of_mem _ (List.mem_cons_of_mem _ List.mem_cons_self)))))
  have hz : zX3_putInPlace.2.2.2.1 = some .boolean → ∀ (T' : Zt) (x : Int), po_X3_putInPlace_e T p i k s v w T' (some (vI x)) → 0 ≤ x ∧ x ≤ 1 := fun h => by cases h
  show J_ zX3_putInPlace T (po_X3_putInPlace_e T p i k s v w) 0 0 0 [some (vR 103 p), some (vI i), some (vI k), some (vI s), some (vI v), some (vI w)] [] T
  refine j_blx (F := fX3) tb_X3 (nn_ _) bk_X3_putInPlace_e_0 bs_X3_putInPlace_e_0 hz (fun K hK => ?_)
  refine hK 11 _ [vI w, vI v, vI s, vI k, vI i, vR 190 (T 103 p 14)] T ?_
  refine j_callS (y := yX3_writeRow) (Yc := zX3_writeRow) (rest := []) [vR 190 (T 103 p 14), vI i, vI k, vI s, vI v, vI w] (ct_X3_writeRow_e (T := T) (by omega)) cl_X3_161 (qd_c (by decide +kernel)) (nn_ _) rfl (rf_of rfl) (Nat.le_of_ble_eq_true rfl) (Nat.le_of_ble_eq_true rfl) (Nat.le_of_ble_eq_true rfl) rfl ?_
  rintro U2 _ ⟨rfl, fU2, lU2, wU2, rU2⟩
  show J_ zX3_putInPlace T (po_X3_putInPlace_e T p i k s v w) 0 0 14 _ [] U2
  refine j_blx (F := fX3) tb_X3 (nn_ _) bk_X3_putInPlace_e_14 bs_X3_putInPlace_e_14 hz (fun K hK => ?_)
  refine (show po_X3_putInPlace_e T p i k s v w U2 (none) from ?_)
  exact ⟨rfl, fU2, lU2, fun x j hx => wU2 x j (fun z => hx z.1), hrw_s (by omega) (by omega) (fun j hj => wU2 _ j (fun z => hj z.2)) rU2⟩
theorem bk_X3_runAnew_e_21 : ck_ fX3 (some .int) cX3_runAnew 21 [.iload 3, .iload 1, .if_icmp .ge 132, .aload 0, .tableswitch 0 3 14 #[], .iload 3, .iconst 4, .imul, .iaload, .istore 4, .aload 0, .tableswitch 0 3 14 #[], .iload 3, .iconst 4, .imul, .iconst 1, .iadd, .iaload, .istore 5, .aload 0, .tableswitch 0 3 14 #[], .iload 3, .iconst 4, .imul, .iconst 2, .iadd, .iaload, .istore 6, .aload 0, .tableswitch 0 3 14 #[], .iload 3, .iconst 4, .imul, .iconst 3, .iadd, .iaload, .istore 7, .aload 0, .iload 4, .iload 5, .iload 6, .iload 7] 81 = true := qck_r (nn_ _) (by decide +kernel)
theorem bs_X3_runAnew_e_21 {P : Zt → Option Zv → Prop} (K : Int → Zl → List Zv → Zt → Prop) : sx_ K P [.iload 3, .iload 1, .if_icmp .ge 132, .aload 0, .tableswitch 0 3 14 #[], .iload 3, .iconst 4, .imul, .iaload, .istore 4, .aload 0, .tableswitch 0 3 14 #[], .iload 3, .iconst 4, .imul, .iconst 1, .iadd, .iaload, .istore 5, .aload 0, .tableswitch 0 3 14 #[], .iload 3, .iconst 4, .imul, .iconst 2, .iadd, .iaload, .istore 6, .aload 0, .tableswitch 0 3 14 #[], .iload 3, .iconst 4, .imul, .iconst 3, .iadd, .iaload, .istore 7, .aload 0, .iload 4, .iload 5, .iload 6, .iload 7] 81 = x_iload 3 (x_iload 1 (x_if_icmp .ge 132 K (x_aload 0 (x_g3 103 190 14 (x_iload 3 (x_iconst 4 (x_imul (x_iaload (x_istore 4 (x_aload 0 (x_g3 103 190 14 (x_iload 3 (x_iconst 4 (x_imul (x_iconst 1 (x_iadd (x_iaload (x_istore 5 (x_aload 0 (x_g3 103 190 14 (x_iload 3 (x_iconst 4 (x_imul (x_iconst 2 (x_iadd (x_iaload (x_istore 6 (x_aload 0 (x_g3 103 190 14 (x_iload 3 (x_iconst 4 (x_imul (x_iconst 3 (x_iadd (x_iaload (x_istore 7 (x_aload 0 (x_iload 4 (x_iload 5 (x_iload 6 (x_iload 7 (K 81)))))))))))))))))))))))))))))))))))))))))) := ((xe_iload 3).trans (congrArg (x_iload 3) ((xe_iload 1).trans (congrArg (x_iload 1) ((xe_if_icmp .ge 132).trans (congrArg (x_if_icmp .ge 132 K) ((xe_aload 0).trans (congrArg (x_aload 0) ((xe_g3 (kk := 103) rfl tl_3_14).trans (congrArg (x_g3 103 190 14) ((xe_iload 3).trans (congrArg (x_iload 3) ((xe_iconst 4).trans (congrArg (x_iconst 4) ((xe_imul).trans (congrArg (x_imul) ((xe_iaload).trans (congrArg (x_iaload) ((xe_istore 4).trans (congrArg (x_istore 4) ((xe_aload 0).trans (congrArg (x_aload 0) ((xe_g3 (kk := 103) rfl tl_3_14).trans (congrArg (x_g3 103 190 14) ((xe_iload 3).trans (congrArg (x_iload 3) ((xe_iconst 4).trans (congrArg (x_iconst 4) ((xe_imul).trans (congrArg (x_imul) ((xe_iconst 1).trans (congrArg (x_iconst 1) ((xe_iadd).trans (congrArg (x_iadd) ((xe_iaload).trans (congrArg (x_iaload) ((xe_istore 5).trans (congrArg (x_istore 5) ((xe_aload 0).trans (congrArg (x_aload 0) ((xe_g3 (kk := 103) rfl tl_3_14).trans (congrArg (x_g3 103 190 14) ((xe_iload 3).trans (congrArg (x_iload 3) ((xe_iconst 4).trans (congrArg (x_iconst 4) ((xe_imul).trans (congrArg (x_imul) ((xe_iconst 2).trans (congrArg (x_iconst 2) ((xe_iadd).trans (congrArg (x_iadd) ((xe_iaload).trans (congrArg (x_iaload) ((xe_istore 6).trans (congrArg (x_istore 6) ((xe_aload 0).trans (congrArg (x_aload 0) ((xe_g3 (kk := 103) rfl tl_3_14).trans (congrArg (x_g3 103 190 14) ((xe_iload 3).trans (congrArg (x_iload 3) ((xe_iconst 4).trans (congrArg (x_iconst 4) ((xe_imul).trans (congrArg (x_imul) ((xe_iconst 3).trans (congrArg (x_iconst 3) ((xe_iadd).trans (congrArg (x_iadd) ((xe_iaload).trans (congrArg (x_iaload) ((xe_istore 7).trans (congrArg (x_istore 7) ((xe_aload 0).trans (congrArg (x_aload 0) ((xe_iload 4).trans (congrArg (x_iload 4) ((xe_iload 5).trans (congrArg (x_iload 5) ((xe_iload 6).trans (congrArg (x_iload 6) ((xe_iload 7).trans (congrArg (x_iload 7) xe_nil))))))))))))))))))))))))))))))))))))))))))))))))))))))))))))))))))))))))))))))))))))
theorem bk_X3_runAnew_e_132 : ck_ fX3 (some .int) cX3_runAnew 132 [.aload 0, .tableswitch 0 3 17 #[], .iload 2, .isub, .ireturn] 139 = true := qck_r (nn_ _) (by decide +kernel)
theorem bs_X3_runAnew_e_132 {P : Zt → Option Zv → Prop} (K : Int → Zl → List Zv → Zt → Prop) : sx_ K P [.aload 0, .tableswitch 0 3 17 #[], .iload 2, .isub, .ireturn] 139 = x_aload 0 (x_g0 103 17 0 3000 (x_iload 2 (x_isub (x_ireturn P)))) := ((xe_aload 0).trans (congrArg (x_aload 0) ((xe_g0 (kk := 103) rfl tl_3_17).trans (congrArg (x_g0 103 17 0 3000) ((xe_iload 2).trans (congrArg (x_iload 2) ((xe_isub).trans (congrArg (x_isub) (xe_ireturn)))))))))
theorem bk_X3_runAnew_e_84 : ck_ fX3 (some .int) cX3_runAnew 84 [.ifCond .ne 114, .aload 0, .iload 4, .iload 5, .iload 6, .iload 7] 96 = true := qck_r (nn_ _) (by decide +kernel)
theorem bs_X3_runAnew_e_84 {P : Zt → Option Zv → Prop} (K : Int → Zl → List Zv → Zt → Prop) : sx_ K P [.ifCond .ne 114, .aload 0, .iload 4, .iload 5, .iload 6, .iload 7] 96 = x_ifCond .ne 114 K (x_aload 0 (x_iload 4 (x_iload 5 (x_iload 6 (x_iload 7 (K 96)))))) := ((xe_ifCond .ne 114).trans (congrArg (x_ifCond .ne 114 K) ((xe_aload 0).trans (congrArg (x_aload 0) ((xe_iload 4).trans (congrArg (x_iload 4) ((xe_iload 5).trans (congrArg (x_iload 5) ((xe_iload 6).trans (congrArg (x_iload 6) ((xe_iload 7).trans (congrArg (x_iload 7) xe_nil))))))))))))
theorem bk_X3_runAnew_e_114 : ck_ fX3 (some .int) cX3_runAnew 114 [.aload 0, .iload 4, .iload 5, .iload 6, .iload 7] 123 = true := qck_r (nn_ _) (by decide +kernel)
theorem bs_X3_runAnew_e_114 {P : Zt → Option Zv → Prop} (K : Int → Zl → List Zv → Zt → Prop) : sx_ K P [.aload 0, .iload 4, .iload 5, .iload 6, .iload 7] 123 = x_aload 0 (x_iload 4 (x_iload 5 (x_iload 6 (x_iload 7 (K 123))))) := ((xe_aload 0).trans (congrArg (x_aload 0) ((xe_iload 4).trans (congrArg (x_iload 4) ((xe_iload 5).trans (congrArg (x_iload 5) ((xe_iload 6).trans (congrArg (x_iload 6) ((xe_iload 7).trans (congrArg (x_iload 7) xe_nil))))))))))
theorem bk_X3_runAnew_e_126 : ck_ fX3 (some .int) cX3_runAnew 126 [.iinc 3 1, .goto 21] 132 = true := qck_r (nn_ _) (by decide +kernel)
theorem bs_X3_runAnew_e_126 {P : Zt → Option Zv → Prop} (K : Int → Zl → List Zv → Zt → Prop) : sx_ K P [.iinc 3 1, .goto 21] 132 = x_iinc 3 1 (x_goto 21 K) := ((xe_iinc 3 1).trans (congrArg (x_iinc 3 1) (xe_goto 21)))
theorem bk_X3_runAnew_e_99 : ck_ fX3 (some .int) cX3_runAnew 99 [.aload 0, .iload 4, .iload 5, .iload 6, .iload 7] 108 = true := qck_r (nn_ _) (by decide +kernel)
theorem bs_X3_runAnew_e_99 {P : Zt → Option Zv → Prop} (K : Int → Zl → List Zv → Zt → Prop) : sx_ K P [.aload 0, .iload 4, .iload 5, .iload 6, .iload 7] 108 = x_aload 0 (x_iload 4 (x_iload 5 (x_iload 6 (x_iload 7 (K 108))))) := ((xe_aload 0).trans (congrArg (x_aload 0) ((xe_iload 4).trans (congrArg (x_iload 4) ((xe_iload 5).trans (congrArg (x_iload 5) ((xe_iload 6).trans (congrArg (x_iload 6) ((xe_iload 7).trans (congrArg (x_iload 7) xe_nil))))))))))
theorem bk_X3_runAnew_e_111 : ck_ fX3 (some .int) cX3_runAnew 111 [.goto 126] 114 = true := qck_r (nn_ _) (by decide +kernel)
theorem bs_X3_runAnew_e_111 {P : Zt → Option Zv → Prop} (K : Int → Zl → List Zv → Zt → Prop) : sx_ K P [.goto 126] 114 = x_goto 126 K := (xe_goto 126)
theorem bk_X3_runAnew_e_0 : ck_ fX3 (some .int) cX3_runAnew 0 [.aload 0, .tableswitch 0 3 15 #[], .istore 1, .aload 0, .tableswitch 0 3 17 #[], .istore 2, .aload 0, .iconst 0, .tableswitch 1 3 15 #[], .aload 0] 16 = true := qck_r (nn_ _) (by decide +kernel)
theorem bs_X3_runAnew_e_0 {P : Zt → Option Zv → Prop} (K : Int → Zl → List Zv → Zt → Prop) : sx_ K P [.aload 0, .tableswitch 0 3 15 #[], .istore 1, .aload 0, .tableswitch 0 3 17 #[], .istore 2, .aload 0, .iconst 0, .tableswitch 1 3 15 #[], .aload 0] 16 = x_aload 0 (x_g0 103 15 0 3000 (x_istore 1 (x_aload 0 (x_g0 103 17 0 3000 (x_istore 2 (x_aload 0 (x_iconst 0 (x_p 103 15 0 3000 (x_aload 0 (K 16)))))))))) := ((xe_aload 0).trans (congrArg (x_aload 0) ((xe_g0 (kk := 103) rfl tl_3_15).trans (congrArg (x_g0 103 15 0 3000) ((xe_istore 1).trans (congrArg (x_istore 1) ((xe_aload 0).trans (congrArg (x_aload 0) ((xe_g0 (kk := 103) rfl tl_3_17).trans (congrArg (x_g0 103 17 0 3000) ((xe_istore 2).trans (congrArg (x_istore 2) ((xe_aload 0).trans (congrArg (x_aload 0) ((xe_iconst 0).trans (congrArg (x_iconst 0) ((xe_p (kk := 103) rfl tl_3_15).trans (congrArg (x_p 103 15 0 3000) ((xe_aload 0).trans (congrArg (x_aload 0) xe_nil))))))))))))))))))))
theorem bk_X3_runAnew_e_19 : ck_ fX3 (some .int) cX3_runAnew 19 [.iconst 0, .istore 3] 21 = true := qck_r (nn_ _) (by decide +kernel)
theorem bs_X3_runAnew_e_19 {P : Zt → Option Zv → Prop} (K : Int → Zl → List Zv → Zt → Prop) : sx_ K P [.iconst 0, .istore 3] 21 = x_iconst 0 (x_istore 3 (K 21)) := ((xe_iconst 0).trans (congrArg (x_iconst 0) ((xe_istore 3).trans (congrArg (x_istore 3) xe_nil))))
abbrev po_X3_runAnew_e (T : Zt) (p : Int) (ru : Int → Int) : Zt → Option Zv → Prop := fun T' r => ∃ x : Int, r = some (vI x) ∧ fr_ [(103, [3, 4, 5, 15, 16, 17]), (466, []), (467, []), (468, []), (469, []), (472, []), (473, []), (470, []), (471, []), (190, []), (191, [0])] T T' ∧ oq_ T T' p ∧ (∀ x, x < T 191 0 0 → T' 190 x (-2) = T 190 x (-2)) ∧ (0 ≤ T' 103 p 15 ∧ 0 ≤ T' 103 p 17 ∧ T' 103 p 15 + T' 103 p 17 = T 103 p 15 + T 103 p 17) ∧ (T 191 0 0 ≤ T' 191 0 0 ∧ T' 191 0 0 ≤ T 191 0 0 + 512) ∧ lz_ (T' 190 (T' 103 p 16) (-2)) ∧ (4 * T' 103 p 17 ≤ T' 190 (T' 103 p 16) (-2) ∧ T' 103 p 16 < T' 191 0 0 ∧ 4 * T' 103 p 15 ≤ T' 190 (T 103 p 14) (-2)) ∧ (T' 103 p 3 = 0 → 1 ≤ T' 470 p 0 ∧ 1 ≤ T' 470 p 1) ∧ (∀ x j, x < T 191 0 0 → x ≠ T 103 p 14 → x ≠ T 103 p 16 → T' 190 x j = T 190 x j) ∧ (T' 103 p 16 = T 103 p 16 ∨ T 191 0 0 ≤ T' 103 p 16) ∧ rs9_ T' p = (rnH_ ru (bb9_ ru (rs9_ T p)) (hr9_ T (T 103 p 14) (T 103 p 15).toNat)).1 ∧ hr9_ T' (T 103 p 14) (T' 103 p 15).toNat = (rnH_ ru (bb9_ ru (rs9_ T p)) (hr9_ T (T 103 p 14) (T 103 p 15).toNat)).2.1 ∧ x = (rnH_ ru (bb9_ ru (rs9_ T p)) (hr9_ T (T 103 p 14) (T 103 p 15).toNat)).2.2 ∧ T' 103 p 17 = T 103 p 17 + x
set_option maxHeartbeats 4000000 in
theorem ct_X3_runAnew_e {T : Zt} {p : Int} {ru : Int → Int} (hr : RLP_ T p ru) (hf : 1 ≤ T 401 (T 103 p 0) 9 ∧ T 401 (T 103 p 0) 9 ≤ 6) (h1 : 0 ≤ T 103 p 15 ∧ 0 ≤ T 103 p 17 ∧ T 103 p 15 + T 103 p 17 ≤ 512) (h2 : 4 * T 103 p 15 ≤ T 190 (T 103 p 14) (-2) ∧ T 190 (T 103 p 14) (-2) ≤ 2048 ∧ 4 * T 103 p 17 ≤ T 190 (T 103 p 16) (-2)) (hz9 : lz_ (T 190 (T 103 p 16) (-2))) (h4 : T 103 p 14 < T 191 0 0 ∧ T 103 p 16 < T 191 0 0 ∧ T 191 0 0 ≤ 1000000000 ∧ -2147483648 ≤ T 103 p 14 ∧ -2147483648 ≤ T 103 p 16 ∧ T 103 p 14 ≠ T 103 p 16) : Ct_ yX3_runAnew zX3_runAnew T [vR 103 p] (po_X3_runAnew_e T p ru) := by
  refine ct_of pn_3 rfl rfl (Nat.le_of_ble_eq_true rfl) (fun hT hav => ?_)
  have hz : zX3_runAnew.2.2.2.1 = some .boolean → ∀ (T' : Zt) (x : Int), po_X3_runAnew_e T p ru T' (some (vI x)) → 0 ≤ x ∧ x ≤ 1 := fun h => by cases h
  have hb0 := lz_b hz9
  have hr0 := hr 0 (by decide) (by decide)
  have hr9 := hr 9 (by decide) (by decide)
  have hr10 := hr 10 (by decide) (by decide)
  have hr11 := hr 11 (by decide) (by decide)
  have hr12 := hr 12 (by decide) (by decide)
  show J_ zX3_runAnew T (po_X3_runAnew_e T p ru) 127 4064 0 [some (vR 103 p), none, none, none, none, none, none, none] [] T
  have c_21 : ∀ (nn : Nat) (i : Int) (T1 : Zt), ((T 103 p 15 - i).toNat) ≤ nn → (fr_ [(103, [3, 4, 5, 15, 16, 17]), (466, []), (467, []), (468, []), (469, []), (472, []), (473, []), (470, []), (471, []), (190, []), (191, [0])] T T1) → (oq_ T T1 p) → (∀ x, x < T 191 0 0 → T1 190 x (-2) = T 190 x (-2)) → (0 ≤ i ∧ i ≤ T 103 p 15) → (0 ≤ T1 103 p 15 ∧ T1 103 p 15 ≤ i ∧ T1 103 p 15 + T1 103 p 17 = T 103 p 17 + i ∧ 0 ≤ T1 103 p 17) → (T 191 0 0 ≤ T1 191 0 0 ∧ T1 191 0 0 ≤ T 191 0 0 + i) → (lz_ (T1 190 (T1 103 p 16) (-2))) → (4 * T1 103 p 17 ≤ T1 190 (T1 103 p 16) (-2) ∧ T1 103 p 16 < T1 191 0 0) → (T1 103 p 3 = 0 → 1 ≤ T1 470 p 0 ∧ 1 ≤ T1 470 p 1) → (T1 103 p 16 = T 103 p 16 ∨ T 191 0 0 ≤ T1 103 p 16) → (∀ j, i * 4 ≤ j → 0 ≤ j → T1 190 (T 103 p 14) j = T 190 (T 103 p 14) j) → (∀ x j, x < T 191 0 0 → x ≠ T 103 p 14 → x ≠ T 103 p 16 → T1 190 x j = T 190 x j) → (rs9_ T1 p = (rnH_ ru (bb9_ ru (rs9_ T p)) (hr9_ T (T 103 p 14) i.toNat)).1) → (hr9_ T1 (T 103 p 14) (T1 103 p 15).toNat = (rnH_ ru (bb9_ ru (rs9_ T p)) (hr9_ T (T 103 p 14) i.toNat)).2.1) → (T1 103 p 17 - T 103 p 17 = (rnH_ ru (bb9_ ru (rs9_ T p)) (hr9_ T (T 103 p 14) i.toNat)).2.2) → J_ zX3_runAnew T (po_X3_runAnew_e T p ru) (((2048 - T1 190 (T1 103 p 16) (-2)) / 16).toNat) ((4096 - 2 * T1 190 (T1 103 p 16) (-2)).toNat) 21 [some (vR 103 p), some (vI (T 103 p 15)), some (vI (T 103 p 17)), some (vI i), none, none, none, none] [] T1 := by
    intro nn
    induction nn using Nat.strongRecOn with
    | _ nn ih_21 =>
      intro i T1 hm_21 hf_21 oT1 lT1 i1 i2 i3 i4 i5 i6 ag1 rr1 xx1 fo1 fo2 fo3
      replace hm_21 := fun (_ : Unit) => hm_21
      have hb9 := lz_b i4
      refine j_blx (F := fX3) tb_X3 (nn_ _) bk_X3_runAnew_e_21 bs_X3_runAnew_e_21 hz (fun K hK => ?_)
      refine And.intro (fun c1 => ?_) (fun c1 => ?_)
      · refine hK 132 _ [] T1 ?_
        refine j_blx (F := fX3) tb_X3 (nn_ _) bk_X3_runAnew_e_132 bs_X3_runAnew_e_132 hz (fun K hK => ?_)
        intro b2 b2b
        refine rg_i (by omega) ?_
        refine (show po_X3_runAnew_e T p ru T1 (some (vI ((T1 103 p 17) - (T 103 p 17)))) from ?_)
        have y1 : T1 190 (T 103 p 14) (-2) = T 190 (T 103 p 14) (-2) := lT1 _ (by omega)
        rw [show i = T 103 p 15 by omega] at fo1 fo2 fo3
        exact ⟨_, rfl, hf_21, oT1, lT1, by omega, by omega, i4, by omega, i6, xx1, ag1, fo1, fo2, fo3, by omega⟩
      · have e4 : T1 103 p 14 = T 103 p 14 := hf_21 103 p 14 rfl
        refine rg_i (by omega) ?_
        have y5 : T1 190 (T1 103 p 14) (-2) = T 190 (T 103 p 14) (-2) := by rw [e4]; exact lT1 _ (by omega)
        refine ix_i (by omega) ?_
        intro b6 b6b
        have e7 : T1 190 (T1 103 p 14) (i * 4) = T1 190 (T 103 p 14) (i * 4) := by rw [e4]
        rw [e7] at b6 b6b ⊢
        have e9 : T1 103 p 14 = T 103 p 14 := hf_21 103 p 14 rfl
        refine rg_i (by omega) ?_
        refine rg_i (by omega) ?_
        have y10 : T1 190 (T1 103 p 14) (-2) = T 190 (T 103 p 14) (-2) := by rw [e9]; exact lT1 _ (by omega)
        refine ix_i (by omega) ?_
        intro b11 b11b
        have e12 : T1 190 (T1 103 p 14) ((i * 4) + 1) = T1 190 (T 103 p 14) ((i * 4) + 1) := by rw [e9]
        rw [e12] at b11 b11b ⊢
        have e14 : T1 103 p 14 = T 103 p 14 := hf_21 103 p 14 rfl
        refine rg_i (by omega) ?_
        refine rg_i (by omega) ?_
        have y15 : T1 190 (T1 103 p 14) (-2) = T 190 (T 103 p 14) (-2) := by rw [e14]; exact lT1 _ (by omega)
        refine ix_i (by omega) ?_
        intro b16 b16b
        have e17 : T1 190 (T1 103 p 14) ((i * 4) + 2) = T1 190 (T 103 p 14) ((i * 4) + 2) := by rw [e14]
        rw [e17] at b16 b16b ⊢
        have e19 : T1 103 p 14 = T 103 p 14 := hf_21 103 p 14 rfl
        refine rg_i (by omega) ?_
        refine rg_i (by omega) ?_
        have y20 : T1 190 (T1 103 p 14) (-2) = T 190 (T 103 p 14) (-2) := by rw [e19]; exact lT1 _ (by omega)
        refine ix_i (by omega) ?_
        intro b21 b21b
        have e22 : T1 190 (T1 103 p 14) ((i * 4) + 3) = T1 190 (T 103 p 14) ((i * 4) + 3) := by rw [e19]
        rw [e22] at b21 b21b ⊢
        refine hK 81 [some (vR 103 p), some (vI (T 103 p 15)), some (vI (T 103 p 17)), some (vI i), some (vI (T1 190 (T 103 p 14) (i * 4))), some (vI (T1 190 (T 103 p 14) ((i * 4) + 1))), some (vI (T1 190 (T 103 p 14) ((i * 4) + 2))), some (vI (T1 190 (T 103 p 14) ((i * 4) + 3)))] [vI (T1 190 (T 103 p 14) ((i * 4) + 3)), vI (T1 190 (T 103 p 14) ((i * 4) + 2)), vI (T1 190 (T 103 p 14) ((i * 4) + 1)), vI (T1 190 (T 103 p 14) (i * 4)), vR 103 p] T1 ?_
        refine j_callV (y := yX3_brokenLaw) (Yc := zX3_brokenLaw) (rest := []) [vI (T1 190 (T 103 p 14) (i * 4)), vI (T1 190 (T 103 p 14) ((i * 4) + 1)), vI (T1 190 (T 103 p 14) ((i * 4) + 2)), vI (T1 190 (T 103 p 14) ((i * 4) + 3))] (ct_X3_brokenLaw_e (T := T1) (ru := ru) (by exact rl_f (ws := [(103, [3, 4, 5, 15, 16, 17]), (466, []), (467, []), (468, []), (469, []), (472, []), (473, []), (470, []), (471, []), (190, []), (191, [0])]) hr (fr_t (fr_0 _ _) (fr_s hf_21 rfl)) rfl (fun _ => rfl))) cl_X3_171 (qd_c (by decide +kernel)) (by decide) rfl (by decide +kernel) (Nat.le_of_ble_eq_true rfl) (by first | decide | (simp only [zX3_brokenLaw]; omega)) (by first | decide | (simp only [zX3_brokenLaw]; omega)) rfl ?_
        rintro _ _ ⟨rfl, x23, rfl, hx23⟩
        show J_ zX3_runAnew T (po_X3_runAnew_e T p ru) (((2048 - T1 190 (T1 103 p 16) (-2)) / 16).toNat) ((4096 - 2 * T1 190 (T1 103 p 16) (-2)).toNat) 84 _ [vI x23] T1
        refine j_blx (F := fX3) tb_X3 (nn_ _) bk_X3_runAnew_e_84 bs_X3_runAnew_e_84 hz (fun K hK => ?_)
        refine And.intro (fun c24 => ?_) (fun c24 => ?_)
        · refine hK 114 _ [] T1 ?_
          refine j_ok (fun gt _ => ?_)
          have ga := bd_f gt 103 16 tl_3_16 p
          refine j_blx (F := fX3) tb_X3 (nn_ _) bk_X3_runAnew_e_114 bs_X3_runAnew_e_114 hz (fun K hK => ?_)
          refine hK 123 _ [vI (T1 190 (T 103 p 14) ((i * 4) + 3)), vI (T1 190 (T 103 p 14) ((i * 4) + 2)), vI (T1 190 (T 103 p 14) ((i * 4) + 1)), vI (T1 190 (T 103 p 14) (i * 4)), vR 103 p] T1 ?_
          have gb : -2147483648 ≤ T1 103 p 16 := ga.1
          have gl : T1 103 p 14 = T 103 p 14 := hf_21 103 p 14 rfl
          by_cases g25 : 4 * T1 103 p 17 + 4 ≤ T1 190 (T1 103 p 16) (-2)
          · refine j_callV (y := yX3_putAside) (Yc := zX3_putAside0) (rest := []) [vI (T1 190 (T 103 p 14) (i * 4)), vI (T1 190 (T 103 p 14) ((i * 4) + 1)), vI (T1 190 (T 103 p 14) ((i * 4) + 2)), vI (T1 190 (T 103 p 14) ((i * 4) + 3))] (ct_X3_putAside0_e (T := T1) (by omega) (by omega) (by omega)) cl_X3_182_zX3_putAside0 (qd_c (by decide +kernel)) (by decide) rfl (by decide +kernel) (Nat.le_of_ble_eq_true rfl) (Nat.zero_le _) (Nat.zero_le _) rfl ?_
            rintro U26 _ ⟨rfl, fU26, qU26o, nU26, lU26, xU26⟩
            show J_ zX3_runAnew T (po_X3_runAnew_e T p ru) (((2048 - T1 190 (T1 103 p 16) (-2)) / 16).toNat) ((4096 - 2 * T1 190 (T1 103 p 16) (-2)).toNat) 126 _ [] U26
            refine j_blx (F := fX3) tb_X3 (nn_ _) bk_X3_runAnew_e_126 bs_X3_runAnew_e_126 hz (fun K hK => ?_)
            refine rg_i (by omega) ?_
            refine hK 21 [some (vR 103 p), some (vI (T 103 p 15)), some (vI (T 103 p 17)), some (vI (i + 1)), some (vI (T1 190 (T 103 p 14) (i * 4))), some (vI (T1 190 (T 103 p 14) ((i * 4) + 1))), some (vI (T1 190 (T 103 p 14) ((i * 4) + 2))), some (vI (T1 190 (T 103 p 14) ((i * 4) + 3)))] [] U26 ?_
            have e28 : U26 103 p 15 = T1 103 p 15 := fU26 103 p 15 rfl
            have e29 : U26 103 p 16 = T1 103 p 16 := fU26 103 p 16 rfl
            have e30 : U26 103 p 3 = T1 103 p 3 := fU26 103 p 3 rfl
            have e31 : U26 191 0 0 = T1 191 0 0 := fU26 191 0 0 rfl
            have y32 : U26 103 p 16 = T1 103 p 16 := fU26 103 p 16 rfl
            have d9 : U26 190 (U26 103 p 16) (-2) = T1 190 (T1 103 p 16) (-2) := by rw [y32]; exact lU26 _ (by omega)
            have u0 : T1 190 (T 103 p 14) (i * 4) = T 190 (T 103 p 14) (i * 4) := rr1 _ (by omega) (by omega)
            have u1 : T1 190 (T 103 p 14) (i * 4 + 1) = T 190 (T 103 p 14) (i * 4 + 1) := rr1 _ (by omega) (by omega)
            have u2 : T1 190 (T 103 p 14) (i * 4 + 2) = T 190 (T 103 p 14) (i * 4 + 2) := rr1 _ (by omega) (by omega)
            have u3 : T1 190 (T 103 p 14) (i * 4 + 3) = T 190 (T 103 p 14) (i * 4 + 3) := rr1 _ (by omega) (by omega)
            have er : ra9_ T (T 103 p 14) i = (T1 190 (T 103 p 14) (i * 4), T1 190 (T 103 p 14) (i * 4 + 1), T1 190 (T 103 p 14) (i * 4 + 2), T1 190 (T 103 p 14) (i * 4 + 3)) := by
              unfold ra9_
              rw [u0, u1, u2, u3]
            have en : rnH_ ru (bb9_ ru (rs9_ T p)) (hr9_ T (T 103 p 14) (i + 1).toNat) = stH_ ru (rnH_ ru (bb9_ ru (rs9_ T p)) (hr9_ T (T 103 p 14) i.toNat)) (ra9_ T (T 103 p 14) i) := by rw [hrw_t (by omega)]; exact rnH_a
            have en2 : rnH_ ru (bb9_ ru (rs9_ T p)) (hr9_ T (T 103 p 14) (i + 1).toNat) = ((rnH_ ru (bb9_ ru (rs9_ T p)) (hr9_ T (T 103 p 14) i.toNat)).1, (rnH_ ru (bb9_ ru (rs9_ T p)) (hr9_ T (T 103 p 14) i.toNat)).2.1, (rnH_ ru (bb9_ ru (rs9_ T p)) (hr9_ T (T 103 p 14) i.toNat)).2.2 + 1) := by rw [en, er]; exact stH_f (by rw [← fo1]; omega)
            have fa : rs9_ U26 p = (rnH_ ru (bb9_ ru (rs9_ T p)) (hr9_ T (T 103 p 14) (i + 1).toNat)).1 := by
              rw [en2, rs_w fU26 (fun k j d => by rcases dk_c d with rfl | rfl | rfl | rfl | rfl | rfl | rfl | rfl | rfl | rfl | ⟨rfl, rfl | rfl | rfl⟩ <;> rfl)]
              exact fo1
            have fb : hr9_ U26 (T 103 p 14) (U26 103 p 15).toNat = (rnH_ ru (bb9_ ru (rs9_ T p)) (hr9_ T (T 103 p 14) (i + 1).toNat)).2.1 := by
              rw [en2, show U26 103 p 15 = T1 103 p 15 from fU26 103 p 15 rfl, hrw_e (T := T1) (a := T 103 p 14) (fun j _ _ => xU26 _ j (fun z => by omega))]
              exact fo2
            have fc : U26 103 p 17 - T 103 p 17 = (rnH_ ru (bb9_ ru (rs9_ T p)) (hr9_ T (T 103 p 14) (i + 1).toNat)).2.2 := by
              rw [en2]
              show _ = (rnH_ ru (bb9_ ru (rs9_ T p)) (hr9_ T (T 103 p 14) i.toNat)).2.2 + 1
              rw [← fo3]
              omega
            refine j_drop [some (vR 103 p), some (vI (T 103 p 15)), some (vI (T 103 p 17)), some (vI (i + 1)), none, none, none, none] (fun k v hk => ?_) rfl ?_
            · match k, hk with
              | 0, hk => exact hk
              | 1, hk => exact hk
              | 2, hk => exact hk
              | 3, hk => exact hk
              | 4, hk => cases hk
              | 5, hk => cases hk
              | 6, hk => cases hk
              | 7, hk => cases hk
              | k + 8, hk => cases hk
            refine j_mono (bc' := (((2048 - U26 190 (U26 103 p 16) (-2)) / 16).toNat)) (bs' := ((4096 - 2 * U26 190 (U26 103 p 16) (-2)).toNat)) (by omega) (by omega) ?_
            have e33 : U26 103 p 15 = T1 103 p 15 := fU26 103 p 15 rfl
            have e34 : U26 103 p 16 = T1 103 p 16 := fU26 103 p 16 rfl
            have e35 : U26 103 p 3 = T1 103 p 3 := fU26 103 p 3 rfl
            have e36 : U26 470 p 0 = T1 470 p 0 := fU26 470 p 0 rfl
            have e37 : U26 470 p 1 = T1 470 p 1 := fU26 470 p 1 rfl
            have e38 : U26 191 0 0 = T1 191 0 0 := fU26 191 0 0 rfl
            refine ih_21 _ ?_ (i + 1) U26 (Nat.le_refl _) ?_ ?_ ?_ ?_ ?_ ?_ ?_ ?_ ?_ ?_ ?_ ?_ ?_ ?_ ?_
            · have hm_21 := hm_21 (); omega
            · exact fr_t (fr_t (fr_0 _ _) (fr_s hf_21 rfl)) (fr_s fU26 rfl)
            · exact oq_t (oT1) qU26o
            · exact fun x hx => (lU26 x (by omega)).trans (lT1 x hx)
            · omega
            · omega
            · omega
            · rw [d9]; exact i4
            · omega
            · intro z9
              have y1 := i6 (by omega)
              have y2 : U26 470 p 0 = T1 470 p 0 := fU26 470 p 0 rfl
              have y3 : U26 470 p 1 = T1 470 p 1 := fU26 470 p 1 rfl
              omega
            · omega
            · exact fun j a b => (xU26 _ j (fun z => by omega)).trans (rr1 j (by omega) b)
            · exact fun x j a b c => (xU26 x j (fun z => by omega)).trans (xx1 x j a b c)
            · exact fa
            · exact fb
            · exact fc
          · have gh := lz_h i4 (by omega)
            refine j_callV (pc := 123) (y := yX3_putAside) (Yc := (zX3_putAsideD (T1 190 (T1 103 p 16) (-2)).toNat)) (rest := []) [vI (T1 190 (T 103 p 14) (i * 4)), vI (T1 190 (T 103 p 14) ((i * 4) + 1)), vI (T1 190 (T 103 p 14) ((i * 4) + 2)), vI (T1 190 (T 103 p 14) ((i * 4) + 3))] (ct_X3_putAsideD_e (T := T1) (sl := (T1 190 (T1 103 p 16) (-2)).toNat) (by omega) (by omega) i4 (by omega)) (cl_X3_182_zX3_putAsideD _) (qd_c (by decide +kernel)) (by decide) rfl rfl (Nat.le_of_ble_eq_true rfl) (by show 1 ≤ ((2048 - T1 190 (T1 103 p 16) (-2)) / 16).toNat; omega) (by show 2 * (T1 190 (T1 103 p 16) (-2)).toNat ≤ (4096 - 2 * T1 190 (T1 103 p 16) (-2)).toNat; omega) rfl ?_
            rintro U39 _ ⟨rfl, fU39, qU39o, nU39, lU39, mU39, m2U39, zU39, iU39, kU39, dU39, xU39, gU39⟩
            show J_ zX3_runAnew T (po_X3_runAnew_e T p ru) ((((2048 - T1 190 (T1 103 p 16) (-2)) / 16).toNat) - 1) (((4096 - 2 * T1 190 (T1 103 p 16) (-2)).toNat) - (2 * (T1 190 (T1 103 p 16) (-2)).toNat)) 126 [some (vR 103 p), some (vI (T 103 p 15)), some (vI (T 103 p 17)), some (vI i), some (vI (T1 190 (T 103 p 14) (i * 4))), some (vI (T1 190 (T 103 p 14) ((i * 4) + 1))), some (vI (T1 190 (T 103 p 14) ((i * 4) + 2))), some (vI (T1 190 (T 103 p 14) ((i * 4) + 3)))] [] U39
            refine j_blx (F := fX3) tb_X3 (nn_ _) bk_X3_runAnew_e_126 bs_X3_runAnew_e_126 hz (fun K hK => ?_)
            refine rg_i (by omega) ?_
            refine hK 21 [some (vR 103 p), some (vI (T 103 p 15)), some (vI (T 103 p 17)), some (vI (i + 1)), some (vI (T1 190 (T 103 p 14) (i * 4))), some (vI (T1 190 (T 103 p 14) ((i * 4) + 1))), some (vI (T1 190 (T 103 p 14) ((i * 4) + 2))), some (vI (T1 190 (T 103 p 14) ((i * 4) + 3)))] [] U39 ?_
            have e41 : U39 103 p 15 = T1 103 p 15 := fU39 103 p 15 rfl
            have e42 : U39 103 p 3 = T1 103 p 3 := fU39 103 p 3 rfl
            have d9 : U39 190 (U39 103 p 16) (-2) = 2 * (T1 190 (T1 103 p 16) (-2)) := lz_2 i4 zU39 (by omega) (by omega)
            have u0 : T1 190 (T 103 p 14) (i * 4) = T 190 (T 103 p 14) (i * 4) := rr1 _ (by omega) (by omega)
            have u1 : T1 190 (T 103 p 14) (i * 4 + 1) = T 190 (T 103 p 14) (i * 4 + 1) := rr1 _ (by omega) (by omega)
            have u2 : T1 190 (T 103 p 14) (i * 4 + 2) = T 190 (T 103 p 14) (i * 4 + 2) := rr1 _ (by omega) (by omega)
            have u3 : T1 190 (T 103 p 14) (i * 4 + 3) = T 190 (T 103 p 14) (i * 4 + 3) := rr1 _ (by omega) (by omega)
            have er : ra9_ T (T 103 p 14) i = (T1 190 (T 103 p 14) (i * 4), T1 190 (T 103 p 14) (i * 4 + 1), T1 190 (T 103 p 14) (i * 4 + 2), T1 190 (T 103 p 14) (i * 4 + 3)) := by
              unfold ra9_
              rw [u0, u1, u2, u3]
            have en : rnH_ ru (bb9_ ru (rs9_ T p)) (hr9_ T (T 103 p 14) (i + 1).toNat) = stH_ ru (rnH_ ru (bb9_ ru (rs9_ T p)) (hr9_ T (T 103 p 14) i.toNat)) (ra9_ T (T 103 p 14) i) := by rw [hrw_t (by omega)]; exact rnH_a
            have en2 : rnH_ ru (bb9_ ru (rs9_ T p)) (hr9_ T (T 103 p 14) (i + 1).toNat) = ((rnH_ ru (bb9_ ru (rs9_ T p)) (hr9_ T (T 103 p 14) i.toNat)).1, (rnH_ ru (bb9_ ru (rs9_ T p)) (hr9_ T (T 103 p 14) i.toNat)).2.1, (rnH_ ru (bb9_ ru (rs9_ T p)) (hr9_ T (T 103 p 14) i.toNat)).2.2 + 1) := by rw [en, er]; exact stH_f (by rw [← fo1]; omega)
            have fa : rs9_ U39 p = (rnH_ ru (bb9_ ru (rs9_ T p)) (hr9_ T (T 103 p 14) (i + 1).toNat)).1 := by
              rw [en2, rs_w fU39 (fun k j d => by rcases dk_c d with rfl | rfl | rfl | rfl | rfl | rfl | rfl | rfl | rfl | rfl | ⟨rfl, rfl | rfl | rfl⟩ <;> rfl)]
              exact fo1
            have fb : hr9_ U39 (T 103 p 14) (U39 103 p 15).toNat = (rnH_ ru (bb9_ ru (rs9_ T p)) (hr9_ T (T 103 p 14) (i + 1).toNat)).2.1 := by
              rw [en2, show U39 103 p 15 = T1 103 p 15 from fU39 103 p 15 rfl, hrw_e (T := T1) (a := T 103 p 14) (fun j _ _ => xU39 _ j (by omega) (by omega))]
              exact fo2
            have fc : U39 103 p 17 - T 103 p 17 = (rnH_ ru (bb9_ ru (rs9_ T p)) (hr9_ T (T 103 p 14) (i + 1).toNat)).2.2 := by
              rw [en2]
              show _ = (rnH_ ru (bb9_ ru (rs9_ T p)) (hr9_ T (T 103 p 14) i.toNat)).2.2 + 1
              rw [← fo3]
              omega
            refine j_drop [some (vR 103 p), some (vI (T 103 p 15)), some (vI (T 103 p 17)), some (vI (i + 1)), none, none, none, none] (fun k v hk => ?_) rfl ?_
            · match k, hk with
              | 0, hk => exact hk
              | 1, hk => exact hk
              | 2, hk => exact hk
              | 3, hk => exact hk
              | 4, hk => cases hk
              | 5, hk => cases hk
              | 6, hk => cases hk
              | 7, hk => cases hk
              | k + 8, hk => cases hk
            refine j_mono (bc' := (((2048 - U39 190 (U39 103 p 16) (-2)) / 16).toNat)) (bs' := ((4096 - 2 * U39 190 (U39 103 p 16) (-2)).toNat)) (by omega) (by omega) ?_
            have e43 : U39 103 p 15 = T1 103 p 15 := fU39 103 p 15 rfl
            have e44 : U39 103 p 3 = T1 103 p 3 := fU39 103 p 3 rfl
            have e45 : U39 470 p 0 = T1 470 p 0 := fU39 470 p 0 rfl
            have e46 : U39 470 p 1 = T1 470 p 1 := fU39 470 p 1 rfl
            refine ih_21 _ ?_ (i + 1) U39 (Nat.le_refl _) ?_ ?_ ?_ ?_ ?_ ?_ ?_ ?_ ?_ ?_ ?_ ?_ ?_ ?_ ?_
            · have hm_21 := hm_21 (); omega
            · exact fr_t (fr_t (fr_0 _ _) (fr_s hf_21 rfl)) (fr_s fU39 rfl)
            · exact oq_t (oT1) qU39o
            · exact fun x hx => (lU39 x (by omega)).trans (lT1 x hx)
            · omega
            · omega
            · omega
            · exact zU39
            · omega
            · intro z9
              have y1 := i6 (by omega)
              have y2 : U39 470 p 0 = T1 470 p 0 := fU39 470 p 0 rfl
              have y3 : U39 470 p 1 = T1 470 p 1 := fU39 470 p 1 rfl
              omega
            · rcases gU39 with z | z
              · omega
              · omega
            · exact fun j a b => (xU39 _ j (by omega) (by omega)).trans (rr1 j (by omega) b)
            · exact fun x j a b c => (xU39 x j (by omega) (by omega)).trans (xx1 x j a b c)
            · exact fa
            · exact fb
            · exact fc
        · refine hK 96 _ [vI (T1 190 (T 103 p 14) ((i * 4) + 3)), vI (T1 190 (T 103 p 14) ((i * 4) + 2)), vI (T1 190 (T 103 p 14) ((i * 4) + 1)), vI (T1 190 (T 103 p 14) (i * 4)), vR 103 p] T1 ?_
          have e47 : T1 103 p 0 = T 103 p 0 := hf_21 103 p 0 rfl
          have e48 : T1 401 (T 103 p 0) 0 = T 401 (T 103 p 0) 0 := hf_21 401 (T 103 p 0) 0 rfl
          have r49 : T1 401 (T1 103 p 0) 0 = T 401 (T 103 p 0) 0 := by rw [e47]; exact e48
          have e50 : T1 103 p 0 = T 103 p 0 := hf_21 103 p 0 rfl
          have e51 : T1 401 (T 103 p 0) 0 = T 401 (T 103 p 0) 0 := hf_21 401 (T 103 p 0) 0 rfl
          have r52 : T1 401 (T1 103 p 0) 0 = T 401 (T 103 p 0) 0 := by rw [e50]; exact e51
          have e53 : T1 103 p 0 = T 103 p 0 := hf_21 103 p 0 rfl
          have e54 : T1 401 (T 103 p 0) 0 = T 401 (T 103 p 0) 0 := hf_21 401 (T 103 p 0) 0 rfl
          have r55 : T1 401 (T1 103 p 0) 0 = T 401 (T 103 p 0) 0 := by rw [e53]; exact e54
          have e56 : T1 103 p 0 = T 103 p 0 := hf_21 103 p 0 rfl
          have e57 : T1 401 (T 103 p 0) 0 = T 401 (T 103 p 0) 0 := hf_21 401 (T 103 p 0) 0 rfl
          have r58 : T1 401 (T1 103 p 0) 0 = T 401 (T 103 p 0) 0 := by rw [e56]; exact e57
          have e59 : T1 103 p 0 = T 103 p 0 := hf_21 103 p 0 rfl
          have e60 : T1 401 (T 103 p 0) 0 = T 401 (T 103 p 0) 0 := hf_21 401 (T 103 p 0) 0 rfl
          have r61 : T1 401 (T1 103 p 0) 0 = T 401 (T 103 p 0) 0 := by rw [e59]; exact e60
          have e62 : T1 103 p 0 = T 103 p 0 := hf_21 103 p 0 rfl
          have e63 : T1 401 (T 103 p 0) 0 = T 401 (T 103 p 0) 0 := hf_21 401 (T 103 p 0) 0 rfl
          have r64 : T1 401 (T1 103 p 0) 0 = T 401 (T 103 p 0) 0 := by rw [e62]; exact e63
          have e65 : T1 103 p 0 = T 103 p 0 := hf_21 103 p 0 rfl
          have e66 : T1 401 (T 103 p 0) 9 = T 401 (T 103 p 0) 9 := hf_21 401 (T 103 p 0) 9 rfl
          have r67 : T1 401 (T1 103 p 0) 9 = T 401 (T 103 p 0) 9 := by rw [e65]; exact e66
          have e68 : T1 103 p 0 = T 103 p 0 := hf_21 103 p 0 rfl
          have e69 : T1 401 (T 103 p 0) 9 = T 401 (T 103 p 0) 9 := hf_21 401 (T 103 p 0) 9 rfl
          have r70 : T1 401 (T1 103 p 0) 9 = T 401 (T 103 p 0) 9 := by rw [e68]; exact e69
          have e71 : T1 103 p 0 = T 103 p 0 := hf_21 103 p 0 rfl
          have e72 : T1 103 p 0 = T 103 p 0 := hf_21 103 p 0 rfl
          have g7 := hx23.1.2.2 (by omega)
          have g4 : T1 103 p 3 = 0 := by
            have y9 := (lw_0 (hx23.2.symm.trans (by omega))).1
            rw [rs_d rfl] at y9
            exact y9
          have g8 := i6 g4
          refine j_callV (y := yX3_carryOut) (Yc := zX3_carryOut) (rest := []) [vI (T1 190 (T 103 p 14) (i * 4)), vI (T1 190 (T 103 p 14) ((i * 4) + 1)), vI (T1 190 (T 103 p 14) ((i * 4) + 2)), vI (T1 190 (T 103 p 14) ((i * 4) + 3))] (ct_X3_carryOut_e (T := T1) (ru := ru) (by exact rl_f (ws := [(103, [3, 4, 5, 15, 16, 17]), (466, []), (467, []), (468, []), (469, []), (472, []), (473, []), (470, []), (471, []), (190, []), (191, [0])]) hr (fr_t (fr_0 _ _) (fr_s hf_21 rfl)) rfl (fun _ => rfl)) (by exact g7) (by omega) (by omega)) cl_X3_175 (qd_c (by decide +kernel)) (by decide) rfl (by decide +kernel) (Nat.le_of_ble_eq_true rfl) (by first | decide | (simp only [zX3_carryOut]; omega)) (by first | decide | (simp only [zX3_carryOut]; omega)) rfl ?_
          rintro U73 _ ⟨rfl, fU73, qU73o, qU73, qU73e⟩
          show J_ zX3_runAnew T (po_X3_runAnew_e T p ru) (((2048 - T1 190 (T1 103 p 16) (-2)) / 16).toNat) ((4096 - 2 * T1 190 (T1 103 p 16) (-2)).toNat) 99 _ [] U73
          refine j_blx (F := fX3) tb_X3 (nn_ _) bk_X3_runAnew_e_99 bs_X3_runAnew_e_99 hz (fun K hK => ?_)
          refine hK 108 _ [vI (T1 190 (T 103 p 14) ((i * 4) + 3)), vI (T1 190 (T 103 p 14) ((i * 4) + 2)), vI (T1 190 (T 103 p 14) ((i * 4) + 1)), vI (T1 190 (T 103 p 14) (i * 4)), vR 103 p] U73 ?_
          have e74 : U73 103 p 15 = T1 103 p 15 := fU73 103 p 15 rfl
          have e75 : U73 103 p 14 = T 103 p 14 := (fU73 103 p 14 rfl).trans (hf_21 103 p 14 rfl)
          have e76 : U73 191 0 0 = T1 191 0 0 := fU73 191 0 0 rfl
          have y77 : U73 103 p 14 = T 103 p 14 := (fU73 103 p 14 rfl).trans (hf_21 103 p 14 rfl)
          have y78 : U73 190 (U73 103 p 14) (-2) = T 190 (T 103 p 14) (-2) := by rw [y77]; exact (fU73 190 _ _ rfl).trans (lT1 _ (by omega))
          refine j_callV (y := yX3_keepRow) (Yc := zX3_keepRow0) (rest := []) [vI (T1 190 (T 103 p 14) (i * 4)), vI (T1 190 (T 103 p 14) ((i * 4) + 1)), vI (T1 190 (T 103 p 14) ((i * 4) + 2)), vI (T1 190 (T 103 p 14) ((i * 4) + 3))] (ct_X3_keepRow0_e (T := U73) (by omega) (by omega) (by omega)) cl_X3_179_zX3_keepRow0 (qd_c (by decide +kernel)) (by decide) rfl (by decide +kernel) (Nat.le_of_ble_eq_true rfl) (by first | decide | (simp only [zX3_keepRow0]; omega)) (by first | decide | (simp only [zX3_keepRow0]; omega)) rfl ?_
          rintro U79 _ ⟨rfl, fU79, qU79o, nU79, lU79, xU79, bU79⟩
          show J_ zX3_runAnew T (po_X3_runAnew_e T p ru) (((2048 - T1 190 (T1 103 p 16) (-2)) / 16).toNat) ((4096 - 2 * T1 190 (T1 103 p 16) (-2)).toNat) 111 _ [] U79
          refine j_blx (F := fX3) tb_X3 (nn_ _) bk_X3_runAnew_e_111 bs_X3_runAnew_e_111 hz (fun K hK => ?_)
          refine hK 126 _ [] U79 ?_
          refine j_blx (F := fX3) tb_X3 (nn_ _) bk_X3_runAnew_e_126 bs_X3_runAnew_e_126 hz (fun K hK => ?_)
          refine rg_i (by omega) ?_
          refine hK 21 [some (vR 103 p), some (vI (T 103 p 15)), some (vI (T 103 p 17)), some (vI (i + 1)), some (vI (T1 190 (T 103 p 14) (i * 4))), some (vI (T1 190 (T 103 p 14) ((i * 4) + 1))), some (vI (T1 190 (T 103 p 14) ((i * 4) + 2))), some (vI (T1 190 (T 103 p 14) ((i * 4) + 3)))] [] U79 ?_
          have e81 : U79 103 p 17 = T1 103 p 17 := (fU79 103 p 17 rfl).trans (fU73 103 p 17 rfl)
          have e82 : U79 103 p 16 = T1 103 p 16 := (fU79 103 p 16 rfl).trans (fU73 103 p 16 rfl)
          have e83 : U79 103 p 3 = U73 103 p 3 := fU79 103 p 3 rfl
          have e84 : U79 191 0 0 = T1 191 0 0 := (fU79 191 0 0 rfl).trans (fU73 191 0 0 rfl)
          have y85 : U79 103 p 16 = T1 103 p 16 := (fU79 103 p 16 rfl).trans (fU73 103 p 16 rfl)
          have d9 : U79 190 (U79 103 p 16) (-2) = T1 190 (T1 103 p 16) (-2) := by rw [y85]; exact (lU79 _ (by omega)).trans (fU73 190 _ _ rfl)
          have u0 : T1 190 (T 103 p 14) (i * 4) = T 190 (T 103 p 14) (i * 4) := rr1 _ (by omega) (by omega)
          have u1 : T1 190 (T 103 p 14) (i * 4 + 1) = T 190 (T 103 p 14) (i * 4 + 1) := rr1 _ (by omega) (by omega)
          have u2 : T1 190 (T 103 p 14) (i * 4 + 2) = T 190 (T 103 p 14) (i * 4 + 2) := rr1 _ (by omega) (by omega)
          have u3 : T1 190 (T 103 p 14) (i * 4 + 3) = T 190 (T 103 p 14) (i * 4 + 3) := rr1 _ (by omega) (by omega)
          have er : ra9_ T (T 103 p 14) i = (T1 190 (T 103 p 14) (i * 4), T1 190 (T 103 p 14) (i * 4 + 1), T1 190 (T 103 p 14) (i * 4 + 2), T1 190 (T 103 p 14) (i * 4 + 3)) := by
            unfold ra9_
            rw [u0, u1, u2, u3]
          have en : rnH_ ru (bb9_ ru (rs9_ T p)) (hr9_ T (T 103 p 14) (i + 1).toNat) = stH_ ru (rnH_ ru (bb9_ ru (rs9_ T p)) (hr9_ T (T 103 p 14) i.toNat)) (ra9_ T (T 103 p 14) i) := by rw [hrw_t (by omega)]; exact rnH_a
          have g9 : U73 103 p 14 = T 103 p 14 := (fU73 103 p 14 rfl).trans (hf_21 103 p 14 rfl)
          have g6 : U79 103 p 14 = T 103 p 14 := (fU79 103 p 14 rfl).trans g9
          have g5 : U73 103 p 15 = T1 103 p 15 := fU73 103 p 15 rfl
          have en2 : rnH_ ru (bb9_ ru (rs9_ T p)) (hr9_ T (T 103 p 14) (i + 1).toNat) = (ca9_ ru (rnH_ ru (bb9_ ru (rs9_ T p)) (hr9_ T (T 103 p 14) i.toNat)).1 (T1 190 (T 103 p 14) (i * 4)) (T1 190 (T 103 p 14) (i * 4 + 1)) (T1 190 (T 103 p 14) (i * 4 + 2)) (T1 190 (T 103 p 14) (i * 4 + 3)), (rnH_ ru (bb9_ ru (rs9_ T p)) (hr9_ T (T 103 p 14) i.toNat)).2.1 ++ [(T1 190 (T 103 p 14) (i * 4), T1 190 (T 103 p 14) (i * 4 + 1), T1 190 (T 103 p 14) (i * 4 + 2), T1 190 (T 103 p 14) (i * 4 + 3))], (rnH_ ru (bb9_ ru (rs9_ T p)) (hr9_ T (T 103 p 14) i.toNat)).2.2) := by rw [en, er]; exact stH_t (by rw [← fo1]; omega)
          have fa : rs9_ U79 p = (rnH_ ru (bb9_ ru (rs9_ T p)) (hr9_ T (T 103 p 14) (i + 1).toNat)).1 := by
            rw [en2]
            show _ = ca9_ ru (rnH_ ru (bb9_ ru (rs9_ T p)) (hr9_ T (T 103 p 14) i.toNat)).1 (T1 190 (T 103 p 14) (i * 4)) (T1 190 (T 103 p 14) (i * 4 + 1)) (T1 190 (T 103 p 14) (i * 4 + 2)) (T1 190 (T 103 p 14) (i * 4 + 3))
            rw [← fo1, rs_w fU79 (fun k j d => by rcases dk_c d with rfl | rfl | rfl | rfl | rfl | rfl | rfl | rfl | rfl | rfl | ⟨rfl, rfl | rfl | rfl⟩ <;> rfl)]
            exact qU73e
          have fb : hr9_ U79 (T 103 p 14) (U79 103 p 15).toNat = (rnH_ ru (bb9_ ru (rs9_ T p)) (hr9_ T (T 103 p 14) (i + 1).toNat)).2.1 := by
            rw [en2]
            have b9 := bU79
            rw [g6, g9, g5, hrw_e (T := T1) (a := T 103 p 14) (fun j _ _ => fU73 190 _ j rfl), fo2] at b9
            exact b9
          have fc : U79 103 p 17 - T 103 p 17 = (rnH_ ru (bb9_ ru (rs9_ T p)) (hr9_ T (T 103 p 14) (i + 1).toNat)).2.2 := by
            rw [en2]
            show _ = (rnH_ ru (bb9_ ru (rs9_ T p)) (hr9_ T (T 103 p 14) i.toNat)).2.2
            rw [← fo3]
            omega
          refine j_drop [some (vR 103 p), some (vI (T 103 p 15)), some (vI (T 103 p 17)), some (vI (i + 1)), none, none, none, none] (fun k v hk => ?_) rfl ?_
          · match k, hk with
            | 0, hk => exact hk
            | 1, hk => exact hk
            | 2, hk => exact hk
            | 3, hk => exact hk
            | 4, hk => cases hk
            | 5, hk => cases hk
            | 6, hk => cases hk
            | 7, hk => cases hk
            | k + 8, hk => cases hk
          refine j_mono (bc' := (((2048 - U79 190 (U79 103 p 16) (-2)) / 16).toNat)) (bs' := ((4096 - 2 * U79 190 (U79 103 p 16) (-2)).toNat)) (by omega) (by omega) ?_
          have e86 : U79 103 p 17 = T1 103 p 17 := (fU79 103 p 17 rfl).trans (fU73 103 p 17 rfl)
          have e87 : U79 103 p 16 = T1 103 p 16 := (fU79 103 p 16 rfl).trans (fU73 103 p 16 rfl)
          have e88 : U79 103 p 3 = U73 103 p 3 := fU79 103 p 3 rfl
          have e89 : U79 470 p 0 = U73 470 p 0 := fU79 470 p 0 rfl
          have e90 : U79 470 p 1 = U73 470 p 1 := fU79 470 p 1 rfl
          have e91 : U79 191 0 0 = T1 191 0 0 := (fU79 191 0 0 rfl).trans (fU73 191 0 0 rfl)
          refine ih_21 _ ?_ (i + 1) U79 (Nat.le_refl _) ?_ ?_ ?_ ?_ ?_ ?_ ?_ ?_ ?_ ?_ ?_ ?_ ?_ ?_ ?_
          · have hm_21 := hm_21 (); omega
          · exact fr_t (fr_t (fr_t (fr_0 _ _) (fr_s hf_21 rfl)) (fr_s fU73 rfl)) (fr_s fU79 rfl)
          · exact oq_t (oq_i (oT1) qU73o) qU79o
          · exact fun x hx => (lU79 x (by omega)).trans ((fU73 190 x (-2) rfl).trans (lT1 x hx))
          · omega
          · omega
          · omega
          · rw [d9]; exact i4
          · omega
          · intro z9
            have y1 := qU73 (by omega)
            have y2 : U79 470 p 0 = U73 470 p 0 := fU79 470 p 0 rfl
            have y3 : U79 470 p 1 = U73 470 p 1 := fU79 470 p 1 rfl
            omega
          · omega
          · exact fun j a b => (xU79 _ j (fun z => by omega)).trans ((fU73 190 _ j rfl).trans (rr1 j (by omega) b))
          · exact fun x j a b c => (xU79 x j (fun z => by omega)).trans ((fU73 190 x j rfl).trans (xx1 x j a b c))
          · exact fa
          · exact fb
          · exact fc
  refine j_blx (F := fX3) tb_X3 (nn_ _) bk_X3_runAnew_e_0 bs_X3_runAnew_e_0 hz (fun K hK => ?_)
  intro b92 b92b
  intro b93 b93b
  refine bd_i (by omega) ?_
  refine x_nm (fun U94 hU94 => ?_)
  have e95 := up_f hU94
  refine hK 16 [some (vR 103 p), some (vI (T 103 p 15)), some (vI (T 103 p 17)), none, none, none, none, none] [vR 103 p] U94 ?_
  have e96 : U94 103 p 0 = T 103 p 0 := up_j hU94 (by decide) 103 p
  have e97 : U94 401 (T 103 p 0) 9 = T 401 (T 103 p 0) 9 := up_k hU94 (by exact Nat.ne_of_beq_eq_false rfl) (T 103 p 0) 9
  have r98 : U94 401 (U94 103 p 0) 9 = T 401 (T 103 p 0) 9 := by rw [e96]; exact e97
  have e99 : U94 103 p 0 = T 103 p 0 := up_j hU94 (by decide) 103 p
  have e100 : U94 401 (T 103 p 0) 9 = T 401 (T 103 p 0) 9 := up_k hU94 (by exact Nat.ne_of_beq_eq_false rfl) (T 103 p 0) 9
  have r101 : U94 401 (U94 103 p 0) 9 = T 401 (T 103 p 0) 9 := by rw [e99]; exact e100
  have e102 : U94 103 p 0 = T 103 p 0 := up_j hU94 (by decide) 103 p
  refine j_callV (y := yX3_backToBeginning) (Yc := zX3_backToBeginning) (rest := []) [] (ct_X3_backToBeginning_e (T := U94) (ru := ru) (by exact rl_f (ws := [(103, [15])]) hr (fr_u (fr_0 _ _) hU94 rfl) rfl (fun _ => rfl)) (by omega)) cl_X3_168 (qd_c (by decide +kernel)) (nn_ _) rfl (rf_of rfl) (Nat.le_of_ble_eq_true rfl) (Nat.le_of_ble_eq_true rfl) (Nat.le_of_ble_eq_true rfl) rfl ?_
  rintro U103 _ ⟨rfl, fU103, qU103o, qU103, qU103e⟩
  show J_ zX3_runAnew T (po_X3_runAnew_e T p ru) 127 4064 19 _ [] U103
  refine j_blx (F := fX3) tb_X3 (nn_ _) bk_X3_runAnew_e_19 bs_X3_runAnew_e_19 hz (fun K hK => ?_)
  refine hK 21 [some (vR 103 p), some (vI (T 103 p 15)), some (vI (T 103 p 17)), some (vI 0), none, none, none, none] [] U103 ?_
  have e104 : U103 103 p 15 = 0 := (fU103 103 p 15 rfl).trans (up_f hU94)
  have e105 : U103 103 p 17 = T 103 p 17 := (fU103 103 p 17 rfl).trans (up_j hU94 (by decide) 103 p)
  have e106 : U103 103 p 16 = T 103 p 16 := (fU103 103 p 16 rfl).trans (up_j hU94 (by decide) 103 p)
  have e107 : U103 191 0 0 = T 191 0 0 := (fU103 191 0 0 rfl).trans (up_k hU94 (by exact Nat.ne_of_beq_eq_false rfl) 0 0)
  have y108 : U103 103 p 16 = T 103 p 16 := (fU103 103 _ _ rfl).trans (up_j hU94 (by decide) _ _)
  have d9 : U103 190 (U103 103 p 16) (-2) = T 190 (T 103 p 16) (-2) := by rw [y108]; exact (fU103 190 _ _ rfl).trans (up_k hU94 (by exact Nat.ne_of_beq_eq_false rfl) _ _)
  have fa : rs9_ U103 p = (rnH_ ru (bb9_ ru (rs9_ T p)) (hr9_ T (T 103 p 14) (0 : Int).toNat)).1 := by
    show _ = bb9_ ru (rs9_ T p)
    rw [qU103e, rs_n (T := T) (fun k j d => up_g hU94 (fun z => by rcases dk_c d with y | y | y | y | y | y | y | y | y | y | ⟨y, y2 | y2 | y2⟩ <;> omega))]
  have fb : hr9_ U103 (T 103 p 14) (U103 103 p 15).toNat = (rnH_ ru (bb9_ ru (rs9_ T p)) (hr9_ T (T 103 p 14) (0 : Int).toNat)).2.1 := by
    rw [show U103 103 p 15 = 0 by omega]
    rfl
  have fc : U103 103 p 17 - T 103 p 17 = (rnH_ ru (bb9_ ru (rs9_ T p)) (hr9_ T (T 103 p 14) (0 : Int).toNat)).2.2 := by
    show _ = (0 : Int)
    omega
  refine j_mono (bc' := (((2048 - U103 190 (U103 103 p 16) (-2)) / 16).toNat)) (bs' := ((4096 - 2 * U103 190 (U103 103 p 16) (-2)).toNat)) (by omega) (by omega) ?_
  have e109 : U103 103 p 15 = 0 := (fU103 103 p 15 rfl).trans (up_f hU94)
  have e110 : U103 103 p 17 = T 103 p 17 := (fU103 103 p 17 rfl).trans (up_j hU94 (by decide) 103 p)
  have e111 : U103 103 p 16 = T 103 p 16 := (fU103 103 p 16 rfl).trans (up_j hU94 (by decide) 103 p)
  have e112 : U103 191 0 0 = T 191 0 0 := (fU103 191 0 0 rfl).trans (up_k hU94 (by exact Nat.ne_of_beq_eq_false rfl) 0 0)
  refine c_21 _ 0 U103 (Nat.le_refl _) ?_ ?_ ?_ ?_ ?_ ?_ ?_ ?_ ?_ ?_ ?_ ?_ ?_ ?_ ?_
  · exact fr_t (fr_u (fr_0 _ _) hU94 rfl) (fr_s fU103 rfl)
  · exact oq_i (oq_u (oq_r) hU94) qU103o
  · exact fun x hx => (fU103 190 _ _ rfl).trans (up_k hU94 (by exact Nat.ne_of_beq_eq_false rfl) _ _)
  · omega
  · omega
  · omega
  · rw [d9]; exact hz9
  · omega
  · exact fun z9 => qU103.1
  · omega
  · exact fun j _ _ => (fU103 190 _ _ rfl).trans (up_k hU94 (by exact Nat.ne_of_beq_eq_false rfl) _ _)
  · exact fun x j _ _ _ => (fU103 190 _ _ rfl).trans (up_k hU94 (by exact Nat.ne_of_beq_eq_false rfl) _ _)
  · exact fa
  · exact fb
  · exact fc
/-- a run of rows, as the reference ends it -/
def RNR_ (r : Int → Int) (m x : Int) (T T' : Zt) (l : List Rw_) : Prop := ∃ b : Sg_, BGR_ m r (rp9_ T m) b ∧ rp9_ T' m = (rnR_ r m b l).1 ∧ rw9_ T' m = (rnR_ r m b l).2.1 ∧ x = (rnR_ r m b l).2.2 ∧ T' 256 0 m = T 256 0 m + x
/-- what holds of the other matches -/
def OMR_ (T T' : Zt) (m : Int) : Prop := ro9_ T T' m ∧ ∀ j, j ≠ m → 0 ≤ j → j < T 111 0 29 → rw9_ T' j = rw9_ T j ∧ T' 254 0 j = T 254 0 j ∧ T' 256 0 j = T 256 0 j
theorem om_r {T : Zt} {m : Int} : OMR_ T T m := ⟨ro_r, fun _ _ _ _ => ⟨rfl, rfl, rfl⟩⟩
theorem rp_xo {T T1 : Zt} {m : Int} (h : ∀ K j, K = 246 ∨ K = 244 ∨ K = 239 ∨ K = 245 ∨ K = 240 ∨ K = 241 ∨ K = 242 ∨ K = 243 ∨ K = 235 ∨ K = 236 ∨ K = 237 → T1 K 0 j = T K 0 j) : ro9_ T T1 m := fun _ _ => rp_x h
theorem bk_X11_putBehind_e_0 : ck_ fX11 none cX11_putBehind 0 [.iload 3, .ifCond .eq 13, .aload 0, .tableswitch 0 11 56 #[], .iload 1, .iaload, .goto 19] 13 = true := qck_r (nn_ _) (by decide +kernel)
theorem bs_X11_putBehind_e_0 {P : Zt → Option Zv → Prop} (K : Int → Zl → List Zv → Zt → Prop) : sx_ K P [.iload 3, .ifCond .eq 13, .aload 0, .tableswitch 0 11 56 #[], .iload 1, .iaload, .goto 19] 13 = x_iload 3 (x_ifCond .eq 13 K (x_aload 0 (x_g1 111 256 (x_iload 1 (x_iaload (x_goto 19 K)))))) := ((xe_iload 3).trans (congrArg (x_iload 3) ((xe_ifCond .eq 13).trans (congrArg (x_ifCond .eq 13 K) ((xe_aload 0).trans (congrArg (x_aload 0) ((xe_g1 (kk := 111) rfl tl_11_56).trans (congrArg (x_g1 111 256) ((xe_iload 1).trans (congrArg (x_iload 1) ((xe_iaload).trans (congrArg (x_iaload) (xe_goto 19)))))))))))))
theorem bk_X11_putBehind_e_13 : ck_ fX11 none cX11_putBehind 13 [.aload 0, .tableswitch 0 11 54 #[], .iload 1, .iaload, .istore 4, .aload 0, .tableswitch 0 11 52 #[], .iload 2, .iconst (-1), .iastore, .iload 4, .ifCond .le 69, .aload 0, .tableswitch 0 11 52 #[], .aload 0, .iload 3, .ifCond .eq 51, .aload 0, .tableswitch 0 11 55 #[], .iload 1, .iaload, .goto 57] 51 = true := qck_r (nn_ _) (by decide +kernel)
theorem bs_X11_putBehind_e_13 {P : Zt → Option Zv → Prop} (K : Int → Zl → List Zv → Zt → Prop) : sx_ K P [.aload 0, .tableswitch 0 11 54 #[], .iload 1, .iaload, .istore 4, .aload 0, .tableswitch 0 11 52 #[], .iload 2, .iconst (-1), .iastore, .iload 4, .ifCond .le 69, .aload 0, .tableswitch 0 11 52 #[], .aload 0, .iload 3, .ifCond .eq 51, .aload 0, .tableswitch 0 11 55 #[], .iload 1, .iaload, .goto 57] 51 = x_aload 0 (x_g1 111 254 (x_iload 1 (x_iaload (x_istore 4 (x_aload 0 (x_g1 111 252 (x_iload 2 (x_iconst (-1) (x_iastore (x_iload 4 (x_ifCond .le 69 K (x_aload 0 (x_g1 111 252 (x_aload 0 (x_iload 3 (x_ifCond .eq 51 K (x_aload 0 (x_g1 111 255 (x_iload 1 (x_iaload (x_goto 57 K))))))))))))))))))))) := ((xe_aload 0).trans (congrArg (x_aload 0) ((xe_g1 (kk := 111) rfl tl_11_54).trans (congrArg (x_g1 111 254) ((xe_iload 1).trans (congrArg (x_iload 1) ((xe_iaload).trans (congrArg (x_iaload) ((xe_istore 4).trans (congrArg (x_istore 4) ((xe_aload 0).trans (congrArg (x_aload 0) ((xe_g1 (kk := 111) rfl tl_11_52).trans (congrArg (x_g1 111 252) ((xe_iload 2).trans (congrArg (x_iload 2) ((xe_iconst (-1)).trans (congrArg (x_iconst (-1)) ((xe_iastore).trans (congrArg (x_iastore) ((xe_iload 4).trans (congrArg (x_iload 4) ((xe_ifCond .le 69).trans (congrArg (x_ifCond .le 69 K) ((xe_aload 0).trans (congrArg (x_aload 0) ((xe_g1 (kk := 111) rfl tl_11_52).trans (congrArg (x_g1 111 252) ((xe_aload 0).trans (congrArg (x_aload 0) ((xe_iload 3).trans (congrArg (x_iload 3) ((xe_ifCond .eq 51).trans (congrArg (x_ifCond .eq 51 K) ((xe_aload 0).trans (congrArg (x_aload 0) ((xe_g1 (kk := 111) rfl tl_11_55).trans (congrArg (x_g1 111 255) ((xe_iload 1).trans (congrArg (x_iload 1) ((xe_iaload).trans (congrArg (x_iaload) (xe_goto 57)))))))))))))))))))))))))))))))))))))))))))
theorem bk_X11_putBehind_e_69 : ck_ fX11 none cX11_putBehind 69 [.iload 3, .ifCond .eq 83, .aload 0, .tableswitch 0 11 55 #[], .iload 1, .iload 2, .iastore, .goto 90] 83 = true := qck_r (nn_ _) (by decide +kernel)
theorem bs_X11_putBehind_e_69 {P : Zt → Option Zv → Prop} (K : Int → Zl → List Zv → Zt → Prop) : sx_ K P [.iload 3, .ifCond .eq 83, .aload 0, .tableswitch 0 11 55 #[], .iload 1, .iload 2, .iastore, .goto 90] 83 = x_iload 3 (x_ifCond .eq 83 K (x_aload 0 (x_g1 111 255 (x_iload 1 (x_iload 2 (x_iastore (x_goto 90 K))))))) := ((xe_iload 3).trans (congrArg (x_iload 3) ((xe_ifCond .eq 83).trans (congrArg (x_ifCond .eq 83 K) ((xe_aload 0).trans (congrArg (x_aload 0) ((xe_g1 (kk := 111) rfl tl_11_55).trans (congrArg (x_g1 111 255) ((xe_iload 1).trans (congrArg (x_iload 1) ((xe_iload 2).trans (congrArg (x_iload 2) ((xe_iastore).trans (congrArg (x_iastore) (xe_goto 90)))))))))))))))
theorem bk_X11_putBehind_e_83 : ck_ fX11 none cX11_putBehind 83 [.aload 0, .tableswitch 0 11 53 #[], .iload 1, .iload 2, .iastore, .aload 0, .tableswitch 0 11 56 #[], .iload 1, .dup2, .iaload, .iload 3, .ifCond .eq 105, .iconst 1, .goto 106] 105 = true := qck_r (nn_ _) (by decide +kernel)
theorem bs_X11_putBehind_e_83 {P : Zt → Option Zv → Prop} (K : Int → Zl → List Zv → Zt → Prop) : sx_ K P [.aload 0, .tableswitch 0 11 53 #[], .iload 1, .iload 2, .iastore, .aload 0, .tableswitch 0 11 56 #[], .iload 1, .dup2, .iaload, .iload 3, .ifCond .eq 105, .iconst 1, .goto 106] 105 = x_aload 0 (x_g1 111 253 (x_iload 1 (x_iload 2 (x_iastore (x_aload 0 (x_g1 111 256 (x_iload 1 (x_dup2 (x_iaload (x_iload 3 (x_ifCond .eq 105 K (x_iconst 1 (x_goto 106 K))))))))))))) := ((xe_aload 0).trans (congrArg (x_aload 0) ((xe_g1 (kk := 111) rfl tl_11_53).trans (congrArg (x_g1 111 253) ((xe_iload 1).trans (congrArg (x_iload 1) ((xe_iload 2).trans (congrArg (x_iload 2) ((xe_iastore).trans (congrArg (x_iastore) ((xe_aload 0).trans (congrArg (x_aload 0) ((xe_g1 (kk := 111) rfl tl_11_56).trans (congrArg (x_g1 111 256) ((xe_iload 1).trans (congrArg (x_iload 1) ((xe_dup2).trans (congrArg (x_dup2) ((xe_iaload).trans (congrArg (x_iaload) ((xe_iload 3).trans (congrArg (x_iload 3) ((xe_ifCond .eq 105).trans (congrArg (x_ifCond .eq 105 K) ((xe_iconst 1).trans (congrArg (x_iconst 1) (xe_goto 106)))))))))))))))))))))))))))
theorem bk_X11_putBehind_e_105 : ck_ fX11 none cX11_putBehind 105 [.iconst 0, .iadd, .iastore, .aload 0, .tableswitch 0 11 54 #[], .iload 1, .dup2, .iaload, .iload 3, .ifCond .eq 123, .iconst 0, .goto 124] 123 = true := qck_r (nn_ _) (by decide +kernel)
theorem bs_X11_putBehind_e_105 {P : Zt → Option Zv → Prop} (K : Int → Zl → List Zv → Zt → Prop) : sx_ K P [.iconst 0, .iadd, .iastore, .aload 0, .tableswitch 0 11 54 #[], .iload 1, .dup2, .iaload, .iload 3, .ifCond .eq 123, .iconst 0, .goto 124] 123 = x_iconst 0 (x_iadd (x_iastore (x_aload 0 (x_g1 111 254 (x_iload 1 (x_dup2 (x_iaload (x_iload 3 (x_ifCond .eq 123 K (x_iconst 0 (x_goto 124 K))))))))))) := ((xe_iconst 0).trans (congrArg (x_iconst 0) ((xe_iadd).trans (congrArg (x_iadd) ((xe_iastore).trans (congrArg (x_iastore) ((xe_aload 0).trans (congrArg (x_aload 0) ((xe_g1 (kk := 111) rfl tl_11_54).trans (congrArg (x_g1 111 254) ((xe_iload 1).trans (congrArg (x_iload 1) ((xe_dup2).trans (congrArg (x_dup2) ((xe_iaload).trans (congrArg (x_iaload) ((xe_iload 3).trans (congrArg (x_iload 3) ((xe_ifCond .eq 123).trans (congrArg (x_ifCond .eq 123 K) ((xe_iconst 0).trans (congrArg (x_iconst 0) (xe_goto 124)))))))))))))))))))))))
theorem bk_X11_putBehind_e_123 : ck_ fX11 none cX11_putBehind 123 [.iconst 1, .iadd, .iastore, .return_] 127 = true := qck_r (nn_ _) (by decide +kernel)
theorem bs_X11_putBehind_e_123 {P : Zt → Option Zv → Prop} (K : Int → Zl → List Zv → Zt → Prop) : sx_ K P [.iconst 1, .iadd, .iastore, .return_] 127 = x_iconst 1 (x_iadd (x_iastore (x_return_ P))) := ((xe_iconst 1).trans (congrArg (x_iconst 1) ((xe_iadd).trans (congrArg (x_iadd) ((xe_iastore).trans (congrArg (x_iastore) (xe_return_)))))))
theorem bk_X11_putBehind_e_51 : ck_ fX11 none cX11_putBehind 51 [.aload 0, .tableswitch 0 11 53 #[], .iload 1, .iaload, .iload 4, .iconst 1, .isub] 61 = true := qck_r (nn_ _) (by decide +kernel)
theorem bs_X11_putBehind_e_51 {P : Zt → Option Zv → Prop} (K : Int → Zl → List Zv → Zt → Prop) : sx_ K P [.aload 0, .tableswitch 0 11 53 #[], .iload 1, .iaload, .iload 4, .iconst 1, .isub] 61 = x_aload 0 (x_g1 111 253 (x_iload 1 (x_iaload (x_iload 4 (x_iconst 1 (x_isub (K 61))))))) := ((xe_aload 0).trans (congrArg (x_aload 0) ((xe_g1 (kk := 111) rfl tl_11_53).trans (congrArg (x_g1 111 253) ((xe_iload 1).trans (congrArg (x_iload 1) ((xe_iaload).trans (congrArg (x_iaload) ((xe_iload 4).trans (congrArg (x_iload 4) ((xe_iconst 1).trans (congrArg (x_iconst 1) ((xe_isub).trans (congrArg (x_isub) xe_nil))))))))))))))
theorem bk_X11_putBehind_e_64 : ck_ fX11 none cX11_putBehind 64 [.iload 2, .iastore, .goto 90] 69 = true := qck_r (nn_ _) (by decide +kernel)
theorem bs_X11_putBehind_e_64 {P : Zt → Option Zv → Prop} (K : Int → Zl → List Zv → Zt → Prop) : sx_ K P [.iload 2, .iastore, .goto 90] 69 = x_iload 2 (x_iastore (x_goto 90 K)) := ((xe_iload 2).trans (congrArg (x_iload 2) ((xe_iastore).trans (congrArg (x_iastore) (xe_goto 90)))))
theorem bk_X11_putBehind_e_90 : ck_ fX11 none cX11_putBehind 90 [.aload 0, .tableswitch 0 11 56 #[], .iload 1, .dup2, .iaload, .iload 3, .ifCond .eq 105, .iconst 1, .goto 106] 105 = true := qck_r (nn_ _) (by decide +kernel)
theorem bs_X11_putBehind_e_90 {P : Zt → Option Zv → Prop} (K : Int → Zl → List Zv → Zt → Prop) : sx_ K P [.aload 0, .tableswitch 0 11 56 #[], .iload 1, .dup2, .iaload, .iload 3, .ifCond .eq 105, .iconst 1, .goto 106] 105 = x_aload 0 (x_g1 111 256 (x_iload 1 (x_dup2 (x_iaload (x_iload 3 (x_ifCond .eq 105 K (x_iconst 1 (x_goto 106 K)))))))) := ((xe_aload 0).trans (congrArg (x_aload 0) ((xe_g1 (kk := 111) rfl tl_11_56).trans (congrArg (x_g1 111 256) ((xe_iload 1).trans (congrArg (x_iload 1) ((xe_dup2).trans (congrArg (x_dup2) ((xe_iaload).trans (congrArg (x_iaload) ((xe_iload 3).trans (congrArg (x_iload 3) ((xe_ifCond .eq 105).trans (congrArg (x_ifCond .eq 105 K) ((xe_iconst 1).trans (congrArg (x_iconst 1) (xe_goto 106)))))))))))))))))
abbrev po_X11_putBehind_0_e (T : Zt) (rest : List Int) (m x : Int) : Zt → Option Zv → Prop := fun T' r => r = none ∧ fr_ [(252, []), (253, []), (254, []), (256, [])] T T' ∧ (RX_ T' rest ∧ (∀ z ∈ rest, T' 252 0 z = T 252 0 z) ∧ T' 254 0 m = T 254 0 m + 1 ∧ (∀ j, j ≠ m → T' 254 0 j = T 254 0 j) ∧ T' 254 0 m ≤ 3000 ∧ (∀ j, j ≠ m → T' 256 0 j = T 256 0 j) ∧ T' 256 0 m = T 256 0 m + 0 ∧ rw9_ T' m = rw9_ T m ++ [rwc_ T x] ∧ ∀ j, j ≠ m → 0 ≤ j → j < T 111 0 29 → rw9_ T' j = rw9_ T j)
set_option maxHeartbeats 4000000 in
theorem ct_X11_putBehind_0_e {T : Zt} {rest : List Int} {m x : Int} (h1 : 0 ≤ m ∧ m < T 111 0 29) (hx : RX_ T (x :: rest)) : Ct_ yX11_putBehind zX11_putBehind T [vR 111 0, vI m, vI x, vI 0] (po_X11_putBehind_0_e T rest m x) := by
  refine ct_of pn_11 rfl rfl (Nat.le_of_ble_eq_true rfl) (fun hT hav => ?_)
  have hr_m : -2147483648 ≤ m ∧ m ≤ 2147483647 := hav (vI m) (List.mem_cons_of_mem _ List.mem_cons_self)
  have hr_x : -2147483648 ≤ x ∧ x ≤ 2147483647 := hav (vI x) (List.mem_cons_of_mem _ (List.mem_cons_of_mem _ List.mem_cons_self))
  have hz : zX11_putBehind.2.2.2.1 = some .boolean → ∀ (T' : Zt) (x9 : Int), po_X11_putBehind_0_e T rest m x T' (some (vI x9)) → 0 ≤ x9 ∧ x9 ≤ 1 := fun h => by cases h
  have hb_29 : 0 ≤ T 111 0 29 ∧ T 111 0 29 ≤ 400 := bd_f hT 111 29 tl_11_29 0
  have hb_47 : 0 ≤ T 111 0 47 ∧ T 111 0 47 ≤ 3000 := bd_f hT 111 47 tl_11_47 0
  obtain ⟨L, hB, hR⟩ := hx
  have hlm : lk_ T (T 253 0 m) (L m 0) ∧ T 254 0 m = ((L m 0).length : Int) := hB.1 m 0 (by omega) (by omega) (by decide) (by decide)
  have hxx := hR.1 x List.mem_cons_self
  have hxn : x ∉ L m 0 := hR.2.2 m 0 x List.mem_cons_self
  have hln := nd_len (l := x :: L m 0) (by omega) (List.forall_mem_cons.mpr ⟨hxx, hB.2.1 m 0⟩) (List.nodup_cons.mpr ⟨hxn, hB.2.2.1 m 0⟩)
  rw [List.length_cons] at hln
  show J_ zX11_putBehind T (po_X11_putBehind_0_e T rest m x) 0 0 0 [some (vR 111 0), some (vI m), some (vI x), some (vI 0), none] [] T
  refine j_blx (F := fX11) tb_X11 (nn_ _) bk_X11_putBehind_e_0 bs_X11_putBehind_e_0 hz (fun K hK => ?_)
  refine And.intro (fun c1 => ?_) (fun c1 => ?_)
  · refine hK 13 _ [] T ?_
    refine j_blx (F := fX11) tb_X11 (nn_ _) bk_X11_putBehind_e_13 bs_X11_putBehind_e_13 hz (fun K hK => ?_)
    refine ix_i (by omega) ?_
    intro b2 b2b
    refine iy_i (by omega) (by omega) ?_
    refine x_nm (fun U3 hU3 => ?_)
    have e4 := up_f hU3
    refine And.intro (fun c5 => ?_) (fun c5 => ?_)
    · refine hK 69 [some (vR 111 0), some (vI m), some (vI x), some (vI 0), some (vI (T 254 0 m))] [] U3 ?_
      refine j_blx (F := fX11) tb_X11 (nn_ _) bk_X11_putBehind_e_69 bs_X11_putBehind_e_69 hz (fun K hK => ?_)
      refine And.intro (fun c6 => ?_) (fun c6 => ?_)
      · refine hK 83 _ [] U3 ?_
        refine j_blx (F := fX11) tb_X11 (nn_ _) bk_X11_putBehind_e_83 bs_X11_putBehind_e_83 hz (fun K hK => ?_)
        refine iy_i (by omega) (by omega) ?_
        refine x_nm (fun U7 hU7 => ?_)
        have e8 := up_f hU7
        refine ix_i (by omega) ?_
        intro b9 b9b
        have e10 : U7 256 0 m = T 256 0 m := (up_k hU7 (by exact Nat.ne_of_beq_eq_false rfl) 0 m).trans (up_k hU3 (by exact Nat.ne_of_beq_eq_false rfl) 0 m)
        rw [e10] at b9 b9b ⊢
        refine And.intro (fun c11 => ?_) (fun c11 => ?_)
        · refine hK 105 _ [vI (T 256 0 m), vI m, vR 256 0] U7 ?_
          refine j_blx (F := fX11) tb_X11 (nn_ _) bk_X11_putBehind_e_105 bs_X11_putBehind_e_105 hz (fun K hK => ?_)
          refine rg_i (by omega) ?_
          refine iy_i (by omega) (by omega) ?_
          refine x_nm (fun U12 hU12 => ?_)
          have e13 := up_f hU12
          refine ix_i (by omega) ?_
          intro b14 b14b
          have e15 : U12 254 0 m = T 254 0 m := (up_k hU12 (by exact Nat.ne_of_beq_eq_false rfl) 0 m).trans ((up_k hU7 (by exact Nat.ne_of_beq_eq_false rfl) 0 m).trans (up_k hU3 (by exact Nat.ne_of_beq_eq_false rfl) 0 m))
          rw [e15] at b14 b14b ⊢
          refine And.intro (fun c16 => ?_) (fun c16 => ?_)
          · refine hK 123 _ [vI (T 254 0 m), vI m, vR 254 0] U12 ?_
            refine j_blx (F := fX11) tb_X11 (nn_ _) bk_X11_putBehind_e_123 bs_X11_putBehind_e_123 hz (fun K hK => ?_)
            refine rg_i (by omega) ?_
            refine iy_i (by omega) (by omega) ?_
            refine x_nm (fun U17 hU17 => ?_)
            have e18 := up_f hU17
            refine (show po_X11_putBehind_0_e T rest m x U17 (none) from ?_)
            have e19 : U17 254 0 m = (T 254 0 m) + 1 := up_f hU17
            have e20 : U17 256 0 m = (T 256 0 m) + 0 := (up_k hU17 (by exact Nat.ne_of_beq_eq_false rfl) 0 m).trans (up_f hU12)
            have fz : fr_ [(254, []), (256, []), (253, []), (252, [])] T U17 := fr_u (fr_u (fr_u (fr_u (fr_0 _ _) hU3 rfl) hU7 rfl) hU12 rfl) hU17 rfl
            have eo : ∀ j, U17 256 0 j = T 256 0 j := fun j => by
              by_cases z : j = m
              · rw [z, up_k hU17 (by exact Nat.ne_of_beq_eq_false rfl) 0 m, up_f hU12]; omega
              · exact (up_k hU17 (by exact Nat.ne_of_beq_eq_false rfl) 0 j).trans ((up_g hU12 (fun q => z q.2.2)).trans ((up_k hU7 (by exact Nat.ne_of_beq_eq_false rfl) 0 j).trans (up_k hU3 (by exact Nat.ne_of_beq_eq_false rfl) 0 j)))
            have ek : U17 254 0 m = T 254 0 m + 1 := by
              rw [up_f hU17]
            have e3 : U17 252 0 x = -1 := ((up_k hU17 (by exact Nat.ne_of_beq_eq_false rfl) 0 x).trans ((up_k hU12 (by exact Nat.ne_of_beq_eq_false rfl) 0 x).trans (up_k hU7 (by exact Nat.ne_of_beq_eq_false rfl) 0 x))).trans (up_f hU3)
            have ef : ∀ m' b', 0 ≤ b' → b' ≤ 1 → ¬ (m' = m ∧ b' = 0) → U17 (kf_ b') 0 m' = T (kf_ b') 0 m' ∧ U17 (km_ b') 0 m' = T (km_ b') 0 m' := by
              intro m' b' a c n
              rcases (by omega : b' = 0 ∨ b' = 1) with z | z
              · subst z; exact ⟨(up_k hU17 (by exact Nat.ne_of_beq_eq_false rfl) 0 (m')).trans ((up_k hU12 (by exact Nat.ne_of_beq_eq_false rfl) 0 (m')).trans ((up_g hU7 (fun q => n ⟨q.2.2, rfl⟩)).trans (up_k hU3 (by exact Nat.ne_of_beq_eq_false rfl) 0 (m')))), (up_g hU17 (fun q => n ⟨q.2.2, rfl⟩)).trans ((up_k hU12 (by exact Nat.ne_of_beq_eq_false rfl) 0 (m')).trans ((up_k hU7 (by exact Nat.ne_of_beq_eq_false rfl) 0 (m')).trans (up_k hU3 (by exact Nat.ne_of_beq_eq_false rfl) 0 (m'))))⟩
              · subst z; exact ⟨(up_k hU17 (by exact Nat.ne_of_beq_eq_false rfl) 0 (m')).trans ((up_k hU12 (by exact Nat.ne_of_beq_eq_false rfl) 0 (m')).trans ((up_k hU7 (by exact Nat.ne_of_beq_eq_false rfl) 0 (m')).trans (up_k hU3 (by exact Nat.ne_of_beq_eq_false rfl) 0 (m')))), eo m'⟩
            have hrp := rb_put (b := 0) (by decide) h1 hb_47.2 hB hR (fz 111 0 29 rfl) (fz 111 0 47 rfl) ef ek e3 (Or.inl ⟨List.eq_nil_of_length_eq_zero (by omega), ((up_k hU17 (by exact Nat.ne_of_beq_eq_false rfl) 0 m).trans (up_k hU12 (by exact Nat.ne_of_beq_eq_false rfl) 0 m)).trans (up_f hU7), fun z a => (up_k hU17 (by exact Nat.ne_of_beq_eq_false rfl) 0 z).trans ((up_k hU12 (by exact Nat.ne_of_beq_eq_false rfl) 0 z).trans ((up_k hU7 (by exact Nat.ne_of_beq_eq_false rfl) 0 z).trans (up_g hU3 (fun q => a q.2.2))))⟩)
            have rwp := rw_p hB hrp.1 (fz 111 0 29 rfl) (cl_k (fun k j h => fz k 0 j (by rcases h with rfl | rfl | rfl | rfl <;> rfl))) h1.1 h1.2
            exact ⟨rfl, fr_s fz rfl, ⟨_, hrp.1, hrp.2.1⟩, hrp.2.2, ek, fun j hj => (up_g hU17 (fun q => hj q.2.2)).trans ((up_k hU12 (by exact Nat.ne_of_beq_eq_false rfl) 0 j).trans ((up_k hU7 (by exact Nat.ne_of_beq_eq_false rfl) 0 j).trans (up_k hU3 (by exact Nat.ne_of_beq_eq_false rfl) 0 j))), by omega, fun j _ => eo j, by rw [eo m]; omega, rwp.1, rwp.2⟩
          · exact absurd c16 (by decide)
        · exact absurd c11 (by decide)
      · exact absurd c6 (by decide)
    · refine And.intro (fun c21 => ?_) (fun c21 => ?_)
      · refine hK 51 _ [vR 111 0, vR 252 0] U3 ?_
        refine j_blx (F := fX11) tb_X11 (nn_ _) bk_X11_putBehind_e_51 bs_X11_putBehind_e_51 hz (fun K hK => ?_)
        refine ix_i (by omega) ?_
        intro b22 b22b
        have e23 : U3 253 0 m = T 253 0 m := up_k hU3 (by exact Nat.ne_of_beq_eq_false rfl) 0 m
        rw [e23] at b22 b22b ⊢
        refine rg_i (by omega) ?_
        refine hK 61 _ [vI ((T 254 0 m) - 1), vI (T 253 0 m), vR 111 0, vR 252 0] U3 ?_
        refine j_callV (y := yX11_rowAt) (Yc := zX11_rowAt) (rest := [vR 252 0]) [vI (T 253 0 m), vI ((T 254 0 m) - 1)] (ct_X11_rowAt (T := U3) (l := L m 0) (by exact lk_e hlm.1 (fun z hz => up_g hU3 (fun q => hxn (q.2.2 ▸ hz)))) (by omega)) cl_X11_456 (qd_c (by decide +kernel)) (nn_ _) rfl (rf_of rfl) (Nat.le_of_ble_eq_true rfl) (Nat.le_of_ble_eq_true rfl) (Nat.le_of_ble_eq_true rfl) rfl ?_
        rintro _ _ ⟨rfl, x24, rfl, hx24⟩
        show J_ zX11_putBehind T (po_X11_putBehind_0_e T rest m x) 0 0 64 _ [vI x24, vR 252 0] U3
        have hyl : (L m 0).getLast? = some x24 := by
          rw [List.getLast?_eq_getElem?, show (L m 0).length - 1 = (T 254 0 m - 1).toNat by omega]; exact hx24.1
        have hyn : x ≠ x24 := fun e => hxn (by rw [e]; exact List.mem_of_getLast? hyl)
        refine j_blx (F := fX11) tb_X11 (nn_ _) bk_X11_putBehind_e_64 bs_X11_putBehind_e_64 hz (fun K hK => ?_)
        refine iy_i (by omega) (by omega) ?_
        refine x_nm (fun U25 hU25 => ?_)
        have e26 := up_f hU25
        refine hK 90 _ [] U25 ?_
        refine j_blx (F := fX11) tb_X11 (nn_ _) bk_X11_putBehind_e_90 bs_X11_putBehind_e_90 hz (fun K hK => ?_)
        refine ix_i (by omega) ?_
        intro b27 b27b
        have e28 : U25 256 0 m = T 256 0 m := (up_k hU25 (by exact Nat.ne_of_beq_eq_false rfl) 0 m).trans (up_k hU3 (by exact Nat.ne_of_beq_eq_false rfl) 0 m)
        rw [e28] at b27 b27b ⊢
        refine And.intro (fun c29 => ?_) (fun c29 => ?_)
        · refine hK 105 _ [vI (T 256 0 m), vI m, vR 256 0] U25 ?_
          refine j_blx (F := fX11) tb_X11 (nn_ _) bk_X11_putBehind_e_105 bs_X11_putBehind_e_105 hz (fun K hK => ?_)
          refine rg_i (by omega) ?_
          refine iy_i (by omega) (by omega) ?_
          refine x_nm (fun U30 hU30 => ?_)
          have e31 := up_f hU30
          refine ix_i (by omega) ?_
          intro b32 b32b
          have e33 : U30 254 0 m = T 254 0 m := (up_k hU30 (by exact Nat.ne_of_beq_eq_false rfl) 0 m).trans ((up_k hU25 (by exact Nat.ne_of_beq_eq_false rfl) 0 m).trans (up_k hU3 (by exact Nat.ne_of_beq_eq_false rfl) 0 m))
          rw [e33] at b32 b32b ⊢
          refine And.intro (fun c34 => ?_) (fun c34 => ?_)
          · refine hK 123 _ [vI (T 254 0 m), vI m, vR 254 0] U30 ?_
            refine j_blx (F := fX11) tb_X11 (nn_ _) bk_X11_putBehind_e_123 bs_X11_putBehind_e_123 hz (fun K hK => ?_)
            refine rg_i (by omega) ?_
            refine iy_i (by omega) (by omega) ?_
            refine x_nm (fun U35 hU35 => ?_)
            have e36 := up_f hU35
            refine (show po_X11_putBehind_0_e T rest m x U35 (none) from ?_)
            have e37 : U35 254 0 m = (T 254 0 m) + 1 := up_f hU35
            have e38 : U35 256 0 m = (T 256 0 m) + 0 := (up_k hU35 (by exact Nat.ne_of_beq_eq_false rfl) 0 m).trans (up_f hU30)
            have fz : fr_ [(254, []), (256, []), (252, [])] T U35 := fr_u (fr_u (fr_u (fr_u (fr_0 _ _) hU3 rfl) hU25 rfl) hU30 rfl) hU35 rfl
            have eo : ∀ j, U35 256 0 j = T 256 0 j := fun j => by
              by_cases z : j = m
              · rw [z, up_k hU35 (by exact Nat.ne_of_beq_eq_false rfl) 0 m, up_f hU30]; omega
              · exact (up_k hU35 (by exact Nat.ne_of_beq_eq_false rfl) 0 j).trans ((up_g hU30 (fun q => z q.2.2)).trans ((up_k hU25 (by exact Nat.ne_of_beq_eq_false rfl) 0 j).trans (up_k hU3 (by exact Nat.ne_of_beq_eq_false rfl) 0 j)))
            have ek : U35 254 0 m = T 254 0 m + 1 := by
              rw [up_f hU35]
            have e3 : U35 252 0 x = -1 := ((up_k hU35 (by exact Nat.ne_of_beq_eq_false rfl) 0 x).trans ((up_k hU30 (by exact Nat.ne_of_beq_eq_false rfl) 0 x).trans (up_g hU25 (fun q => hyn q.2.2)))).trans (up_f hU3)
            have ef : ∀ m' b', 0 ≤ b' → b' ≤ 1 → ¬ (m' = m ∧ b' = 0) → U35 (kf_ b') 0 m' = T (kf_ b') 0 m' ∧ U35 (km_ b') 0 m' = T (km_ b') 0 m' := by
              intro m' b' a c n
              rcases (by omega : b' = 0 ∨ b' = 1) with z | z
              · subst z; exact ⟨(up_k hU35 (by exact Nat.ne_of_beq_eq_false rfl) 0 (m')).trans ((up_k hU30 (by exact Nat.ne_of_beq_eq_false rfl) 0 (m')).trans ((up_k hU25 (by exact Nat.ne_of_beq_eq_false rfl) 0 (m')).trans (up_k hU3 (by exact Nat.ne_of_beq_eq_false rfl) 0 (m')))), (up_g hU35 (fun q => n ⟨q.2.2, rfl⟩)).trans ((up_k hU30 (by exact Nat.ne_of_beq_eq_false rfl) 0 (m')).trans ((up_k hU25 (by exact Nat.ne_of_beq_eq_false rfl) 0 (m')).trans (up_k hU3 (by exact Nat.ne_of_beq_eq_false rfl) 0 (m'))))⟩
              · subst z; exact ⟨(up_k hU35 (by exact Nat.ne_of_beq_eq_false rfl) 0 (m')).trans ((up_k hU30 (by exact Nat.ne_of_beq_eq_false rfl) 0 (m')).trans ((up_k hU25 (by exact Nat.ne_of_beq_eq_false rfl) 0 (m')).trans (up_k hU3 (by exact Nat.ne_of_beq_eq_false rfl) 0 (m')))), eo m'⟩
            have hrp := rb_put (b := 0) (by decide) h1 hb_47.2 hB hR (fz 111 0 29 rfl) (fz 111 0 47 rfl) ef ek e3 (Or.inr ⟨fz 253 0 m rfl, x24, hyl, ((up_k hU35 (by exact Nat.ne_of_beq_eq_false rfl) 0 x24).trans (up_k hU30 (by exact Nat.ne_of_beq_eq_false rfl) 0 x24)).trans (up_f hU25), fun z a b => (up_k hU35 (by exact Nat.ne_of_beq_eq_false rfl) 0 z).trans ((up_k hU30 (by exact Nat.ne_of_beq_eq_false rfl) 0 z).trans ((up_g hU25 (fun q => b q.2.2)).trans (up_g hU3 (fun q => a q.2.2))))⟩)
            have rwp := rw_p hB hrp.1 (fz 111 0 29 rfl) (cl_k (fun k j h => fz k 0 j (by rcases h with rfl | rfl | rfl | rfl <;> rfl))) h1.1 h1.2
            exact ⟨rfl, fr_s fz rfl, ⟨_, hrp.1, hrp.2.1⟩, hrp.2.2, ek, fun j hj => (up_g hU35 (fun q => hj q.2.2)).trans ((up_k hU30 (by exact Nat.ne_of_beq_eq_false rfl) 0 j).trans ((up_k hU25 (by exact Nat.ne_of_beq_eq_false rfl) 0 j).trans (up_k hU3 (by exact Nat.ne_of_beq_eq_false rfl) 0 j))), by omega, fun j _ => eo j, by rw [eo m]; omega, rwp.1, rwp.2⟩
          · exact absurd c34 (by decide)
        · exact absurd c29 (by decide)
      · exact absurd c21 (by decide)
  · exact absurd c1 (by decide)
theorem bk_X11_putBehind_e_19 : ck_ fX11 none cX11_putBehind 19 [.istore 4, .aload 0, .tableswitch 0 11 52 #[], .iload 2, .iconst (-1), .iastore, .iload 4, .ifCond .le 69, .aload 0, .tableswitch 0 11 52 #[], .aload 0, .iload 3, .ifCond .eq 51, .aload 0, .tableswitch 0 11 55 #[], .iload 1, .iaload, .goto 57] 51 = true := qck_r (nn_ _) (by decide +kernel)
theorem bs_X11_putBehind_e_19 {P : Zt → Option Zv → Prop} (K : Int → Zl → List Zv → Zt → Prop) : sx_ K P [.istore 4, .aload 0, .tableswitch 0 11 52 #[], .iload 2, .iconst (-1), .iastore, .iload 4, .ifCond .le 69, .aload 0, .tableswitch 0 11 52 #[], .aload 0, .iload 3, .ifCond .eq 51, .aload 0, .tableswitch 0 11 55 #[], .iload 1, .iaload, .goto 57] 51 = x_istore 4 (x_aload 0 (x_g1 111 252 (x_iload 2 (x_iconst (-1) (x_iastore (x_iload 4 (x_ifCond .le 69 K (x_aload 0 (x_g1 111 252 (x_aload 0 (x_iload 3 (x_ifCond .eq 51 K (x_aload 0 (x_g1 111 255 (x_iload 1 (x_iaload (x_goto 57 K))))))))))))))))) := ((xe_istore 4).trans (congrArg (x_istore 4) ((xe_aload 0).trans (congrArg (x_aload 0) ((xe_g1 (kk := 111) rfl tl_11_52).trans (congrArg (x_g1 111 252) ((xe_iload 2).trans (congrArg (x_iload 2) ((xe_iconst (-1)).trans (congrArg (x_iconst (-1)) ((xe_iastore).trans (congrArg (x_iastore) ((xe_iload 4).trans (congrArg (x_iload 4) ((xe_ifCond .le 69).trans (congrArg (x_ifCond .le 69 K) ((xe_aload 0).trans (congrArg (x_aload 0) ((xe_g1 (kk := 111) rfl tl_11_52).trans (congrArg (x_g1 111 252) ((xe_aload 0).trans (congrArg (x_aload 0) ((xe_iload 3).trans (congrArg (x_iload 3) ((xe_ifCond .eq 51).trans (congrArg (x_ifCond .eq 51 K) ((xe_aload 0).trans (congrArg (x_aload 0) ((xe_g1 (kk := 111) rfl tl_11_55).trans (congrArg (x_g1 111 255) ((xe_iload 1).trans (congrArg (x_iload 1) ((xe_iaload).trans (congrArg (x_iaload) (xe_goto 57)))))))))))))))))))))))))))))))))))
theorem bk_X11_putBehind_e_106 : ck_ fX11 none cX11_putBehind 106 [.iadd, .iastore, .aload 0, .tableswitch 0 11 54 #[], .iload 1, .dup2, .iaload, .iload 3, .ifCond .eq 123, .iconst 0, .goto 124] 123 = true := qck_r (nn_ _) (by decide +kernel)
theorem bs_X11_putBehind_e_106 {P : Zt → Option Zv → Prop} (K : Int → Zl → List Zv → Zt → Prop) : sx_ K P [.iadd, .iastore, .aload 0, .tableswitch 0 11 54 #[], .iload 1, .dup2, .iaload, .iload 3, .ifCond .eq 123, .iconst 0, .goto 124] 123 = x_iadd (x_iastore (x_aload 0 (x_g1 111 254 (x_iload 1 (x_dup2 (x_iaload (x_iload 3 (x_ifCond .eq 123 K (x_iconst 0 (x_goto 124 K)))))))))) := ((xe_iadd).trans (congrArg (x_iadd) ((xe_iastore).trans (congrArg (x_iastore) ((xe_aload 0).trans (congrArg (x_aload 0) ((xe_g1 (kk := 111) rfl tl_11_54).trans (congrArg (x_g1 111 254) ((xe_iload 1).trans (congrArg (x_iload 1) ((xe_dup2).trans (congrArg (x_dup2) ((xe_iaload).trans (congrArg (x_iaload) ((xe_iload 3).trans (congrArg (x_iload 3) ((xe_ifCond .eq 123).trans (congrArg (x_ifCond .eq 123 K) ((xe_iconst 0).trans (congrArg (x_iconst 0) (xe_goto 124)))))))))))))))))))))
theorem bk_X11_putBehind_e_124 : ck_ fX11 none cX11_putBehind 124 [.iadd, .iastore, .return_] 127 = true := qck_r (nn_ _) (by decide +kernel)
theorem bs_X11_putBehind_e_124 {P : Zt → Option Zv → Prop} (K : Int → Zl → List Zv → Zt → Prop) : sx_ K P [.iadd, .iastore, .return_] 127 = x_iadd (x_iastore (x_return_ P)) := ((xe_iadd).trans (congrArg (x_iadd) ((xe_iastore).trans (congrArg (x_iastore) (xe_return_)))))
theorem bk_X11_putBehind_e_57 : ck_ fX11 none cX11_putBehind 57 [.iload 4, .iconst 1, .isub] 61 = true := qck_r (nn_ _) (by decide +kernel)
theorem bs_X11_putBehind_e_57 {P : Zt → Option Zv → Prop} (K : Int → Zl → List Zv → Zt → Prop) : sx_ K P [.iload 4, .iconst 1, .isub] 61 = x_iload 4 (x_iconst 1 (x_isub (K 61))) := ((xe_iload 4).trans (congrArg (x_iload 4) ((xe_iconst 1).trans (congrArg (x_iconst 1) ((xe_isub).trans (congrArg (x_isub) xe_nil))))))
abbrev po_X11_putBehind_1_e (T : Zt) (rest : List Int) (m x : Int) : Zt → Option Zv → Prop := fun T' r => r = none ∧ fr_ [(252, []), (255, []), (254, []), (256, [])] T T' ∧ (RX_ T' rest ∧ (∀ z ∈ rest, T' 252 0 z = T 252 0 z) ∧ T' 254 0 m = T 254 0 m + 0 ∧ (∀ j, j ≠ m → T' 254 0 j = T 254 0 j) ∧ T' 254 0 m ≤ 3000 ∧ (∀ j, j ≠ m → T' 256 0 j = T 256 0 j) ∧ T' 256 0 m = T 256 0 m + 1 ∧ rw9_ T' m = rw9_ T m ∧ ∀ j, j ≠ m → 0 ≤ j → j < T 111 0 29 → rw9_ T' j = rw9_ T j)
set_option maxHeartbeats 4000000 in
theorem ct_X11_putBehind_1_e {T : Zt} {rest : List Int} {m x : Int} (h1 : 0 ≤ m ∧ m < T 111 0 29) (hx : RX_ T (x :: rest)) : Ct_ yX11_putBehind zX11_putBehind T [vR 111 0, vI m, vI x, vI 1] (po_X11_putBehind_1_e T rest m x) := by
  refine ct_of pn_11 rfl rfl (Nat.le_of_ble_eq_true rfl) (fun hT hav => ?_)
  have hr_m : -2147483648 ≤ m ∧ m ≤ 2147483647 := hav (vI m) (List.mem_cons_of_mem _ List.mem_cons_self)
  have hr_x : -2147483648 ≤ x ∧ x ≤ 2147483647 := hav (vI x) (List.mem_cons_of_mem _ (List.mem_cons_of_mem _ List.mem_cons_self))
  have hz : zX11_putBehind.2.2.2.1 = some .boolean → ∀ (T' : Zt) (x9 : Int), po_X11_putBehind_1_e T rest m x T' (some (vI x9)) → 0 ≤ x9 ∧ x9 ≤ 1 := fun h => by cases h
  have hb_29 : 0 ≤ T 111 0 29 ∧ T 111 0 29 ≤ 400 := bd_f hT 111 29 tl_11_29 0
  have hb_47 : 0 ≤ T 111 0 47 ∧ T 111 0 47 ≤ 3000 := bd_f hT 111 47 tl_11_47 0
  obtain ⟨L, hB, hR⟩ := hx
  have hlm : lk_ T (T 255 0 m) (L m 1) ∧ T 256 0 m = ((L m 1).length : Int) := hB.1 m 1 (by omega) (by omega) (by decide) (by decide)
  have hxx := hR.1 x List.mem_cons_self
  have hxn : x ∉ L m 1 := hR.2.2 m 1 x List.mem_cons_self
  have hln := nd_len (l := x :: L m 1) (by omega) (List.forall_mem_cons.mpr ⟨hxx, hB.2.1 m 1⟩) (List.nodup_cons.mpr ⟨hxn, hB.2.2.1 m 1⟩)
  rw [List.length_cons] at hln
  show J_ zX11_putBehind T (po_X11_putBehind_1_e T rest m x) 0 0 0 [some (vR 111 0), some (vI m), some (vI x), some (vI 1), none] [] T
  refine j_blx (F := fX11) tb_X11 (nn_ _) bk_X11_putBehind_e_0 bs_X11_putBehind_e_0 hz (fun K hK => ?_)
  refine And.intro (fun c1 => ?_) (fun c1 => ?_)
  · exact absurd c1 (by decide)
  · refine ix_i (by omega) ?_
    intro b2 b2b
    refine hK 19 _ [vI (T 256 0 m)] T ?_
    refine j_blx (F := fX11) tb_X11 (nn_ _) bk_X11_putBehind_e_19 bs_X11_putBehind_e_19 hz (fun K hK => ?_)
    refine iy_i (by omega) (by omega) ?_
    refine x_nm (fun U3 hU3 => ?_)
    have e4 := up_f hU3
    refine And.intro (fun c5 => ?_) (fun c5 => ?_)
    · refine hK 69 [some (vR 111 0), some (vI m), some (vI x), some (vI 1), some (vI (T 256 0 m))] [] U3 ?_
      refine j_blx (F := fX11) tb_X11 (nn_ _) bk_X11_putBehind_e_69 bs_X11_putBehind_e_69 hz (fun K hK => ?_)
      refine And.intro (fun c6 => ?_) (fun c6 => ?_)
      · exact absurd c6 (by decide)
      · refine iy_i (by omega) (by omega) ?_
        refine x_nm (fun U7 hU7 => ?_)
        have e8 := up_f hU7
        refine hK 90 _ [] U7 ?_
        refine j_blx (F := fX11) tb_X11 (nn_ _) bk_X11_putBehind_e_90 bs_X11_putBehind_e_90 hz (fun K hK => ?_)
        refine ix_i (by omega) ?_
        intro b9 b9b
        have e10 : U7 256 0 m = T 256 0 m := (up_k hU7 (by exact Nat.ne_of_beq_eq_false rfl) 0 m).trans (up_k hU3 (by exact Nat.ne_of_beq_eq_false rfl) 0 m)
        rw [e10] at b9 b9b ⊢
        refine And.intro (fun c11 => ?_) (fun c11 => ?_)
        · exact absurd c11 (by decide)
        · refine hK 106 _ [vI 1, vI (T 256 0 m), vI m, vR 256 0] U7 ?_
          refine j_blx (F := fX11) tb_X11 (nn_ _) bk_X11_putBehind_e_106 bs_X11_putBehind_e_106 hz (fun K hK => ?_)
          refine rg_i (by omega) ?_
          refine iy_i (by omega) (by omega) ?_
          refine x_nm (fun U12 hU12 => ?_)
          have e13 := up_f hU12
          refine ix_i (by omega) ?_
          intro b14 b14b
          have e15 : U12 254 0 m = T 254 0 m := (up_k hU12 (by exact Nat.ne_of_beq_eq_false rfl) 0 m).trans ((up_k hU7 (by exact Nat.ne_of_beq_eq_false rfl) 0 m).trans (up_k hU3 (by exact Nat.ne_of_beq_eq_false rfl) 0 m))
          rw [e15] at b14 b14b ⊢
          refine And.intro (fun c16 => ?_) (fun c16 => ?_)
          · exact absurd c16 (by decide)
          · refine hK 124 _ [vI 0, vI (T 254 0 m), vI m, vR 254 0] U12 ?_
            refine j_blx (F := fX11) tb_X11 (nn_ _) bk_X11_putBehind_e_124 bs_X11_putBehind_e_124 hz (fun K hK => ?_)
            refine rg_i (by omega) ?_
            refine iy_i (by omega) (by omega) ?_
            refine x_nm (fun U17 hU17 => ?_)
            have e18 := up_f hU17
            refine (show po_X11_putBehind_1_e T rest m x U17 (none) from ?_)
            have e19 : U17 254 0 m = (T 254 0 m) + 0 := up_f hU17
            have e20 : U17 256 0 m = (T 256 0 m) + 1 := (up_k hU17 (by exact Nat.ne_of_beq_eq_false rfl) 0 m).trans (up_f hU12)
            have fz : fr_ [(254, []), (256, []), (255, []), (252, [])] T U17 := fr_u (fr_u (fr_u (fr_u (fr_0 _ _) hU3 rfl) hU7 rfl) hU12 rfl) hU17 rfl
            have eo : ∀ j, U17 254 0 j = T 254 0 j := fun j => by
              by_cases z : j = m
              · rw [z, up_f hU17]; omega
              · exact (up_g hU17 (fun q => z q.2.2)).trans ((up_k hU12 (by exact Nat.ne_of_beq_eq_false rfl) 0 j).trans ((up_k hU7 (by exact Nat.ne_of_beq_eq_false rfl) 0 j).trans (up_k hU3 (by exact Nat.ne_of_beq_eq_false rfl) 0 j)))
            have ek : U17 256 0 m = T 256 0 m + 1 := by
              rw [up_k hU17 (by exact Nat.ne_of_beq_eq_false rfl) 0 m, up_f hU12]
            have e3 : U17 252 0 x = -1 := ((up_k hU17 (by exact Nat.ne_of_beq_eq_false rfl) 0 x).trans ((up_k hU12 (by exact Nat.ne_of_beq_eq_false rfl) 0 x).trans (up_k hU7 (by exact Nat.ne_of_beq_eq_false rfl) 0 x))).trans (up_f hU3)
            have ef : ∀ m' b', 0 ≤ b' → b' ≤ 1 → ¬ (m' = m ∧ b' = 1) → U17 (kf_ b') 0 m' = T (kf_ b') 0 m' ∧ U17 (km_ b') 0 m' = T (km_ b') 0 m' := by
              intro m' b' a c n
              rcases (by omega : b' = 0 ∨ b' = 1) with z | z
              · subst z; exact ⟨(up_k hU17 (by exact Nat.ne_of_beq_eq_false rfl) 0 (m')).trans ((up_k hU12 (by exact Nat.ne_of_beq_eq_false rfl) 0 (m')).trans ((up_k hU7 (by exact Nat.ne_of_beq_eq_false rfl) 0 (m')).trans (up_k hU3 (by exact Nat.ne_of_beq_eq_false rfl) 0 (m')))), eo m'⟩
              · subst z; exact ⟨(up_k hU17 (by exact Nat.ne_of_beq_eq_false rfl) 0 (m')).trans ((up_k hU12 (by exact Nat.ne_of_beq_eq_false rfl) 0 (m')).trans ((up_g hU7 (fun q => n ⟨q.2.2, rfl⟩)).trans (up_k hU3 (by exact Nat.ne_of_beq_eq_false rfl) 0 (m')))), (up_k hU17 (by exact Nat.ne_of_beq_eq_false rfl) 0 (m')).trans ((up_g hU12 (fun q => n ⟨q.2.2, rfl⟩)).trans ((up_k hU7 (by exact Nat.ne_of_beq_eq_false rfl) 0 (m')).trans (up_k hU3 (by exact Nat.ne_of_beq_eq_false rfl) 0 (m'))))⟩
            have hrp := rb_put (b := 1) (by decide) h1 hb_47.2 hB hR (fz 111 0 29 rfl) (fz 111 0 47 rfl) ef ek e3 (Or.inl ⟨List.eq_nil_of_length_eq_zero (by omega), ((up_k hU17 (by exact Nat.ne_of_beq_eq_false rfl) 0 m).trans (up_k hU12 (by exact Nat.ne_of_beq_eq_false rfl) 0 m)).trans (up_f hU7), fun z a => (up_k hU17 (by exact Nat.ne_of_beq_eq_false rfl) 0 z).trans ((up_k hU12 (by exact Nat.ne_of_beq_eq_false rfl) 0 z).trans ((up_k hU7 (by exact Nat.ne_of_beq_eq_false rfl) 0 z).trans (up_g hU3 (fun q => a q.2.2))))⟩)
            have hrn : 0 ≤ T 254 0 m ∧ T 254 0 m ≤ 3000 := bd_a hT 254 (by decide +kernel : ta_ 254 = some (1, some 400, 0, 3000)) 0 (by omega)
            have rwa := rw_a hB hrp.1 (fz 111 0 29 rfl) (cl_k (fun k j h => fz k 0 j (by rcases h with rfl | rfl | rfl | rfl <;> rfl)))
            exact ⟨rfl, fr_s fz rfl, ⟨_, hrp.1, hrp.2.1⟩, hrp.2.2, by rw [eo m]; omega, fun j _ => eo j, by rw [eo m]; omega, fun j hj => (up_k hU17 (by exact Nat.ne_of_beq_eq_false rfl) 0 j).trans ((up_g hU12 (fun q => hj q.2.2)).trans ((up_k hU7 (by exact Nat.ne_of_beq_eq_false rfl) 0 j).trans (up_k hU3 (by exact Nat.ne_of_beq_eq_false rfl) 0 j))), ek, rwa m h1.1 h1.2, fun j _ j0 j1 => rwa j j0 j1⟩
    · refine And.intro (fun c21 => ?_) (fun c21 => ?_)
      · exact absurd c21 (by decide)
      · refine ix_i (by omega) ?_
        intro b22 b22b
        have e23 : U3 255 0 m = T 255 0 m := up_k hU3 (by exact Nat.ne_of_beq_eq_false rfl) 0 m
        rw [e23] at b22 b22b ⊢
        refine hK 57 _ [vI (T 255 0 m), vR 111 0, vR 252 0] U3 ?_
        refine j_blx (F := fX11) tb_X11 (nn_ _) bk_X11_putBehind_e_57 bs_X11_putBehind_e_57 hz (fun K hK => ?_)
        refine rg_i (by omega) ?_
        refine hK 61 _ [vI ((T 256 0 m) - 1), vI (T 255 0 m), vR 111 0, vR 252 0] U3 ?_
        refine j_callV (y := yX11_rowAt) (Yc := zX11_rowAt) (rest := [vR 252 0]) [vI (T 255 0 m), vI ((T 256 0 m) - 1)] (ct_X11_rowAt (T := U3) (l := L m 1) (by exact lk_e hlm.1 (fun z hz => up_g hU3 (fun q => hxn (q.2.2 ▸ hz)))) (by omega)) cl_X11_456 (qd_c (by decide +kernel)) (nn_ _) rfl (rf_of rfl) (Nat.le_of_ble_eq_true rfl) (Nat.le_of_ble_eq_true rfl) (Nat.le_of_ble_eq_true rfl) rfl ?_
        rintro _ _ ⟨rfl, x24, rfl, hx24⟩
        show J_ zX11_putBehind T (po_X11_putBehind_1_e T rest m x) 0 0 64 _ [vI x24, vR 252 0] U3
        have hyl : (L m 1).getLast? = some x24 := by
          rw [List.getLast?_eq_getElem?, show (L m 1).length - 1 = (T 256 0 m - 1).toNat by omega]; exact hx24.1
        have hyn : x ≠ x24 := fun e => hxn (by rw [e]; exact List.mem_of_getLast? hyl)
        refine j_blx (F := fX11) tb_X11 (nn_ _) bk_X11_putBehind_e_64 bs_X11_putBehind_e_64 hz (fun K hK => ?_)
        refine iy_i (by omega) (by omega) ?_
        refine x_nm (fun U25 hU25 => ?_)
        have e26 := up_f hU25
        refine hK 90 _ [] U25 ?_
        refine j_blx (F := fX11) tb_X11 (nn_ _) bk_X11_putBehind_e_90 bs_X11_putBehind_e_90 hz (fun K hK => ?_)
        refine ix_i (by omega) ?_
        intro b27 b27b
        have e28 : U25 256 0 m = T 256 0 m := (up_k hU25 (by exact Nat.ne_of_beq_eq_false rfl) 0 m).trans (up_k hU3 (by exact Nat.ne_of_beq_eq_false rfl) 0 m)
        rw [e28] at b27 b27b ⊢
        refine And.intro (fun c29 => ?_) (fun c29 => ?_)
        · exact absurd c29 (by decide)
        · refine hK 106 _ [vI 1, vI (T 256 0 m), vI m, vR 256 0] U25 ?_
          refine j_blx (F := fX11) tb_X11 (nn_ _) bk_X11_putBehind_e_106 bs_X11_putBehind_e_106 hz (fun K hK => ?_)
          refine rg_i (by omega) ?_
          refine iy_i (by omega) (by omega) ?_
          refine x_nm (fun U30 hU30 => ?_)
          have e31 := up_f hU30
          refine ix_i (by omega) ?_
          intro b32 b32b
          have e33 : U30 254 0 m = T 254 0 m := (up_k hU30 (by exact Nat.ne_of_beq_eq_false rfl) 0 m).trans ((up_k hU25 (by exact Nat.ne_of_beq_eq_false rfl) 0 m).trans (up_k hU3 (by exact Nat.ne_of_beq_eq_false rfl) 0 m))
          rw [e33] at b32 b32b ⊢
          refine And.intro (fun c34 => ?_) (fun c34 => ?_)
          · exact absurd c34 (by decide)
          · refine hK 124 _ [vI 0, vI (T 254 0 m), vI m, vR 254 0] U30 ?_
            refine j_blx (F := fX11) tb_X11 (nn_ _) bk_X11_putBehind_e_124 bs_X11_putBehind_e_124 hz (fun K hK => ?_)
            refine rg_i (by omega) ?_
            refine iy_i (by omega) (by omega) ?_
            refine x_nm (fun U35 hU35 => ?_)
            have e36 := up_f hU35
            refine (show po_X11_putBehind_1_e T rest m x U35 (none) from ?_)
            have e37 : U35 254 0 m = (T 254 0 m) + 0 := up_f hU35
            have e38 : U35 256 0 m = (T 256 0 m) + 1 := (up_k hU35 (by exact Nat.ne_of_beq_eq_false rfl) 0 m).trans (up_f hU30)
            have fz : fr_ [(254, []), (256, []), (252, [])] T U35 := fr_u (fr_u (fr_u (fr_u (fr_0 _ _) hU3 rfl) hU25 rfl) hU30 rfl) hU35 rfl
            have eo : ∀ j, U35 254 0 j = T 254 0 j := fun j => by
              by_cases z : j = m
              · rw [z, up_f hU35]; omega
              · exact (up_g hU35 (fun q => z q.2.2)).trans ((up_k hU30 (by exact Nat.ne_of_beq_eq_false rfl) 0 j).trans ((up_k hU25 (by exact Nat.ne_of_beq_eq_false rfl) 0 j).trans (up_k hU3 (by exact Nat.ne_of_beq_eq_false rfl) 0 j)))
            have ek : U35 256 0 m = T 256 0 m + 1 := by
              rw [up_k hU35 (by exact Nat.ne_of_beq_eq_false rfl) 0 m, up_f hU30]
            have e3 : U35 252 0 x = -1 := ((up_k hU35 (by exact Nat.ne_of_beq_eq_false rfl) 0 x).trans ((up_k hU30 (by exact Nat.ne_of_beq_eq_false rfl) 0 x).trans (up_g hU25 (fun q => hyn q.2.2)))).trans (up_f hU3)
            have ef : ∀ m' b', 0 ≤ b' → b' ≤ 1 → ¬ (m' = m ∧ b' = 1) → U35 (kf_ b') 0 m' = T (kf_ b') 0 m' ∧ U35 (km_ b') 0 m' = T (km_ b') 0 m' := by
              intro m' b' a c n
              rcases (by omega : b' = 0 ∨ b' = 1) with z | z
              · subst z; exact ⟨(up_k hU35 (by exact Nat.ne_of_beq_eq_false rfl) 0 (m')).trans ((up_k hU30 (by exact Nat.ne_of_beq_eq_false rfl) 0 (m')).trans ((up_k hU25 (by exact Nat.ne_of_beq_eq_false rfl) 0 (m')).trans (up_k hU3 (by exact Nat.ne_of_beq_eq_false rfl) 0 (m')))), eo m'⟩
              · subst z; exact ⟨(up_k hU35 (by exact Nat.ne_of_beq_eq_false rfl) 0 (m')).trans ((up_k hU30 (by exact Nat.ne_of_beq_eq_false rfl) 0 (m')).trans ((up_k hU25 (by exact Nat.ne_of_beq_eq_false rfl) 0 (m')).trans (up_k hU3 (by exact Nat.ne_of_beq_eq_false rfl) 0 (m')))), (up_k hU35 (by exact Nat.ne_of_beq_eq_false rfl) 0 (m')).trans ((up_g hU30 (fun q => n ⟨q.2.2, rfl⟩)).trans ((up_k hU25 (by exact Nat.ne_of_beq_eq_false rfl) 0 (m')).trans (up_k hU3 (by exact Nat.ne_of_beq_eq_false rfl) 0 (m'))))⟩
            have hrp := rb_put (b := 1) (by decide) h1 hb_47.2 hB hR (fz 111 0 29 rfl) (fz 111 0 47 rfl) ef ek e3 (Or.inr ⟨fz 255 0 m rfl, x24, hyl, ((up_k hU35 (by exact Nat.ne_of_beq_eq_false rfl) 0 x24).trans (up_k hU30 (by exact Nat.ne_of_beq_eq_false rfl) 0 x24)).trans (up_f hU25), fun z a b => (up_k hU35 (by exact Nat.ne_of_beq_eq_false rfl) 0 z).trans ((up_k hU30 (by exact Nat.ne_of_beq_eq_false rfl) 0 z).trans ((up_g hU25 (fun q => b q.2.2)).trans (up_g hU3 (fun q => a q.2.2))))⟩)
            have hrn : 0 ≤ T 254 0 m ∧ T 254 0 m ≤ 3000 := bd_a hT 254 (by decide +kernel : ta_ 254 = some (1, some 400, 0, 3000)) 0 (by omega)
            have rwa := rw_a hB hrp.1 (fz 111 0 29 rfl) (cl_k (fun k j h => fz k 0 j (by rcases h with rfl | rfl | rfl | rfl <;> rfl)))
            exact ⟨rfl, fr_s fz rfl, ⟨_, hrp.1, hrp.2.1⟩, hrp.2.2, by rw [eo m]; omega, fun j _ => eo j, by rw [eo m]; omega, fun j hj => (up_k hU35 (by exact Nat.ne_of_beq_eq_false rfl) 0 j).trans ((up_g hU30 (fun q => hj q.2.2)).trans ((up_k hU25 (by exact Nat.ne_of_beq_eq_false rfl) 0 j).trans (up_k hU3 (by exact Nat.ne_of_beq_eq_false rfl) 0 j))), ek, rwa m h1.1 h1.2, fun j _ j0 j1 => rwa j j0 j1⟩
theorem bk_X11_event_e_0 : ck_ fX11 (some .int) cX11_event 0 [.iload 1, .aload 0, .tableswitch 0 11 29 #[]] 5 = true := qck_r (nn_ _) (by decide +kernel)
theorem bs_X11_event_e_0 {P : Zt → Option Zv → Prop} (K : Int → Zl → List Zv → Zt → Prop) : sx_ K P [.iload 1, .aload 0, .tableswitch 0 11 29 #[]] 5 = x_iload 1 (x_aload 0 (x_g0 111 29 0 400 (K 5))) := ((xe_iload 1).trans (congrArg (x_iload 1) ((xe_aload 0).trans (congrArg (x_aload 0) ((xe_g0 (kk := 111) rfl tl_11_29).trans (congrArg (x_g0 111 29 0 400) xe_nil))))))
theorem bk_X11_event_e_8 : ck_ fX11 (some .int) cX11_event 8 [.ifCond .ne 14, .iconst (-2), .ireturn] 14 = true := qck_r (nn_ _) (by decide +kernel)
theorem bs_X11_event_e_8 {P : Zt → Option Zv → Prop} (K : Int → Zl → List Zv → Zt → Prop) : sx_ K P [.ifCond .ne 14, .iconst (-2), .ireturn] 14 = x_ifCond .ne 14 K (x_iconst (-2) (x_ireturn P)) := ((xe_ifCond .ne 14).trans (congrArg (x_ifCond .ne 14 K) ((xe_iconst (-2)).trans (congrArg (x_iconst (-2)) (xe_ireturn)))))
theorem bk_X11_event_e_14 : ck_ fX11 (some .int) cX11_event 14 [.aload 0, .iload 1, .iload 2, .iload 3, .iload 4, .iload 5] 22 = true := qck_r (nn_ _) (by decide +kernel)
theorem bs_X11_event_e_14 {P : Zt → Option Zv → Prop} (K : Int → Zl → List Zv → Zt → Prop) : sx_ K P [.aload 0, .iload 1, .iload 2, .iload 3, .iload 4, .iload 5] 22 = x_aload 0 (x_iload 1 (x_iload 2 (x_iload 3 (x_iload 4 (x_iload 5 (K 22)))))) := ((xe_aload 0).trans (congrArg (x_aload 0) ((xe_iload 1).trans (congrArg (x_iload 1) ((xe_iload 2).trans (congrArg (x_iload 2) ((xe_iload 3).trans (congrArg (x_iload 3) ((xe_iload 4).trans (congrArg (x_iload 4) ((xe_iload 5).trans (congrArg (x_iload 5) xe_nil))))))))))))
theorem bk_X11_event_e_25 : ck_ fX11 (some .int) cX11_event 25 [.istore 6, .iload 6, .ifCond .eq 38, .iconst (-10), .iload 6, .isub, .ireturn] 38 = true := qck_r (nn_ _) (by decide +kernel)
theorem bs_X11_event_e_25 {P : Zt → Option Zv → Prop} (K : Int → Zl → List Zv → Zt → Prop) : sx_ K P [.istore 6, .iload 6, .ifCond .eq 38, .iconst (-10), .iload 6, .isub, .ireturn] 38 = x_istore 6 (x_iload 6 (x_ifCond .eq 38 K (x_iconst (-10) (x_iload 6 (x_isub (x_ireturn P)))))) := ((xe_istore 6).trans (congrArg (x_istore 6) ((xe_iload 6).trans (congrArg (x_iload 6) ((xe_ifCond .eq 38).trans (congrArg (x_ifCond .eq 38 K) ((xe_iconst (-10)).trans (congrArg (x_iconst (-10)) ((xe_iload 6).trans (congrArg (x_iload 6) ((xe_isub).trans (congrArg (x_isub) (xe_ireturn)))))))))))))
theorem bk_X11_event_e_38 : ck_ fX11 (some .int) cX11_event 38 [.aload 0, .tableswitch 0 11 47 #[], .iconst 3000, .if_icmp .ne 51, .iconst (-5), .ireturn] 51 = true := qck_r (nn_ _) (by decide +kernel)
theorem bs_X11_event_e_38 {P : Zt → Option Zv → Prop} (K : Int → Zl → List Zv → Zt → Prop) : sx_ K P [.aload 0, .tableswitch 0 11 47 #[], .iconst 3000, .if_icmp .ne 51, .iconst (-5), .ireturn] 51 = x_aload 0 (x_g0 111 47 0 3000 (x_iconst 3000 (x_if_icmp .ne 51 K (x_iconst (-5) (x_ireturn P))))) := ((xe_aload 0).trans (congrArg (x_aload 0) ((xe_g0 (kk := 111) rfl tl_11_47).trans (congrArg (x_g0 111 47 0 3000) ((xe_iconst 3000).trans (congrArg (x_iconst 3000) ((xe_if_icmp .ne 51).trans (congrArg (x_if_icmp .ne 51 K) ((xe_iconst (-5)).trans (congrArg (x_iconst (-5)) (xe_ireturn)))))))))))
theorem bk_X11_event_e_51 : ck_ fX11 (some .int) cX11_event 51 [.aload 0, .tableswitch 0 11 47 #[], .istore 7, .aload 0, .dup, .tableswitch 0 11 47 #[], .iconst 1, .iadd, .tableswitch 1 11 47 #[], .aload 0, .tableswitch 0 11 48 #[], .iload 7, .iload 2, .iastore, .aload 0, .tableswitch 0 11 49 #[], .iload 7, .iload 3, .iastore, .aload 0, .tableswitch 0 11 50 #[], .iload 7, .iload 4, .iastore, .aload 0, .tableswitch 0 11 51 #[], .iload 7, .iload 5, .iastore, .aload 0, .iload 1, .iload 7, .iconst 0] 106 = true := qck_r (nn_ _) (by decide +kernel)
theorem bs_X11_event_e_51 {P : Zt → Option Zv → Prop} (K : Int → Zl → List Zv → Zt → Prop) : sx_ K P [.aload 0, .tableswitch 0 11 47 #[], .istore 7, .aload 0, .dup, .tableswitch 0 11 47 #[], .iconst 1, .iadd, .tableswitch 1 11 47 #[], .aload 0, .tableswitch 0 11 48 #[], .iload 7, .iload 2, .iastore, .aload 0, .tableswitch 0 11 49 #[], .iload 7, .iload 3, .iastore, .aload 0, .tableswitch 0 11 50 #[], .iload 7, .iload 4, .iastore, .aload 0, .tableswitch 0 11 51 #[], .iload 7, .iload 5, .iastore, .aload 0, .iload 1, .iload 7, .iconst 0] 106 = x_aload 0 (x_g0 111 47 0 3000 (x_istore 7 (x_aload 0 (x_dup (x_g0 111 47 0 3000 (x_iconst 1 (x_iadd (x_p 111 47 0 3000 (x_aload 0 (x_g1 111 248 (x_iload 7 (x_iload 2 (x_iastore (x_aload 0 (x_g1 111 249 (x_iload 7 (x_iload 3 (x_iastore (x_aload 0 (x_g1 111 250 (x_iload 7 (x_iload 4 (x_iastore (x_aload 0 (x_g1 111 251 (x_iload 7 (x_iload 5 (x_iastore (x_aload 0 (x_iload 1 (x_iload 7 (x_iconst 0 (K 106))))))))))))))))))))))))))))))))) := ((xe_aload 0).trans (congrArg (x_aload 0) ((xe_g0 (kk := 111) rfl tl_11_47).trans (congrArg (x_g0 111 47 0 3000) ((xe_istore 7).trans (congrArg (x_istore 7) ((xe_aload 0).trans (congrArg (x_aload 0) ((xe_dup).trans (congrArg (x_dup) ((xe_g0 (kk := 111) rfl tl_11_47).trans (congrArg (x_g0 111 47 0 3000) ((xe_iconst 1).trans (congrArg (x_iconst 1) ((xe_iadd).trans (congrArg (x_iadd) ((xe_p (kk := 111) rfl tl_11_47).trans (congrArg (x_p 111 47 0 3000) ((xe_aload 0).trans (congrArg (x_aload 0) ((xe_g1 (kk := 111) rfl tl_11_48).trans (congrArg (x_g1 111 248) ((xe_iload 7).trans (congrArg (x_iload 7) ((xe_iload 2).trans (congrArg (x_iload 2) ((xe_iastore).trans (congrArg (x_iastore) ((xe_aload 0).trans (congrArg (x_aload 0) ((xe_g1 (kk := 111) rfl tl_11_49).trans (congrArg (x_g1 111 249) ((xe_iload 7).trans (congrArg (x_iload 7) ((xe_iload 3).trans (congrArg (x_iload 3) ((xe_iastore).trans (congrArg (x_iastore) ((xe_aload 0).trans (congrArg (x_aload 0) ((xe_g1 (kk := 111) rfl tl_11_50).trans (congrArg (x_g1 111 250) ((xe_iload 7).trans (congrArg (x_iload 7) ((xe_iload 4).trans (congrArg (x_iload 4) ((xe_iastore).trans (congrArg (x_iastore) ((xe_aload 0).trans (congrArg (x_aload 0) ((xe_g1 (kk := 111) rfl tl_11_51).trans (congrArg (x_g1 111 251) ((xe_iload 7).trans (congrArg (x_iload 7) ((xe_iload 5).trans (congrArg (x_iload 5) ((xe_iastore).trans (congrArg (x_iastore) ((xe_aload 0).trans (congrArg (x_aload 0) ((xe_iload 1).trans (congrArg (x_iload 1) ((xe_iload 7).trans (congrArg (x_iload 7) ((xe_iconst 0).trans (congrArg (x_iconst 0) xe_nil))))))))))))))))))))))))))))))))))))))))))))))))))))))))))))))))))
theorem bk_X11_event_e_109 : ck_ fX11 (some .int) cX11_event 109 [.aload 0, .iload 1, .iload 2, .iload 3, .iload 4, .iload 5] 117 = true := qck_r (nn_ _) (by decide +kernel)
theorem bs_X11_event_e_109 {P : Zt → Option Zv → Prop} (K : Int → Zl → List Zv → Zt → Prop) : sx_ K P [.aload 0, .iload 1, .iload 2, .iload 3, .iload 4, .iload 5] 117 = x_aload 0 (x_iload 1 (x_iload 2 (x_iload 3 (x_iload 4 (x_iload 5 (K 117)))))) := ((xe_aload 0).trans (congrArg (x_aload 0) ((xe_iload 1).trans (congrArg (x_iload 1) ((xe_iload 2).trans (congrArg (x_iload 2) ((xe_iload 3).trans (congrArg (x_iload 3) ((xe_iload 4).trans (congrArg (x_iload 4) ((xe_iload 5).trans (congrArg (x_iload 5) xe_nil))))))))))))
theorem bk_X11_event_e_120 : ck_ fX11 (some .int) cX11_event 120 [.aload 0, .tableswitch 0 11 54 #[], .iload 1, .iaload, .ireturn] 127 = true := qck_r (nn_ _) (by decide +kernel)
theorem bs_X11_event_e_120 {P : Zt → Option Zv → Prop} (K : Int → Zl → List Zv → Zt → Prop) : sx_ K P [.aload 0, .tableswitch 0 11 54 #[], .iload 1, .iaload, .ireturn] 127 = x_aload 0 (x_g1 111 254 (x_iload 1 (x_iaload (x_ireturn P)))) := ((xe_aload 0).trans (congrArg (x_aload 0) ((xe_g1 (kk := 111) rfl tl_11_54).trans (congrArg (x_g1 111 254) ((xe_iload 1).trans (congrArg (x_iload 1) ((xe_iaload).trans (congrArg (x_iaload) (xe_ireturn)))))))))
abbrev po_X11_event_e (T : Zt) (ru : Int → Int) (m k s p q : Int) : Zt → Option Zv → Prop := fun T' r => ∃ x : Int, r = some (vI x) ∧ fr_ [(111, [47]), (248, []), (249, []), (250, []), (251, []), (252, []), (253, []), (254, []), (256, []), (244, []), (241, []), (242, []), (243, []), (245, []), (246, []), (236, []), (237, []), (235, [])] T T' ∧ (FM_ T' ∧ RX_ T' [] ∧ ZS_ T' ∧ GX_ T' (-1) ∧ (∀ j, j ≠ m ∨ T 111 0 29 ≤ j → T' 254 0 j = T 254 0 j ∧ T' 256 0 j = T 256 0 j) ∧ ((x = -2 ∧ ¬ (0 ≤ m ∧ m < T 111 0 29) ∧ T = T') ∨ ((0 ≤ m ∧ m < T 111 0 29) ∧ ((lwR_ ru (rp9_ T m) k s p q ≠ 0 ∧ x = -10 - lwR_ ru (rp9_ T m) k s p q ∧ T = T') ∨ (lwR_ ru (rp9_ T m) k s p q = 0 ∧ T 111 0 47 = 3000 ∧ x = -5 ∧ T = T') ∨ (lwR_ ru (rp9_ T m) k s p q = 0 ∧ T 111 0 47 ≠ 3000 ∧ T' 111 0 47 = T 111 0 47 + 1 ∧ rp9_ T' m = plR_ ru (rp9_ T m) m k s p q ∧ rw9_ T' m = rw9_ T m ++ [(k, s, p, q)] ∧ x = T' 254 0 m ∧ T' 256 0 m = T 256 0 m ∧ OMR_ T T' m)))))
set_option maxHeartbeats 4000000 in
theorem ct_X11_event_e {T : Zt} {ru : Int → Int} {m k s p q : Int} (hmc : MC_ T) (hri : RI_ T) (hfm : FM_ T) (hrx : RX_ T []) (hzs : ZS_ T) (hgs : GX_ T (-1)) (hrl : RLR_ T m ru) : Ct_ yX11_event zX11_event T [vR 111 0, vI m, vI k, vI s, vI p, vI q] (po_X11_event_e T ru m k s p q) := by
  refine ct_of pn_11 rfl rfl (Nat.le_of_ble_eq_true rfl) (fun hT hav => ?_)
  have hr_m : -2147483648 ≤ m ∧ m ≤ 2147483647 := hav (vI m) (List.mem_cons_of_mem _ List.mem_cons_self)
  have hr_k : -2147483648 ≤ k ∧ k ≤ 2147483647 := hav (vI k) (List.mem_cons_of_mem _ (List.mem_cons_of_mem _ List.mem_cons_self))
  have hr_s : -2147483648 ≤ s ∧ s ≤ 2147483647 := hav (vI s) (List.mem_cons_of_mem _ (List.mem_cons_of_mem _ (List.mem_cons_of_mem _ List.mem_cons_self)))
  have hr_p : -2147483648 ≤ p ∧ p ≤ 2147483647 := hav (vI p) (List.mem_cons_of_mem _ (List.mem_cons_of_mem _ (List.mem_cons_of_mem _ (List.mem_cons_of_mem _ List.mem_cons_self))))
  have hr_q : -2147483648 ≤ q ∧ q ≤ 2147483647 := hav (vI q) (List.mem_cons_of_mem _ (List.mem_cons_of_mem _ (List.mem_cons_of_mem _ (List.mem_cons_of_mem _ (List.mem_cons_of_mem _ List.mem_cons_self)))))
  have hz : zX11_event.2.2.2.1 = some .boolean → ∀ (T' : Zt) (x : Int), po_X11_event_e T ru m k s p q T' (some (vI x)) → 0 ≤ x ∧ x ≤ 1 := fun h => by cases h
  have hb_29 : 0 ≤ T 111 0 29 ∧ T 111 0 29 ≤ 400 := bd_f hT 111 29 tl_11_29 0
  have hb_6 : 0 ≤ T 111 0 6 ∧ T 111 0 6 ≤ 4 := bd_f hT 111 6 tl_11_6 0
  have hb_47 : 0 ≤ T 111 0 47 ∧ T 111 0 47 ≤ 3000 := bd_f hT 111 47 tl_11_47 0
  show J_ zX11_event T (po_X11_event_e T ru m k s p q) 0 0 0 [some (vR 111 0), some (vI m), some (vI k), some (vI s), some (vI p), some (vI q), none, none] [] T
  refine j_blx (F := fX11) tb_X11 (nn_ _) bk_X11_event_e_0 bs_X11_event_e_0 hz (fun K hK => ?_)
  intro b1 b1b
  refine hK 5 _ [vI (T 111 0 29), vI m] T ?_
  refine j_callS (y := yX11_isOf) (Yc := zX11_isOf) (rest := []) [vI m, vI (T 111 0 29)] (ct_X11_isOf (T := T) (by omega)) cl_X11_317 (qd_c (by decide +kernel)) (nn_ _) rfl (rf_of rfl) (Nat.le_of_ble_eq_true rfl) (Nat.le_of_ble_eq_true rfl) (Nat.le_of_ble_eq_true rfl) rfl ?_
  rintro _ _ ⟨rfl, x2, rfl, hx2⟩
  show J_ zX11_event T (po_X11_event_e T ru m k s p q) 0 0 8 _ [vI x2] T
  refine j_blx (F := fX11) tb_X11 (nn_ _) bk_X11_event_e_8 bs_X11_event_e_8 hz (fun K hK => ?_)
  refine And.intro (fun c3 => ?_) (fun c3 => ?_)
  · replace hx2 := hx2.resolve_right (fun z => c3 z.1)
    clear c3
    refine hK 14 _ [] T ?_
    refine j_blx (F := fX11) tb_X11 (nn_ _) bk_X11_event_e_14 bs_X11_event_e_14 hz (fun K hK => ?_)
    refine hK 22 _ [vI q, vI p, vI s, vI k, vI m, vR 111 0] T ?_
    refine j_callV (y := yX11_lawOf) (Yc := zX11_lawOf) (rest := []) [vI m, vI k, vI s, vI p, vI q] (ct_X11_lawOf_e (T := T) (ru := ru) (by omega) (hrl)) cl_X11_459 (qd_c (by decide +kernel)) (nn_ _) rfl (rf_of rfl) (Nat.le_of_ble_eq_true rfl) (Nat.le_of_ble_eq_true rfl) (Nat.le_of_ble_eq_true rfl) rfl ?_
    rintro _ _ ⟨rfl, x4, rfl, hx4b, hx4, hx4e⟩
    show J_ zX11_event T (po_X11_event_e T ru m k s p q) 0 0 25 _ [vI x4] T
    refine j_blx (F := fX11) tb_X11 (nn_ _) bk_X11_event_e_25 bs_X11_event_e_25 hz (fun K hK => ?_)
    refine And.intro (fun c5 => ?_) (fun c5 => ?_)
    · have hlw := hx4 (by omega)
      refine hK 38 [some (vR 111 0), some (vI m), some (vI k), some (vI s), some (vI p), some (vI q), some (vI x4), none] [] T ?_
      refine j_blx (F := fX11) tb_X11 (nn_ _) bk_X11_event_e_38 bs_X11_event_e_38 hz (fun K hK => ?_)
      intro b6 b6b
      refine And.intro (fun c7 => ?_) (fun c7 => ?_)
      · refine hK 51 _ [] T ?_
        refine j_blx (F := fX11) tb_X11 (nn_ _) bk_X11_event_e_51 bs_X11_event_e_51 hz (fun K hK => ?_)
        intro b8 b8b
        intro b9 b9b
        refine rg_i (by omega) ?_
        refine bd_i (by omega) ?_
        refine x_nm (fun U10 hU10 => ?_)
        have e11 := up_f hU10
        refine iy_i (by omega) (by omega) ?_
        refine x_nm (fun U12 hU12 => ?_)
        have e13 := up_f hU12
        refine iy_i (by omega) (by omega) ?_
        refine x_nm (fun U14 hU14 => ?_)
        have e15 := up_f hU14
        refine iy_i (by omega) (by omega) ?_
        refine x_nm (fun U16 hU16 => ?_)
        have e17 := up_f hU16
        refine iy_i (by omega) (by omega) ?_
        refine x_nm (fun U18 hU18 => ?_)
        have e19 := up_f hU18
        refine hK 106 [some (vR 111 0), some (vI m), some (vI k), some (vI s), some (vI p), some (vI q), some (vI x4), some (vI (T 111 0 47))] [vI 0, vI (T 111 0 47), vI m, vR 111 0] U18 ?_
        have fz : fr_ [(251, []), (250, []), (249, []), (248, []), (111, [47])] T U18 := fr_u (fr_u (fr_u (fr_u (fr_u (fr_0 _ _) hU10 rfl) hU12 rfl) hU14 rfl) hU16 rfl) hU18 rfl
        have hrn : 0 ≤ T 254 0 m ∧ T 254 0 m ≤ 3000 := bd_a hT 254 (by decide +kernel : ta_ 254 = some (1, some 400, 0, 3000)) 0 (by omega)
        have hsb : SB1_ T m (4 * T 254 0 m + 9) := hgs m (by omega) (by omega) (by omega)
        have e20 : U18 111 0 47 = (T 111 0 47) + 1 := (up_k hU18 (by exact Nat.ne_of_beq_eq_false rfl) 0 47).trans ((up_k hU16 (by exact Nat.ne_of_beq_eq_false rfl) 0 47).trans ((up_k hU14 (by exact Nat.ne_of_beq_eq_false rfl) 0 47).trans ((up_k hU12 (by exact Nat.ne_of_beq_eq_false rfl) 0 47).trans (up_f hU10))))
        have hry := hrx
        obtain ⟨L, hB, hR⟩ := hry
        have rbn := rb_new hB (by omega) (fz 111 0 29 rfl) (by omega) (fun k j h => fz k 0 j (by rcases h with rfl | rfl | rfl | rfl | rfl <;> rfl))
        have hnw : ∀ m' b', T 111 0 47 ∉ L m' b' := fun m' b' z => by have := hB.2.1 m' b' _ z; omega
        have rwx := rw_x hB rbn.1 (fz 111 0 29 rfl) (fun k y h n => by rcases h with rfl | rfl | rfl | rfl; exact (up_k hU18 (by exact Nat.ne_of_beq_eq_false rfl) 0 y).trans ((up_k hU16 (by exact Nat.ne_of_beq_eq_false rfl) 0 y).trans ((up_k hU14 (by exact Nat.ne_of_beq_eq_false rfl) 0 y).trans ((up_g hU12 (fun z => n z.2.2)).trans (up_k hU10 (by exact Nat.ne_of_beq_eq_false rfl) 0 y)))); exact (up_k hU18 (by exact Nat.ne_of_beq_eq_false rfl) 0 y).trans ((up_k hU16 (by exact Nat.ne_of_beq_eq_false rfl) 0 y).trans ((up_g hU14 (fun z => n z.2.2)).trans ((up_k hU12 (by exact Nat.ne_of_beq_eq_false rfl) 0 y).trans (up_k hU10 (by exact Nat.ne_of_beq_eq_false rfl) 0 y)))); exact (up_k hU18 (by exact Nat.ne_of_beq_eq_false rfl) 0 y).trans ((up_g hU16 (fun z => n z.2.2)).trans ((up_k hU14 (by exact Nat.ne_of_beq_eq_false rfl) 0 y).trans ((up_k hU12 (by exact Nat.ne_of_beq_eq_false rfl) 0 y).trans (up_k hU10 (by exact Nat.ne_of_beq_eq_false rfl) 0 y)))); exact (up_g hU18 (fun z => n z.2.2)).trans ((up_k hU16 (by exact Nat.ne_of_beq_eq_false rfl) 0 y).trans ((up_k hU14 (by exact Nat.ne_of_beq_eq_false rfl) 0 y).trans ((up_k hU12 (by exact Nat.ne_of_beq_eq_false rfl) 0 y).trans (up_k hU10 (by exact Nat.ne_of_beq_eq_false rfl) 0 y))))) hnw
        have rcx : rwc_ U18 (T 111 0 47) = (k, s, p, q) := by
          unfold rwc_
          rw [show U18 248 0 (T 111 0 47) = k from ((up_k hU18 (by exact Nat.ne_of_beq_eq_false rfl) 0 (T 111 0 47)).trans ((up_k hU16 (by exact Nat.ne_of_beq_eq_false rfl) 0 (T 111 0 47)).trans (up_k hU14 (by exact Nat.ne_of_beq_eq_false rfl) 0 (T 111 0 47)))).trans (up_f hU12), show U18 249 0 (T 111 0 47) = s from ((up_k hU18 (by exact Nat.ne_of_beq_eq_false rfl) 0 (T 111 0 47)).trans (up_k hU16 (by exact Nat.ne_of_beq_eq_false rfl) 0 (T 111 0 47))).trans (up_f hU14), show U18 250 0 (T 111 0 47) = p from (up_k hU18 (by exact Nat.ne_of_beq_eq_false rfl) 0 (T 111 0 47)).trans (up_f hU16), show U18 251 0 (T 111 0 47) = q from up_f hU18]
        have e21 : U18 111 0 29 = T 111 0 29 := (up_k hU18 (by exact Nat.ne_of_beq_eq_false rfl) 0 29).trans ((up_k hU16 (by exact Nat.ne_of_beq_eq_false rfl) 0 29).trans ((up_k hU14 (by exact Nat.ne_of_beq_eq_false rfl) 0 29).trans ((up_k hU12 (by exact Nat.ne_of_beq_eq_false rfl) 0 29).trans (up_j hU10 (by decide) 111 0))))
        have e22 : U18 111 0 47 = (T 111 0 47) + 1 := (up_k hU18 (by exact Nat.ne_of_beq_eq_false rfl) 0 47).trans ((up_k hU16 (by exact Nat.ne_of_beq_eq_false rfl) 0 47).trans ((up_k hU14 (by exact Nat.ne_of_beq_eq_false rfl) 0 47).trans ((up_k hU12 (by exact Nat.ne_of_beq_eq_false rfl) 0 47).trans (up_f hU10))))
        refine j_callV (y := yX11_putBehind) (Yc := zX11_putBehind) (rest := []) [vI m, vI (T 111 0 47), vI 0] (ct_X11_putBehind_0_e (T := U18) (rest := []) (by omega) (⟨L, rbn.1, rbn.2⟩)) cl_X11_466 (qd_c (by decide +kernel)) (nn_ _) rfl (rf_of rfl) (Nat.le_of_ble_eq_true rfl) (Nat.le_of_ble_eq_true rfl) (Nat.le_of_ble_eq_true rfl) rfl ?_
        rintro U23 _ ⟨rfl, fU23, qU23a, qU23b, qU23c, qU23d, qU23e, qU23g, qU23m, qU23r, qU23s⟩
        show J_ zX11_event T (po_X11_event_e T ru m k s p q) 0 0 109 _ [] U23
        refine j_blx (F := fX11) tb_X11 (nn_ _) bk_X11_event_e_109 bs_X11_event_e_109 hz (fun K hK => ?_)
        refine hK 117 _ [vI q, vI p, vI s, vI k, vI m, vR 111 0] U23 ?_
        have e24 : U23 111 0 29 = T 111 0 29 := (fU23 111 0 29 rfl).trans ((up_k hU18 (by exact Nat.ne_of_beq_eq_false rfl) 0 29).trans ((up_k hU16 (by exact Nat.ne_of_beq_eq_false rfl) 0 29).trans ((up_k hU14 (by exact Nat.ne_of_beq_eq_false rfl) 0 29).trans ((up_k hU12 (by exact Nat.ne_of_beq_eq_false rfl) 0 29).trans (up_j hU10 (by decide) 111 0)))))
        have fy : fr_ [(252, []), (253, []), (254, []), (256, []), (251, []), (250, []), (249, []), (248, []), (111, [47])] T U23 := fr_t (fr_u (fr_u (fr_u (fr_u (fr_u (fr_0 _ _) hU10 rfl) hU12 rfl) hU14 rfl) hU16 rfl) hU18 rfl) (fr_s fU23 rfl)
        refine j_callV (y := yX11_play) (Yc := zX11_play) (rest := []) [vI m, vI k, vI s, vI p, vI q] (ct_X11_play_e (T := U23) (ru := ru) (bu := 4 * T 254 0 m + 9) (by omega) (by exact MC__f (ws := [(252, []), (253, []), (254, []), (256, []), (251, []), (250, []), (249, []), (248, []), (111, [47])]) hmc (fr_t (fr_u (fr_u (fr_u (fr_u (fr_u (fr_0 _ _) hU10 rfl) hU12 rfl) hU14 rfl) hU16 rfl) hU18 rfl) (fr_s fU23 rfl)) ⟨fun _ => rfl, rfl, rfl, trivial⟩) (by exact RI__f (ws := [(252, []), (253, []), (254, []), (256, []), (251, []), (250, []), (249, []), (248, []), (111, [47])]) hri (fr_t (fr_u (fr_u (fr_u (fr_u (fr_u (fr_0 _ _) hU10 rfl) hU12 rfl) hU14 rfl) hU16 rfl) hU18 rfl) (fr_s fU23 rfl)) ⟨fun _ => rfl, rfl, trivial⟩) (by exact FM__f (ws := [(252, []), (253, []), (254, []), (256, [])]) (FM__f (ws := [(251, [])]) (FM__f (ws := [(250, [])]) (FM__f (ws := [(249, [])]) (FM__f (ws := [(248, [])]) (FM__f (ws := [(111, [])]) (hfm) (fr_u (fr_0 _ _) hU10 rfl) ⟨fun _ => rfl, fun _ => rfl, trivial⟩) (fr_u (fr_0 _ _) hU12 rfl) ⟨fun _ => rfl, fun _ => rfl, trivial⟩) (fr_u (fr_0 _ _) hU14 rfl) ⟨fun _ => rfl, fun _ => rfl, trivial⟩) (fr_u (fr_0 _ _) hU16 rfl) ⟨fun _ => rfl, fun _ => rfl, trivial⟩) (fr_u (fr_0 _ _) hU18 rfl) ⟨fun _ => rfl, fun _ => rfl, trivial⟩) fU23 ⟨fun _ => rfl, fun _ => rfl, trivial⟩) (by exact LW_f hlw (fun k j h => fy k 0 j (by rcases h with rfl | rfl | rfl | rfl | rfl <;> rfl))) (rlr_f (ws := [(252, []), (253, []), (254, []), (256, []), (251, []), (250, []), (249, []), (248, []), (111, [47])]) hrl (fr_t (fr_u (fr_u (fr_u (fr_u (fr_u (fr_0 _ _) hU10 rfl) hU12 rfl) hU14 rfl) hU16 rfl) hU18 rfl) (fr_s fU23 rfl)) (fun _ => rfl) (fun _ => rfl)) (by omega) (sb1_f (ws := [(252, []), (253, []), (254, []), (256, [])]) (sb1_f (ws := [(251, [])]) (sb1_f (ws := [(250, [])]) (sb1_f (ws := [(249, [])]) (sb1_f (ws := [(248, [])]) (sb1_f (ws := [(111, [])]) (hsb) (fr_u (fr_0 _ _) hU10 rfl) ⟨fun _ => rfl, fun _ => rfl, fun _ => rfl⟩) (fr_u (fr_0 _ _) hU12 rfl) ⟨fun _ => rfl, fun _ => rfl, fun _ => rfl⟩) (fr_u (fr_0 _ _) hU14 rfl) ⟨fun _ => rfl, fun _ => rfl, fun _ => rfl⟩) (fr_u (fr_0 _ _) hU16 rfl) ⟨fun _ => rfl, fun _ => rfl, fun _ => rfl⟩) (fr_u (fr_0 _ _) hU18 rfl) ⟨fun _ => rfl, fun _ => rfl, fun _ => rfl⟩) fU23 ⟨fun _ => rfl, fun _ => rfl, fun _ => rfl⟩)) cl_X11_470 (qd_c (by decide +kernel)) (nn_ _) rfl (rf_of rfl) (Nat.le_of_ble_eq_true rfl) (Nat.le_of_ble_eq_true rfl) (Nat.le_of_ble_eq_true rfl) rfl ?_
        rintro U25 _ ⟨rfl, fU25, ⟨qU25, qU25o, qU25b, qU25p, qU25e⟩⟩
        show J_ zX11_event T (po_X11_event_e T ru m k s p q) 0 0 120 _ [] U25
        refine j_blx (F := fX11) tb_X11 (nn_ _) bk_X11_event_e_120 bs_X11_event_e_120 hz (fun K hK => ?_)
        refine ix_i (by omega) ?_
        intro b26 b26b
        have e27 : U25 254 0 m = U23 254 0 m := fU25 254 0 m rfl
        rw [e27] at b26 b26b ⊢
        refine (show po_X11_event_e T ru m k s p q U25 (some (vI (U23 254 0 m))) from ?_)
        have e28 : U25 111 0 47 = (T 111 0 47) + 1 := (fU25 111 0 47 rfl).trans ((fU23 111 0 47 rfl).trans ((up_k hU18 (by exact Nat.ne_of_beq_eq_false rfl) 0 47).trans ((up_k hU16 (by exact Nat.ne_of_beq_eq_false rfl) 0 47).trans ((up_k hU14 (by exact Nat.ne_of_beq_eq_false rfl) 0 47).trans ((up_k hU12 (by exact Nat.ne_of_beq_eq_false rfl) 0 47).trans (up_f hU10))))))
        have e29 : U25 254 0 m = U23 254 0 m := fU25 254 0 m rfl
        have e30 : U25 256 0 m = U23 256 0 m := fU25 256 0 m rfl
        have fw : fr_ [(244, []), (241, []), (242, []), (243, []), (245, []), (246, []), (236, []), (237, []), (235, []), (252, []), (253, []), (254, []), (256, []), (251, []), (250, []), (249, []), (248, []), (111, [47])] T U25 := fr_t (fr_t (fr_u (fr_u (fr_u (fr_u (fr_u (fr_0 _ _) hU10 rfl) hU12 rfl) hU14 rfl) hU16 rfl) hU18 rfl) (fr_s fU23 rfl)) (fr_s fU25 rfl)
        have so5 : SO_ T U25 m := so_t (so_f (ws := [(252, []), (253, []), (254, []), (256, [])]) (so_f (ws := [(251, [])]) (so_f (ws := [(250, [])]) (so_f (ws := [(249, [])]) (so_f (ws := [(248, [])]) (so_f (ws := [(111, [])]) (so_r) (fr_u (fr_0 _ _) hU10 rfl) ⟨fun _ => rfl, fun _ => rfl, fun _ => rfl⟩) (fr_u (fr_0 _ _) hU12 rfl) ⟨fun _ => rfl, fun _ => rfl, fun _ => rfl⟩) (fr_u (fr_0 _ _) hU14 rfl) ⟨fun _ => rfl, fun _ => rfl, fun _ => rfl⟩) (fr_u (fr_0 _ _) hU16 rfl) ⟨fun _ => rfl, fun _ => rfl, fun _ => rfl⟩) (fr_u (fr_0 _ _) hU18 rfl) ⟨fun _ => rfl, fun _ => rfl, fun _ => rfl⟩) fU23 ⟨fun _ => rfl, fun _ => rfl, fun _ => rfl⟩) qU25o (fun j => (fU23 239 0 j rfl).trans ((up_k hU18 (by exact Nat.ne_of_beq_eq_false rfl) 0 j).trans ((up_k hU16 (by exact Nat.ne_of_beq_eq_false rfl) 0 j).trans ((up_k hU14 (by exact Nat.ne_of_beq_eq_false rfl) 0 j).trans ((up_k hU12 (by exact Nat.ne_of_beq_eq_false rfl) 0 j).trans (up_k hU10 (by exact Nat.ne_of_beq_eq_false rfl) 0 j))))))
        have er : ∀ j, U25 254 0 j = U23 254 0 j := fun j => fU25 254 0 j rfl
        have ep : ∀ j, U18 254 0 j = T 254 0 j := fun j => (up_k hU18 (by exact Nat.ne_of_beq_eq_false rfl) 0 j).trans ((up_k hU16 (by exact Nat.ne_of_beq_eq_false rfl) 0 j).trans ((up_k hU14 (by exact Nat.ne_of_beq_eq_false rfl) 0 j).trans ((up_k hU12 (by exact Nat.ne_of_beq_eq_false rfl) 0 j).trans (up_k hU10 (by exact Nat.ne_of_beq_eq_false rfl) 0 j))))
        have e1 : U25 254 0 m = T 254 0 m + 1 := by rw [er, qU23c, ep]
        have k9 : ∀ j, T 111 0 29 ≤ j ∨ j ≠ m → j ≠ m := fun j z => by omega
        have u1 : rp9_ U23 m = rp9_ T m := by rw [rp_x (T := U18) (T1 := U23) (m := m) (fun K j h => fU23 K 0 j (by rcases h with rfl | rfl | rfl | rfl | rfl | rfl | rfl | rfl | rfl | rfl | rfl <;> rfl)), rp_x (T := T) (T1 := U18) (m := m) (fun K j h => fz K 0 j (by rcases h with rfl | rfl | rfl | rfl | rfl | rfl | rfl | rfl | rfl | rfl | rfl <;> rfl))]
        have u2 : rp9_ U25 m = plR_ ru (rp9_ T m) m k s p q := by rw [qU25e, u1]
        have u3 : rw9_ U25 m = rw9_ T m ++ [(k, s, p, q)] := by rw [show rw9_ U25 m = rw9_ U23 m from rw_k (fun k x h => fU25 k 0 x (by rcases h with rfl | rfl | rfl | rfl <;> rfl)) (fun x => fU25 252 0 x rfl) (fU25 253 0 _ rfl) (fU25 254 0 _ rfl), qU23r, rwx m (by omega) (by omega), rcx]
        have u4 : OMR_ T U25 m := ⟨ro_t (rp_xo (fun K j h => (fU23 K 0 j (by rcases h with rfl | rfl | rfl | rfl | rfl | rfl | rfl | rfl | rfl | rfl | rfl <;> rfl)).trans (fz K 0 j (by rcases h with rfl | rfl | rfl | rfl | rfl | rfl | rfl | rfl | rfl | rfl | rfl <;> rfl)))) qU25p, fun j hj j0 j1 => ⟨(rw_k (fun k x h => fU25 k 0 x (by rcases h with rfl | rfl | rfl | rfl <;> rfl)) (fun x => fU25 252 0 x rfl) (fU25 253 0 _ rfl) (fU25 254 0 _ rfl)).trans ((qU23s j hj j0 (by omega)).trans (rwx j j0 j1)), (er j).trans ((qU23d j hj).trans (ep j)), (fU25 256 0 j rfl).trans ((qU23g j hj).trans ((up_k hU18 (by exact Nat.ne_of_beq_eq_false rfl) 0 j).trans ((up_k hU16 (by exact Nat.ne_of_beq_eq_false rfl) 0 j).trans ((up_k hU14 (by exact Nat.ne_of_beq_eq_false rfl) 0 j).trans ((up_k hU12 (by exact Nat.ne_of_beq_eq_false rfl) 0 j).trans (up_k hU10 (by exact Nat.ne_of_beq_eq_false rfl) 0 j))))))⟩⟩
        have u5 : U25 256 0 m = T 256 0 m := by rw [fU25 256 0 m rfl, qU23m, (up_k hU18 (by exact Nat.ne_of_beq_eq_false rfl) 0 m).trans ((up_k hU16 (by exact Nat.ne_of_beq_eq_false rfl) 0 m).trans ((up_k hU14 (by exact Nat.ne_of_beq_eq_false rfl) 0 m).trans ((up_k hU12 (by exact Nat.ne_of_beq_eq_false rfl) 0 m).trans (up_k hU10 (by exact Nat.ne_of_beq_eq_false rfl) 0 m))))]; omega
        have e31 : U25 111 0 47 = (T 111 0 47) + 1 := (fU25 111 0 47 rfl).trans ((fU23 111 0 47 rfl).trans ((up_k hU18 (by exact Nat.ne_of_beq_eq_false rfl) 0 47).trans ((up_k hU16 (by exact Nat.ne_of_beq_eq_false rfl) 0 47).trans ((up_k hU14 (by exact Nat.ne_of_beq_eq_false rfl) 0 47).trans ((up_k hU12 (by exact Nat.ne_of_beq_eq_false rfl) 0 47).trans (up_f hU10))))))
        exact ⟨_, rfl, fr_t (fr_t (fr_u (fr_u (fr_u (fr_u (fr_u (fr_0 _ _) hU10 rfl) hU12 rfl) hU14 rfl) hU16 rfl) hU18 rfl) (fr_s fU23 rfl)) (fr_s fU25 rfl), qU25, rx_f (qU23a) (fU25 111 0 29 rfl) (fU25 111 0 47 rfl) (fun k j h => fU25 k 0 j (by rcases h with rfl | rfl | rfl | rfl | rfl <;> rfl)), zs_o hzs so5 (fun j => fw 239 0 j rfl), gx_o (gx_x hgs) so5 (sb1_m (qU25b) (by omega)) (fun j hj => (er j).trans ((qU23d j hj).trans (ep j))), fun j hk => (fun (hj : j ≠ m) => ⟨(er j).trans ((qU23d j hj).trans (ep j)), (fU25 256 0 j rfl).trans ((qU23g j hj).trans ((up_k hU18 (by exact Nat.ne_of_beq_eq_false rfl) 0 j).trans ((up_k hU16 (by exact Nat.ne_of_beq_eq_false rfl) 0 j).trans ((up_k hU14 (by exact Nat.ne_of_beq_eq_false rfl) 0 j).trans ((up_k hU12 (by exact Nat.ne_of_beq_eq_false rfl) 0 j).trans (up_k hU10 (by exact Nat.ne_of_beq_eq_false rfl) 0 j))))))⟩) (by omega), Or.inr ⟨by omega, Or.inr (Or.inr ⟨by omega, by omega, by omega, u2, u3, (fU25 254 0 m rfl).symm, u5, u4⟩)⟩⟩
      · refine (show po_X11_event_e T ru m k s p q T (some (vI (-5))) from ?_)
        exact ⟨_, rfl, fr_0 _ _, hfm, hrx, hzs, hgs, fun _ _ => ⟨rfl, rfl⟩, Or.inr ⟨by omega, Or.inr (Or.inl ⟨by omega, by omega, rfl, rfl⟩)⟩⟩
    · refine rg_i (by omega) ?_
      refine (show po_X11_event_e T ru m k s p q T (some (vI ((-10) - x4))) from ?_)
      exact ⟨_, rfl, fr_0 _ _, hfm, hrx, hzs, hgs, fun _ _ => ⟨rfl, rfl⟩, Or.inr ⟨by omega, Or.inl ⟨by omega, by omega, rfl⟩⟩⟩
  · replace hx2 := hx2.resolve_left (fun z => absurd (c3.symm.trans z.1) (by decide))
    clear c3
    refine (show po_X11_event_e T ru m k s p q T (some (vI (-2))) from ?_)
    exact ⟨_, rfl, fr_0 _ _, hfm, hrx, hzs, hgs, fun _ _ => ⟨rfl, rfl⟩, Or.inl ⟨rfl, by omega, rfl⟩⟩
