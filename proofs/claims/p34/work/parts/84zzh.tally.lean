-- the house's tally, exactly: words
theorem wr_c {a b d : Int} (h : wr_ a = wr_ b) : wr_ (a + d) = wr_ (b + d) := by
  unfold wr_ at h ⊢
  omega
theorem wr_d {a : Int} : wr_ (wr_ a) = wr_ a := by
  unfold wr_
  omega
/-- lines by seats that are added to -/
def LV_ (T U : Zt) (D : Int → Int → Int) : Prop := ∀ x w : Int, 0 ≤ x → x < 12 → 0 ≤ w → w ≤ 6 → wr_ (U 542 0 (x * 8 + w)) = wr_ (T 542 0 (x * 8 + w) + D x w)
theorem lv_0 {T : Zt} : LV_ T T (fun _ _ => 0) := fun x w _ _ _ _ => by
  show wr_ (T 542 0 (x * 8 + w)) = wr_ (T 542 0 (x * 8 + w) + 0)
  rw [Int.add_zero]
theorem lv_k {T U U2 : Zt} {D : Int → Int → Int} (h : LV_ T U D) (e : ∀ j, U2 542 0 j = U 542 0 j) : LV_ T U2 D := fun x w a b c d => by
  rw [e]
  exact h x w a b c d
theorem lv_u {T U U2 : Zt} {D : Int → Int → Int} {j v y c q : Int} (h : LV_ T U D) (e : U2 = up_ U 542 0 j v) (hj : j = c * 8 + q) (hq : 0 ≤ q ∧ q ≤ 6) (hv : v = wr_ (U 542 0 j + y)) : LV_ T U2 (fun x w => D x w + cz_ (x = c ∧ w = q) y 0) := fun x w x0 x1 w0 w1 => by
  show wr_ (U2 542 0 (x * 8 + w)) = wr_ (T 542 0 (x * 8 + w) + (D x w + cz_ (x = c ∧ w = q) y 0))
  have g := h x w x0 x1 w0 w1
  by_cases z : x = c ∧ w = q
  · have e9 : x * 8 + w = j := by omega
    rw [cz_t z, e9, up_f e, hv, wr_d]
    rw [e9] at g
    rw [wr_c g, show T 542 0 j + D x w + y = T 542 0 j + (D x w + y) by omega]
  · rw [cz_f z, up_g e (fun p => z (by omega)), g, Int.add_zero]
theorem lv_t {T U U2 : Zt} {D D' : Int → Int → Int} (h : LV_ T U D) (g : LV_ U U2 D') : LV_ T U2 (fun x w => D x w + D' x w) := fun x w x0 x1 w0 w1 => by
  show wr_ (U2 542 0 (x * 8 + w)) = wr_ (T 542 0 (x * 8 + w) + (D x w + D' x w))
  rw [g x w x0 x1 w0 w1, wr_c (h x w x0 x1 w0 w1), Int.add_assoc]
theorem lv_e {T U : Zt} {D D' : Int → Int → Int} (h : LV_ T U D) (e : ∀ x w, 0 ≤ x → x < 12 → 0 ≤ w → w ≤ 6 → D x w = D' x w) : LV_ T U D' := fun x w x0 x1 w0 w1 => by
  rw [← e x w x0 x1 w0 w1]
  exact h x w x0 x1 w0 w1
/-- a row of places that are added to -/
def RV_ (k : Nat) (T U : Zt) (D : Int → Int) : Prop := ∀ j : Int, wr_ (U k 0 j) = wr_ (T k 0 j + D j)
theorem rv_0 {k : Nat} {T U : Zt} (e : ∀ j, U k 0 j = T k 0 j) : RV_ k T U (fun _ => 0) := fun j => by
  show wr_ (U k 0 j) = wr_ (T k 0 j + 0)
  rw [e, Int.add_zero]
theorem rv_k {k : Nat} {T U U2 : Zt} {D : Int → Int} (h : RV_ k T U D) (e : ∀ j, U2 k 0 j = U k 0 j) : RV_ k T U2 D := fun j => by
  rw [e]
  exact h j
theorem rv_b {k : Nat} {T0 T U : Zt} {D : Int → Int} (h : RV_ k T U D) (e : ∀ j, T k 0 j = T0 k 0 j) : RV_ k T0 U D := fun j => by
  rw [← e]
  exact h j
theorem rv_u {k : Nat} {T U U2 : Zt} {D : Int → Int} {j v y : Int} (h : RV_ k T U D) (e : U2 = up_ U k 0 j v) (hv : v = wr_ (U k 0 j + y)) : RV_ k T U2 (fun i => D i + cz_ (i = j) y 0) := fun i => by
  show wr_ (U2 k 0 i) = wr_ (T k 0 i + (D i + cz_ (i = j) y 0))
  have g := h i
  by_cases z : i = j
  · rw [cz_t z, z, up_f e, hv, wr_d]
    rw [z] at g
    rw [wr_c g, Int.add_assoc]
  · rw [cz_f z, up_g e (fun p => z p.2.2), g, Int.add_zero]
theorem rv_t {k : Nat} {T U U2 : Zt} {D D' : Int → Int} (h : RV_ k T U D) (g : RV_ k U U2 D') : RV_ k T U2 (fun i => D i + D' i) := fun i => by
  show wr_ (U2 k 0 i) = wr_ (T k 0 i + (D i + D' i))
  rw [g i, wr_c (h i), Int.add_assoc]
theorem rv_e {k : Nat} {T U : Zt} {D D' : Int → Int} (h : RV_ k T U D) (e : ∀ i, D i = D' i) : RV_ k T U D' := fun i => by
  rw [← e i]
  exact h i
/-- the columns of one side -/
theorem sd_d {ru : Int → Int} {x s w v a b p : Int} (hv : (v = 1 ∧ b < a ∧ p = ru 1) ∨ (v = 2 ∧ a = b ∧ p = ru 2) ∨ (v = 3 ∧ a < b ∧ p = ru 3)) (w0 : 0 ≤ w) (w1 : w ≤ 6) : 0 + cz_ (x = s ∧ w = 0) 1 0 + cz_ (x = s ∧ w = v) 1 0 + cz_ (x = s ∧ w = 4) a 0 + cz_ (x = s ∧ w = 5) b 0 + cz_ (x = s ∧ w = 6) p 0 = cz_ (x = s) (cv9_ ru w a b) 0 := by
  by_cases z : x = s
  · have N : ∀ q y : Int, ¬ w = q → cz_ (x = s ∧ w = q) y 0 = 0 := fun q y n => cz_f (fun t => n t.2)
    have P : ∀ q y : Int, w = q → cz_ (x = s ∧ w = q) y 0 = y := fun q y e => cz_t ⟨z, e⟩
    rw [cz_t z]
    rcases (by omega : w = 0 ∨ w = 1 ∨ w = 2 ∨ w = 3 ∨ w = 4 ∨ w = 5 ∨ w = 6) with e | e | e | e | e | e | e
    · rw [P 0 1 e, N v 1 (by omega), N 4 a (by omega), N 5 b (by omega), N 6 p (by omega), e, cv_0]; omega
    · rw [N 0 1 (by omega), N 4 a (by omega), N 5 b (by omega), N 6 p (by omega)]
      by_cases h : b < a
      · rw [P v 1 (by omega), e, cv_1t h]; omega
      · rw [N v 1 (by omega), e, cv_1f h]; omega
    · rw [N 0 1 (by omega), N 4 a (by omega), N 5 b (by omega), N 6 p (by omega)]
      by_cases h : a = b
      · rw [P v 1 (by omega), e, cv_2t h]; omega
      · rw [N v 1 (by omega), e, cv_2f h]; omega
    · rw [N 0 1 (by omega), N 4 a (by omega), N 5 b (by omega), N 6 p (by omega)]
      by_cases h : a < b
      · rw [P v 1 (by omega), e, cv_3t h]; omega
      · rw [N v 1 (by omega), e, cv_3f h]; omega
    · rw [N 0 1 (by omega), N v 1 (by omega), P 4 a e, N 5 b (by omega), N 6 p (by omega), e, cv_4]; omega
    · rw [N 0 1 (by omega), N v 1 (by omega), N 4 a (by omega), P 5 b e, N 6 p (by omega), e, cv_5]; omega
    · rw [N 0 1 (by omega), N v 1 (by omega), N 4 a (by omega), N 5 b (by omega), P 6 p e, e, cv_6]
      rcases hv with h | h | h
      · rw [pt_1 h.2.1]; omega
      · rw [pt_2 h.2.1]; omega
      · rw [pt_3 h.2.1]; omega
  · have N : ∀ q y : Int, cz_ (x = s ∧ w = q) y 0 = 0 := fun q y => cz_f (fun t => z t.1)
    rw [N, N, N, N, N, cz_f z]
    rfl
/-- what the house tells of match m up to day d -/
noncomputable def fr9h_ (T : Zt) (m b : Int) : Nat → Int
  | 0 => 0
  | n + 1 => fr9h_ T m b n + (T 473 m (b + (n : Int)) + cz_ (T 472 m (b + (n : Int)) = 3) 3 0)
noncomputable def vH_ (T : Zt) (d m : Int) : Int → Int := fun i =>
  if i = 0 then cz_ ((T 102 m 6 ≠ -1 ∨ (T 102 m 10 ≠ 0 ∧ T 103 m 3 ≠ 0)) ∧ T 102 m 5 ≤ d) 1 0
  else if i = 1 then T 102 m 3 else if i = 2 then T 102 m 4
  else if i = 3 then cz_ (T 102 m 6 ≠ -1) (cz_ (T 102 m 6 = 0) 0 (T 401 (T 102 m 0) 12)) (cz_ (T 102 m 10 = 0) 0 (T 468 m 0))
  else if i = 4 then cz_ (T 102 m 6 ≠ -1) (cz_ (T 102 m 6 = 1) 0 (T 401 (T 102 m 0) 12)) (cz_ (T 102 m 10 = 0) 0 (T 468 m 1))
  else if i = 5 then cz_ (T 102 m 10 = 0) 0 (fr9h_ T m 0 (T 449 m 0).toNat)
  else cz_ (T 102 m 10 = 0) 0 (fr9h_ T m 10 (T 449 m 1).toNat)
theorem vh_0 {T : Zt} {d m : Int} : vH_ T d m 0 = cz_ ((T 102 m 6 ≠ -1 ∨ (T 102 m 10 ≠ 0 ∧ T 103 m 3 ≠ 0)) ∧ T 102 m 5 ≤ d) 1 0 := by
  unfold vH_
  rw [if_pos rfl]
theorem vh_1 {T : Zt} {d m : Int} : vH_ T d m 1 = T 102 m 3 := by
  unfold vH_
  rw [if_neg (by decide), if_pos rfl]
theorem vh_2 {T : Zt} {d m : Int} : vH_ T d m 2 = T 102 m 4 := by
  unfold vH_
  rw [if_neg (by decide), if_neg (by decide), if_pos rfl]
theorem vh_3 {T : Zt} {d m : Int} : vH_ T d m 3 = cz_ (T 102 m 6 ≠ -1) (cz_ (T 102 m 6 = 0) 0 (T 401 (T 102 m 0) 12)) (cz_ (T 102 m 10 = 0) 0 (T 468 m 0)) := by
  unfold vH_
  rw [if_neg (by decide), if_neg (by decide), if_neg (by decide), if_pos rfl]
theorem vh_4 {T : Zt} {d m : Int} : vH_ T d m 4 = cz_ (T 102 m 6 ≠ -1) (cz_ (T 102 m 6 = 1) 0 (T 401 (T 102 m 0) 12)) (cz_ (T 102 m 10 = 0) 0 (T 468 m 1)) := by
  unfold vH_
  rw [if_neg (by decide), if_neg (by decide), if_neg (by decide), if_neg (by decide), if_pos rfl]
theorem vh_5 {T : Zt} {d m : Int} : vH_ T d m 5 = cz_ (T 102 m 10 = 0) 0 (fr9h_ T m 0 (T 449 m 0).toNat) := by
  unfold vH_
  rw [if_neg (by decide), if_neg (by decide), if_neg (by decide), if_neg (by decide), if_neg (by decide), if_pos rfl]
theorem vh_6 {T : Zt} {d m : Int} : vH_ T d m 6 = cz_ (T 102 m 10 = 0) 0 (fr9h_ T m 10 (T 449 m 1).toNat) := by
  unfold vH_
  rw [if_neg (by decide), if_neg (by decide), if_neg (by decide), if_neg (by decide), if_neg (by decide), if_neg (by decide)]
theorem rv_w {k : Nat} {T U U2 : Zt} {D : Int → Int} {j v y : Int} (h : RV_ k T U D) (e : U2 = up_ U k 0 j v) (hv : v = wr_ (U k 0 j + wr_ y)) : RV_ k T U2 (fun i => D i + cz_ (i = j) y 0) := rv_u h e (by rw [hv]; unfold wr_; omega)
theorem cz_q {P : Prop} {a b y : Int} (h : P ↔ a = b) : cz_ P y 0 = (if a = b then y else 0) := by
  by_cases z : a = b
  · rw [if_pos z, cz_t (h.2 z)]
  · rw [if_neg z, cz_f (fun q => z (h.1 q))]
/-- seats and clubs fit -/
def SK_ (T : Zt) (c : Int) : Prop := (∀ j : Int, 0 ≤ j → j < T 100 c 5 → T 404 c (T 403 c j) = j) ∧ ∀ b : Int, 0 ≤ b → b < 12 → T 404 c b = -1 ∨ (0 ≤ T 404 c b ∧ T 404 c b < T 100 c 5 ∧ T 403 c (T 404 c b) = b)
theorem sk_i {T : Zt} {c x b : Int} (h : SK_ T c) (hx : 0 ≤ x ∧ x < T 100 c 5) (hb : 0 ≤ b ∧ b < 12) (hs : 0 ≤ T 404 c b) : x = T 404 c b ↔ b = T 403 c x := by
  have k := h.1 x hx.1 hx.2
  have g := h.2 b hb.1 hb.2
  refine ⟨fun e => ?_, fun e => ?_⟩
  · rcases g with g | g
    · omega
    · rw [e]; exact g.2.2.symm
  · rw [e, k]
/-- what the house has added up after n matches -/
def HT_ (T U : Zt) (ru : Int → Int) (v : Mv_) (c : Int) (n : Nat) : Prop :=
  (∀ x w : Int, 0 ≤ x → x < T 100 c 5 → 0 ≤ w → w ≤ 6 → wr_ (U 542 0 (x * 8 + w)) = wr_ (tn9_ ru v (T 403 c x) w n)) ∧
  (∀ x : Int, 0 ≤ x → x < T 100 c 5 → wr_ (U 543 0 x) = wr_ (tn9_ ru v (T 403 c x) 7 n)) ∧
  (∀ x : Int, 0 ≤ x → x < T 100 c 5 → wr_ (U 544 0 x) = wr_ (tn9_ ru v (T 403 c x) 8 n)) ∧
  (∀ x y : Int, 0 ≤ x → x < T 100 c 5 → 0 ≤ y → y < T 100 c 5 → wr_ (U 545 0 (x * 12 + y)) = wr_ (hp9_ ru v (T 403 c x) (T 403 c y) n)) ∧
  (∀ x y : Int, 0 ≤ x → x < T 100 c 5 → 0 ≤ y → y < T 100 c 5 → wr_ (U 546 0 (x * 12 + y)) = wr_ (hs9_ v (T 403 c x) (T 403 c y) n))
theorem ht_0 {T U : Zt} {ru : Int → Int} {v : Mv_} {c : Int} (he : T 100 c 5 ≤ 12) (h2 : ∀ j, 0 ≤ j → j < 96 → U 542 0 j = 0) (h3 : ∀ j, 0 ≤ j → j < 12 → U 543 0 j = 0) (h4 : ∀ j, 0 ≤ j → j < 12 → U 544 0 j = 0) (h5 : ∀ j, 0 ≤ j → j < 144 → U 545 0 j = 0) (h6 : ∀ j, 0 ≤ j → j < 144 → U 546 0 j = 0) : HT_ T U ru v c 0 :=
  ⟨fun x w a b c d => congrArg wr_ (h2 _ (by omega) (by omega)), fun x a b => congrArg wr_ (h3 _ (by omega) (by omega)), fun x a b => congrArg wr_ (h4 _ (by omega) (by omega)), fun x y a b c d => congrArg wr_ (h5 _ (by omega) (by omega)), fun x y a b c d => congrArg wr_ (h6 _ (by omega) (by omega))⟩
theorem ht_k {T U U2 : Zt} {ru : Int → Int} {v : Mv_} {c : Int} {n : Nat} (h : HT_ T U ru v c n) (e : ∀ (k : Nat) (j : Int), k = 542 ∨ k = 543 ∨ k = 544 ∨ k = 545 ∨ k = 546 → U2 k 0 j = U k 0 j) : HT_ T U2 ru v c n := by
  obtain ⟨h1, h2, h3, h4, h5⟩ := h
  refine ⟨fun x w a b c d => ?_, fun x a b => ?_, fun x a b => ?_, fun x y a b c d => ?_, fun x y a b c d => ?_⟩
  · rw [e 542 _ (by decide)]; exact h1 x w a b c d
  · rw [e 543 _ (by decide)]; exact h2 x a b
  · rw [e 544 _ (by decide)]; exact h3 x a b
  · rw [e 545 _ (by decide)]; exact h4 x y a b c d
  · rw [e 546 _ (by decide)]; exact h5 x y a b c d
theorem ht_z {T U U2 : Zt} {ru : Int → Int} {v : Mv_} {c : Int} {n : Nat} (h : HT_ T U ru v c n) (z : v (n : Int) 0 ≠ 1) (e : ∀ (k : Nat) (j : Int), k = 542 ∨ k = 543 ∨ k = 544 ∨ k = 545 ∨ k = 546 → U2 k 0 j = U k 0 j) : HT_ T U2 ru v c (n + 1) := by
  obtain ⟨h1, h2, h3, h4, h5⟩ := ht_k h e
  have t : ∀ x w, tn9_ ru v x w (n + 1) = tn9_ ru v x w n := fun x w => by
    show tn9_ ru v x w n + td9_ ru v x w (n : Int) = _
    rw [td_0 z, Int.add_zero]
  have p : ∀ x y, hp9_ ru v x y (n + 1) = hp9_ ru v x y n := fun x y => by
    show hp9_ ru v x y n + hq9_ ru v x y (n : Int) = _
    rw [show hq9_ ru v x y (n : Int) = 0 from cz_f z, Int.add_zero]
  have s : ∀ x y, hs9_ v x y (n + 1) = hs9_ v x y n := fun x y => by
    show hs9_ v x y n + hg9_ v x y (n : Int) = _
    rw [show hg9_ v x y (n : Int) = 0 from cz_f z, Int.add_zero]
  refine ⟨fun x w a b c d => ?_, fun x a b => ?_, fun x a b => ?_, fun x y a b c d => ?_, fun x y a b c d => ?_⟩
  · rw [t]; exact h1 x w a b c d
  · rw [t]; exact h2 x a b
  · rw [t]; exact h3 x a b
  · rw [p]; exact h4 x y a b c d
  · rw [s]; exact h5 x y a b c d
/-- a match that counts is added -/
theorem ht_s {T U U2 : Zt} {ru : Int → Int} {v : Mv_} {c hm aw a b f g : Int} {n : Nat} (h : HT_ T U ru v c n) (sk : SK_ T c) (he : T 100 c 5 ≤ 12) (h1 : 0 ≤ hm ∧ hm < 12) (h2 : 0 ≤ aw ∧ aw < 12) (s1 : 0 ≤ T 404 c hm ∧ T 404 c hm < 12) (s2 : 0 ≤ T 404 c aw ∧ T 404 c aw < 12)
    (g0 : v (n : Int) 0 = 1) (g1 : v (n : Int) 1 = hm) (g2 : v (n : Int) 2 = aw) (g3 : v (n : Int) 3 = a) (g4 : v (n : Int) 4 = b) (g5 : v (n : Int) 5 = f) (g6 : v (n : Int) 6 = g)
    (l : LV_ U U2 (fun x w => cz_ (x = T 404 c hm) (cv9_ ru w a b) 0 + cz_ (x = T 404 c aw) (cv9_ ru w b a) 0)) (r3 : RV_ 543 U U2 (fun j => cz_ (j = T 404 c aw) b 0)) (r4 : RV_ 544 U U2 (fun j => cz_ (j = T 404 c hm) f 0 + cz_ (j = T 404 c aw) g 0))
    (r5 : RV_ 545 U U2 (fun j => cz_ (j = T 404 c hm * 12 + T 404 c aw) (ptm9_ ru a b) 0 + cz_ (j = T 404 c aw * 12 + T 404 c hm) (ptm9_ ru b a) 0)) (r6 : RV_ 546 U U2 (fun j => cz_ (j = T 404 c hm * 12 + T 404 c aw) a 0 + cz_ (j = T 404 c aw * 12 + T 404 c hm) b 0)) : HT_ T U2 ru v c (n + 1) := by
  obtain ⟨k1, k2, k3, k4, k5⟩ := h
  have i1 : ∀ x, 0 ≤ x → x < T 100 c 5 → (x = T 404 c hm ↔ v (n : Int) 1 = T 403 c x) := fun x p q => by
    rw [g1]
    exact sk_i sk ⟨p, q⟩ h1 s1.1
  have i2 : ∀ x, 0 ≤ x → x < T 100 c 5 → (x = T 404 c aw ↔ v (n : Int) 2 = T 403 c x) := fun x p q => by
    rw [g2]
    exact sk_i sk ⟨p, q⟩ h2 s2.1
  refine ⟨fun x w p q w0 w1 => ?_, fun x p q => ?_, fun x p q => ?_, fun x y p q p' q' => ?_, fun x y p q p' q' => ?_⟩
  · rw [l x w p (by omega) w0 w1, wr_c (k1 x w p q w0 w1)]
    show wr_ (tn9_ ru v (T 403 c x) w n + (cz_ (x = T 404 c hm) (cv9_ ru w a b) 0 + cz_ (x = T 404 c aw) (cv9_ ru w b a) 0)) = wr_ (tn9_ ru v (T 403 c x) w n + td9_ ru v (T 403 c x) w (n : Int))
    rw [td_1 g0, if_neg (by omega), if_neg (by omega), g3, g4, cz_q (i1 x p q), cz_q (i2 x p q)]
  · rw [r3 x, wr_c (k2 x p q)]
    show wr_ (tn9_ ru v (T 403 c x) 7 n + cz_ (x = T 404 c aw) b 0) = wr_ (tn9_ ru v (T 403 c x) 7 n + td9_ ru v (T 403 c x) 7 (n : Int))
    rw [td_1 g0, if_pos rfl, g4, cz_q (i2 x p q)]
  · rw [r4 x, wr_c (k3 x p q)]
    show wr_ (tn9_ ru v (T 403 c x) 8 n + (cz_ (x = T 404 c hm) f 0 + cz_ (x = T 404 c aw) g 0)) = wr_ (tn9_ ru v (T 403 c x) 8 n + td9_ ru v (T 403 c x) 8 (n : Int))
    rw [td_1 g0, if_neg (by decide), if_pos rfl, g5, g6, cz_q (i1 x p q), cz_q (i2 x p q)]
  · have e1 : x * 12 + y = T 404 c hm * 12 + T 404 c aw ↔ v (n : Int) 1 = T 403 c x ∧ v (n : Int) 2 = T 403 c y := by
      rw [← i1 x p q, ← i2 y p' q']
      omega
    have e2 : x * 12 + y = T 404 c aw * 12 + T 404 c hm ↔ v (n : Int) 2 = T 403 c x ∧ v (n : Int) 1 = T 403 c y := by
      rw [← i2 x p q, ← i1 y p' q']
      omega
    rw [r5 (x * 12 + y), wr_c (k4 x y p q p' q')]
    show wr_ (hp9_ ru v (T 403 c x) (T 403 c y) n + (cz_ (x * 12 + y = T 404 c hm * 12 + T 404 c aw) (ptm9_ ru a b) 0 + cz_ (x * 12 + y = T 404 c aw * 12 + T 404 c hm) (ptm9_ ru b a) 0)) = wr_ (hp9_ ru v (T 403 c x) (T 403 c y) n + hq9_ ru v (T 403 c x) (T 403 c y) (n : Int))
    rw [show hq9_ ru v (T 403 c x) (T 403 c y) (n : Int) = cz_ (v (n : Int) 1 = T 403 c x ∧ v (n : Int) 2 = T 403 c y) (ptm9_ ru (v (n : Int) 3) (v (n : Int) 4)) 0 + cz_ (v (n : Int) 2 = T 403 c x ∧ v (n : Int) 1 = T 403 c y) (ptm9_ ru (v (n : Int) 4) (v (n : Int) 3)) 0 from cz_t g0, g3, g4, cz_g e1, cz_g e2]
  · have e1 : x * 12 + y = T 404 c hm * 12 + T 404 c aw ↔ v (n : Int) 1 = T 403 c x ∧ v (n : Int) 2 = T 403 c y := by
      rw [← i1 x p q, ← i2 y p' q']
      omega
    have e2 : x * 12 + y = T 404 c aw * 12 + T 404 c hm ↔ v (n : Int) 2 = T 403 c x ∧ v (n : Int) 1 = T 403 c y := by
      rw [← i2 x p q, ← i1 y p' q']
      omega
    rw [r6 (x * 12 + y), wr_c (k5 x y p q p' q')]
    show wr_ (hs9_ v (T 403 c x) (T 403 c y) n + (cz_ (x * 12 + y = T 404 c hm * 12 + T 404 c aw) a 0 + cz_ (x * 12 + y = T 404 c aw * 12 + T 404 c hm) b 0)) = wr_ (hs9_ v (T 403 c x) (T 403 c y) n + hg9_ v (T 403 c x) (T 403 c y) (n : Int))
    rw [show hg9_ v (T 403 c x) (T 403 c y) (n : Int) = cz_ (v (n : Int) 1 = T 403 c x ∧ v (n : Int) 2 = T 403 c y) (v (n : Int) 3) 0 + cz_ (v (n : Int) 2 = T 403 c x ∧ v (n : Int) 1 = T 403 c y) (v (n : Int) 4) 0 from cz_t g0, g3, g4, cz_g e1, cz_g e2]
/-- what is taken from a club, up to the n-th deduction of the house -/
noncomputable def dh9_ (T : Zt) (c d x : Int) : Nat → Int
  | 0 => 0
  | n + 1 => dh9_ T c d x n + cz_ (T 527 0 (n : Int) = c ∧ T 528 0 (n : Int) = x ∧ T 530 0 (n : Int) ≤ d) (T 529 0 (n : Int)) 0
theorem dh_t {T : Zt} {c d x : Int} {i : Int} (hi : 0 ≤ i) (h : T 527 0 i = c ∧ T 528 0 i = x ∧ T 530 0 i ≤ d) : dh9_ T c d x (i + 1).toNat = dh9_ T c d x i.toNat + T 529 0 i := by
  rw [show (i + 1).toNat = i.toNat + 1 by omega]
  show dh9_ T c d x i.toNat + cz_ (T 527 0 ((i.toNat : Nat) : Int) = c ∧ T 528 0 ((i.toNat : Nat) : Int) = x ∧ T 530 0 ((i.toNat : Nat) : Int) ≤ d) (T 529 0 ((i.toNat : Nat) : Int)) 0 = _
  rw [show ((i.toNat : Nat) : Int) = i by omega, cz_t h]
theorem dh_f {T : Zt} {c d x : Int} {i : Int} (hi : 0 ≤ i) (h : ¬ (T 527 0 i = c ∧ T 528 0 i = x ∧ T 530 0 i ≤ d)) : dh9_ T c d x (i + 1).toNat = dh9_ T c d x i.toNat := by
  rw [show (i + 1).toNat = i.toNat + 1 by omega]
  show dh9_ T c d x i.toNat + cz_ (T 527 0 ((i.toNat : Nat) : Int) = c ∧ T 528 0 ((i.toNat : Nat) : Int) = x ∧ T 530 0 ((i.toNat : Nat) : Int) ≤ d) (T 529 0 ((i.toNat : Nat) : Int)) 0 = _
  rw [show ((i.toNat : Nat) : Int) = i by omega, cz_f h, Int.add_zero]
theorem dh_k {T U : Zt} (h : ∀ (k : Nat) (j : Int), k = 527 ∨ k = 528 ∨ k = 529 ∨ k = 530 → U k 0 j = T k 0 j) {c d x : Int} : ∀ n : Nat, dh9_ U c d x n = dh9_ T c d x n
  | 0 => rfl
  | n + 1 => by
    show dh9_ U c d x n + cz_ (U 527 0 (n : Int) = c ∧ U 528 0 (n : Int) = x ∧ U 530 0 (n : Int) ≤ d) (U 529 0 (n : Int)) 0 = dh9_ T c d x n + cz_ (T 527 0 (n : Int) = c ∧ T 528 0 (n : Int) = x ∧ T 530 0 (n : Int) ≤ d) (T 529 0 (n : Int)) 0
    rw [dh_k h n, h 527 _ (by decide), h 528 _ (by decide), h 529 _ (by decide), h 530 _ (by decide)]
/-- the deductions are taken, up to seat i -/
def HD_ (T U U2 : Zt) (c d i : Int) : Prop := ∀ x w : Int, 0 ≤ x → x < T 100 c 5 → 0 ≤ w → w ≤ 6 → wr_ (U2 542 0 (x * 8 + w)) = wr_ (U 542 0 (x * 8 + w) - cz_ (w = 6 ∧ x < i) (dh9_ T c d (T 403 c x) (T 106 0 6).toNat) 0)
theorem hd_0 {T U U2 : Zt} {c d : Int} (e : ∀ j, U2 542 0 j = U 542 0 j) : HD_ T U U2 c d 0 := fun x w a b c d => by
  rw [e, cz_f (fun q => by omega), Int.sub_zero]
theorem hd_s {T U U2 U3 : Zt} {c d i j v y : Int} (h : HD_ T U U2 c d i) (e : U3 = up_ U2 542 0 j v) (hj : j = i * 8 + 6) (hv : v = wr_ (U2 542 0 j - y)) (hy : y = dh9_ T c d (T 403 c i) (T 106 0 6).toNat) : HD_ T U U3 c d (i + 1) := fun x w a b w0 w1 => by
  have g := h x w a b w0 w1
  by_cases z : w = 6 ∧ x = i
  · have e9 : x * 8 + w = j := by omega
    rw [cz_f (fun q => by omega), Int.sub_zero] at g
    rw [cz_t ⟨z.1, by omega⟩, e9, up_f e, hv, wr_d, z.2, ← hy]
    rw [e9] at g
    unfold wr_ at g ⊢
    omega
  · rw [up_g e (fun p => z (by omega)), g, cz_g (P := w = 6 ∧ x < i) (Q := w = 6 ∧ x < i + 1) ⟨fun q => ⟨q.1, by omega⟩, fun q => ⟨q.1, by omega⟩⟩]
theorem bk_X7_addSide_e_27 : ck_ fX7 none cX7_addSide 27 [.istore 6, .aload 0, .tableswitch 0 7 1 #[], .tableswitch 0 0 1 #[], .iconst 1, .iload 6, .iadd, .iconst 1, .isub, .iaload, .istore 7, .aload 0, .tableswitch 0 7 2 #[], .iload 5, .iconst 0, .iadd, .dup2, .iaload, .iconst 1, .fadd, .iastore, .aload 0, .tableswitch 0 7 2 #[], .iload 5, .iload 6, .iadd, .dup2, .iaload, .iconst 1, .fadd, .iastore, .aload 0, .tableswitch 0 7 2 #[], .iload 5, .iconst 4, .iadd, .dup2, .iaload, .iload 3, .fadd, .iastore, .aload 0, .tableswitch 0 7 2 #[], .iload 5, .iconst 5, .iadd, .dup2, .iaload, .iload 4, .fadd, .iastore, .aload 0, .tableswitch 0 7 2 #[], .iload 5, .iconst 6, .iadd, .dup2, .iaload, .iload 7, .fadd, .iastore, .aload 0, .tableswitch 0 7 5 #[], .iload 1, .iconst 12, .imul, .iload 2, .iadd, .dup2, .iaload, .iload 7, .fadd, .iastore, .aload 0, .tableswitch 0 7 6 #[], .iload 1, .iconst 12, .imul, .iload 2, .iadd, .dup2, .iaload, .iload 3, .fadd, .iastore, .return_] 146 = true := qck_r (nn_ _) (by decide +kernel)
theorem bs_X7_addSide_e_27 {P : Zt → Option Zv → Prop} (K : Int → Zl → List Zv → Zt → Prop) : sx_ K P [.istore 6, .aload 0, .tableswitch 0 7 1 #[], .tableswitch 0 0 1 #[], .iconst 1, .iload 6, .iadd, .iconst 1, .isub, .iaload, .istore 7, .aload 0, .tableswitch 0 7 2 #[], .iload 5, .iconst 0, .iadd, .dup2, .iaload, .iconst 1, .fadd, .iastore, .aload 0, .tableswitch 0 7 2 #[], .iload 5, .iload 6, .iadd, .dup2, .iaload, .iconst 1, .fadd, .iastore, .aload 0, .tableswitch 0 7 2 #[], .iload 5, .iconst 4, .iadd, .dup2, .iaload, .iload 3, .fadd, .iastore, .aload 0, .tableswitch 0 7 2 #[], .iload 5, .iconst 5, .iadd, .dup2, .iaload, .iload 4, .fadd, .iastore, .aload 0, .tableswitch 0 7 2 #[], .iload 5, .iconst 6, .iadd, .dup2, .iaload, .iload 7, .fadd, .iastore, .aload 0, .tableswitch 0 7 5 #[], .iload 1, .iconst 12, .imul, .iload 2, .iadd, .dup2, .iaload, .iload 7, .fadd, .iastore, .aload 0, .tableswitch 0 7 6 #[], .iload 1, .iconst 12, .imul, .iload 2, .iadd, .dup2, .iaload, .iload 3, .fadd, .iastore, .return_] 146 = x_istore 6 (x_aload 0 (x_g5 107 100 1 (x_g2 100 401 (x_iconst 1 (x_iload 6 (x_iadd (x_iconst 1 (x_isub (x_iaload (x_istore 7 (x_aload 0 (x_g1 107 542 (x_iload 5 (x_iconst 0 (x_iadd (x_dup2 (x_iaload (x_iconst 1 (x_fadd (x_iastore (x_aload 0 (x_g1 107 542 (x_iload 5 (x_iload 6 (x_iadd (x_dup2 (x_iaload (x_iconst 1 (x_fadd (x_iastore (x_aload 0 (x_g1 107 542 (x_iload 5 (x_iconst 4 (x_iadd (x_dup2 (x_iaload (x_iload 3 (x_fadd (x_iastore (x_aload 0 (x_g1 107 542 (x_iload 5 (x_iconst 5 (x_iadd (x_dup2 (x_iaload (x_iload 4 (x_fadd (x_iastore (x_aload 0 (x_g1 107 542 (x_iload 5 (x_iconst 6 (x_iadd (x_dup2 (x_iaload (x_iload 7 (x_fadd (x_iastore (x_aload 0 (x_g1 107 545 (x_iload 1 (x_iconst 12 (x_imul (x_iload 2 (x_iadd (x_dup2 (x_iaload (x_iload 7 (x_fadd (x_iastore (x_aload 0 (x_g1 107 546 (x_iload 1 (x_iconst 12 (x_imul (x_iload 2 (x_iadd (x_dup2 (x_iaload (x_iload 3 (x_fadd (x_iastore (x_return_ P))))))))))))))))))))))))))))))))))))))))))))))))))))))))))))))))))))))))))))))))))))) := ((xe_istore 6).trans (congrArg (x_istore 6) ((xe_aload 0).trans (congrArg (x_aload 0) ((xe_g5 (kk := 107) rfl tl_7_1).trans (congrArg (x_g5 107 100 1) ((xe_g2 (kk := 100) rfl tl_0_1).trans (congrArg (x_g2 100 401) ((xe_iconst 1).trans (congrArg (x_iconst 1) ((xe_iload 6).trans (congrArg (x_iload 6) ((xe_iadd).trans (congrArg (x_iadd) ((xe_iconst 1).trans (congrArg (x_iconst 1) ((xe_isub).trans (congrArg (x_isub) ((xe_iaload).trans (congrArg (x_iaload) ((xe_istore 7).trans (congrArg (x_istore 7) ((xe_aload 0).trans (congrArg (x_aload 0) ((xe_g1 (kk := 107) rfl tl_7_2).trans (congrArg (x_g1 107 542) ((xe_iload 5).trans (congrArg (x_iload 5) ((xe_iconst 0).trans (congrArg (x_iconst 0) ((xe_iadd).trans (congrArg (x_iadd) ((xe_dup2).trans (congrArg (x_dup2) ((xe_iaload).trans (congrArg (x_iaload) ((xe_iconst 1).trans (congrArg (x_iconst 1) ((xe_fadd).trans (congrArg (x_fadd) ((xe_iastore).trans (congrArg (x_iastore) ((xe_aload 0).trans (congrArg (x_aload 0) ((xe_g1 (kk := 107) rfl tl_7_2).trans (congrArg (x_g1 107 542) ((xe_iload 5).trans (congrArg (x_iload 5) ((xe_iload 6).trans (congrArg (x_iload 6) ((xe_iadd).trans (congrArg (x_iadd) ((xe_dup2).trans (congrArg (x_dup2) ((xe_iaload).trans (congrArg (x_iaload) ((xe_iconst 1).trans (congrArg (x_iconst 1) ((xe_fadd).trans (congrArg (x_fadd) ((xe_iastore).trans (congrArg (x_iastore) ((xe_aload 0).trans (congrArg (x_aload 0) ((xe_g1 (kk := 107) rfl tl_7_2).trans (congrArg (x_g1 107 542) ((xe_iload 5).trans (congrArg (x_iload 5) ((xe_iconst 4).trans (congrArg (x_iconst 4) ((xe_iadd).trans (congrArg (x_iadd) ((xe_dup2).trans (congrArg (x_dup2) ((xe_iaload).trans (congrArg (x_iaload) ((xe_iload 3).trans (congrArg (x_iload 3) ((xe_fadd).trans (congrArg (x_fadd) ((xe_iastore).trans (congrArg (x_iastore) ((xe_aload 0).trans (congrArg (x_aload 0) ((xe_g1 (kk := 107) rfl tl_7_2).trans (congrArg (x_g1 107 542) ((xe_iload 5).trans (congrArg (x_iload 5) ((xe_iconst 5).trans (congrArg (x_iconst 5) ((xe_iadd).trans (congrArg (x_iadd) ((xe_dup2).trans (congrArg (x_dup2) ((xe_iaload).trans (congrArg (x_iaload) ((xe_iload 4).trans (congrArg (x_iload 4) ((xe_fadd).trans (congrArg (x_fadd) ((xe_iastore).trans (congrArg (x_iastore) ((xe_aload 0).trans (congrArg (x_aload 0) ((xe_g1 (kk := 107) rfl tl_7_2).trans (congrArg (x_g1 107 542) ((xe_iload 5).trans (congrArg (x_iload 5) ((xe_iconst 6).trans (congrArg (x_iconst 6) ((xe_iadd).trans (congrArg (x_iadd) ((xe_dup2).trans (congrArg (x_dup2) ((xe_iaload).trans (congrArg (x_iaload) ((xe_iload 7).trans (congrArg (x_iload 7) ((xe_fadd).trans (congrArg (x_fadd) ((xe_iastore).trans (congrArg (x_iastore) ((xe_aload 0).trans (congrArg (x_aload 0) ((xe_g1 (kk := 107) rfl tl_7_5).trans (congrArg (x_g1 107 545) ((xe_iload 1).trans (congrArg (x_iload 1) ((xe_iconst 12).trans (congrArg (x_iconst 12) ((xe_imul).trans (congrArg (x_imul) ((xe_iload 2).trans (congrArg (x_iload 2) ((xe_iadd).trans (congrArg (x_iadd) ((xe_dup2).trans (congrArg (x_dup2) ((xe_iaload).trans (congrArg (x_iaload) ((xe_iload 7).trans (congrArg (x_iload 7) ((xe_fadd).trans (congrArg (x_fadd) ((xe_iastore).trans (congrArg (x_iastore) ((xe_aload 0).trans (congrArg (x_aload 0) ((xe_g1 (kk := 107) rfl tl_7_6).trans (congrArg (x_g1 107 546) ((xe_iload 1).trans (congrArg (x_iload 1) ((xe_iconst 12).trans (congrArg (x_iconst 12) ((xe_imul).trans (congrArg (x_imul) ((xe_iload 2).trans (congrArg (x_iload 2) ((xe_iadd).trans (congrArg (x_iadd) ((xe_dup2).trans (congrArg (x_dup2) ((xe_iaload).trans (congrArg (x_iaload) ((xe_iload 3).trans (congrArg (x_iload 3) ((xe_fadd).trans (congrArg (x_fadd) ((xe_iastore).trans (congrArg (x_iastore) (xe_return_)))))))))))))))))))))))))))))))))))))))))))))))))))))))))))))))))))))))))))))))))))))))))))))))))))))))))))))))))))))))))))))))))))))))))))))))))))))))))))))))))))))))))))
theorem bk_X7_addSide_e_0 : ck_ fX7 none cX7_addSide 0 [.iload 1, .iconst 8, .imul, .istore 5, .iload 3, .iload 4, .if_icmp .le 16, .iconst 1, .goto 27] 16 = true := qck_r (nn_ _) (by decide +kernel)
theorem bs_X7_addSide_e_0 {P : Zt → Option Zv → Prop} (K : Int → Zl → List Zv → Zt → Prop) : sx_ K P [.iload 1, .iconst 8, .imul, .istore 5, .iload 3, .iload 4, .if_icmp .le 16, .iconst 1, .goto 27] 16 = x_iload 1 (x_iconst 8 (x_imul (x_istore 5 (x_iload 3 (x_iload 4 (x_if_icmp .le 16 K (x_iconst 1 (x_goto 27 K)))))))) := ((xe_iload 1).trans (congrArg (x_iload 1) ((xe_iconst 8).trans (congrArg (x_iconst 8) ((xe_imul).trans (congrArg (x_imul) ((xe_istore 5).trans (congrArg (x_istore 5) ((xe_iload 3).trans (congrArg (x_iload 3) ((xe_iload 4).trans (congrArg (x_iload 4) ((xe_if_icmp .le 16).trans (congrArg (x_if_icmp .le 16 K) ((xe_iconst 1).trans (congrArg (x_iconst 1) (xe_goto 27)))))))))))))))))
theorem bk_X7_addSide_e_16 : ck_ fX7 none cX7_addSide 16 [.iload 3, .iload 4, .if_icmp .ne 26, .iconst 2, .goto 27] 26 = true := qck_r (nn_ _) (by decide +kernel)
theorem bs_X7_addSide_e_16 {P : Zt → Option Zv → Prop} (K : Int → Zl → List Zv → Zt → Prop) : sx_ K P [.iload 3, .iload 4, .if_icmp .ne 26, .iconst 2, .goto 27] 26 = x_iload 3 (x_iload 4 (x_if_icmp .ne 26 K (x_iconst 2 (x_goto 27 K)))) := ((xe_iload 3).trans (congrArg (x_iload 3) ((xe_iload 4).trans (congrArg (x_iload 4) ((xe_if_icmp .ne 26).trans (congrArg (x_if_icmp .ne 26 K) ((xe_iconst 2).trans (congrArg (x_iconst 2) (xe_goto 27)))))))))
theorem bk_X7_addSide_e_26 : ck_ fX7 none cX7_addSide 26 [.iconst 3] 27 = true := qck_r (nn_ _) (by decide +kernel)
theorem bs_X7_addSide_e_26 {P : Zt → Option Zv → Prop} (K : Int → Zl → List Zv → Zt → Prop) : sx_ K P [.iconst 3] 27 = x_iconst 3 (K 27) := ((xe_iconst 3).trans (congrArg (x_iconst 3) xe_nil))
abbrev po_X7_addSide_e (T : Zt) (s q a b : Int) : Zt → Option Zv → Prop := fun T' r => r = none ∧ fr_ [(542, []), (545, []), (546, [])] T T' ∧ (LV_ T T' (fun x w => cz_ (x = s) (cv9_ (fun w => T 401 (T 107 0 1 - 1) w) w a b) 0) ∧ RV_ 545 T T' (fun j => cz_ (j = s * 12 + q) (ptm9_ (fun w => T 401 (T 107 0 1 - 1) w) a b) 0) ∧ RV_ 546 T T' (fun j => cz_ (j = s * 12 + q) a 0))
set_option maxHeartbeats 4000000 in
theorem ct_X7_addSide_e {T : Zt} {s q a b : Int} (hct : T 107 0 1 ≠ 0) (hs : 0 ≤ s ∧ s < 12) (ho : 0 ≤ q ∧ q < 12) : Ct_ yX7_addSide zX7_addSide T [vR 107 0, vI s, vI q, vI a, vI b] (po_X7_addSide_e T s q a b) := by
  refine ct_of pn_7 rfl rfl (Nat.le_of_ble_eq_true rfl) (fun hT hav => ?_)
  have hr_s : -2147483648 ≤ s ∧ s ≤ 2147483647 := hav (vI s) (List.mem_cons_of_mem _ List.mem_cons_self)
  have hr_q : -2147483648 ≤ q ∧ q ≤ 2147483647 := hav (vI q) (List.mem_cons_of_mem _ (List.mem_cons_of_mem _ List.mem_cons_self))
  have hr_a : -2147483648 ≤ a ∧ a ≤ 2147483647 := hav (vI a) (List.mem_cons_of_mem _ (List.mem_cons_of_mem _ (List.mem_cons_of_mem _ List.mem_cons_self)))
  have hr_b : -2147483648 ≤ b ∧ b ≤ 2147483647 := hav (vI b) (List.mem_cons_of_mem _ (List.mem_cons_of_mem _ (List.mem_cons_of_mem _ (List.mem_cons_of_mem _ List.mem_cons_self))))
  have hz : zX7_addSide.2.2.2.1 = some .boolean → ∀ (T' : Zt) (x : Int), po_X7_addSide_e T s q a b T' (some (vI x)) → 0 ≤ x ∧ x ≤ 1 := fun h => by cases h
  show J_ zX7_addSide T (po_X7_addSide_e T s q a b) 0 0 0 [some (vR 107 0), some (vI s), some (vI q), some (vI a), some (vI b), none, none, none] [] T
  have c_27 : ∀ (v : Int), (1 ≤ v ∧ v ≤ 3) → ((v = 1 ∧ b < a) ∨ (v = 2 ∧ a = b) ∨ (v = 3 ∧ a < b)) → J_ zX7_addSide T (po_X7_addSide_e T s q a b) 0 0 27 [some (vR 107 0), some (vI s), some (vI q), some (vI a), some (vI b), some (vI (s * 8)), none, none] [vI v] T := by
    intro v v0 v1
    refine j_blx (F := fX7) tb_X7 (nn_ _) bk_X7_addSide_e_27 bs_X7_addSide_e_27 hz (fun K hK => ?_)
    refine And.intro (fun c1 => ?_) (fun c1 => ?_)
    · exact absurd c1 (by omega)
    · refine rg_i (by omega) ?_
      refine rg_i (by omega) ?_
      refine ix_i (by omega) ?_
      intro b2 b2b
      refine rg_i (by omega) ?_
      refine ix_i (by omega) ?_
      intro b3 b3b
      intro w4 w4b
      refine iy_i (by omega) (by omega) ?_
      refine x_nm (fun U5 hU5 => ?_)
      have e6 := up_f hU5
      refine rg_i (by omega) ?_
      refine ix_i (by omega) ?_
      intro b7 b7b
      intro w8 w8b
      refine iy_i (by omega) (by omega) ?_
      refine x_nm (fun U9 hU9 => ?_)
      have e10 := up_f hU9
      refine rg_i (by omega) ?_
      refine ix_i (by omega) ?_
      intro b11 b11b
      intro w12 w12b
      refine iy_i (by omega) (by omega) ?_
      refine x_nm (fun U13 hU13 => ?_)
      have e14 := up_f hU13
      refine rg_i (by omega) ?_
      refine ix_i (by omega) ?_
      intro b15 b15b
      intro w16 w16b
      refine iy_i (by omega) (by omega) ?_
      refine x_nm (fun U17 hU17 => ?_)
      have e18 := up_f hU17
      refine rg_i (by omega) ?_
      refine ix_i (by omega) ?_
      intro b19 b19b
      intro w20 w20b
      refine iy_i (by omega) (by omega) ?_
      refine x_nm (fun U21 hU21 => ?_)
      have e22 := up_f hU21
      refine rg_i (by omega) ?_
      refine rg_i (by omega) ?_
      refine ix_i (by omega) ?_
      intro b23 b23b
      have e24 : U21 545 0 ((s * 12) + q) = T 545 0 ((s * 12) + q) := (up_k hU21 (by exact Nat.ne_of_beq_eq_false rfl) 0 ((s * 12) + q)).trans ((up_k hU17 (by exact Nat.ne_of_beq_eq_false rfl) 0 ((s * 12) + q)).trans ((up_k hU13 (by exact Nat.ne_of_beq_eq_false rfl) 0 ((s * 12) + q)).trans ((up_k hU9 (by exact Nat.ne_of_beq_eq_false rfl) 0 ((s * 12) + q)).trans (up_k hU5 (by exact Nat.ne_of_beq_eq_false rfl) 0 ((s * 12) + q)))))
      rw [e24] at b23 b23b ⊢
      intro w25 w25b
      refine iy_i (by omega) (by omega) ?_
      refine x_nm (fun U26 hU26 => ?_)
      have e27 := up_f hU26
      refine rg_i (by omega) ?_
      refine rg_i (by omega) ?_
      refine ix_i (by omega) ?_
      intro b28 b28b
      have e29 : U26 546 0 ((s * 12) + q) = T 546 0 ((s * 12) + q) := (up_k hU26 (by exact Nat.ne_of_beq_eq_false rfl) 0 ((s * 12) + q)).trans ((up_k hU21 (by exact Nat.ne_of_beq_eq_false rfl) 0 ((s * 12) + q)).trans ((up_k hU17 (by exact Nat.ne_of_beq_eq_false rfl) 0 ((s * 12) + q)).trans ((up_k hU13 (by exact Nat.ne_of_beq_eq_false rfl) 0 ((s * 12) + q)).trans ((up_k hU9 (by exact Nat.ne_of_beq_eq_false rfl) 0 ((s * 12) + q)).trans (up_k hU5 (by exact Nat.ne_of_beq_eq_false rfl) 0 ((s * 12) + q))))))
      rw [e29] at b28 b28b ⊢
      intro w30 w30b
      refine iy_i (by omega) (by omega) ?_
      refine x_nm (fun U31 hU31 => ?_)
      have e32 := up_f hU31
      refine (show po_X7_addSide_e T s q a b U31 (none) from ?_)
      have hv9 : (v = 1 ∧ b < a ∧ T 401 (T 107 0 1 - 1) ((1 + v) - 1) = (fun w => T 401 (T 107 0 1 - 1) w) 1) ∨ (v = 2 ∧ a = b ∧ T 401 (T 107 0 1 - 1) ((1 + v) - 1) = (fun w => T 401 (T 107 0 1 - 1) w) 2) ∨ (v = 3 ∧ a < b ∧ T 401 (T 107 0 1 - 1) ((1 + v) - 1) = (fun w => T 401 (T 107 0 1 - 1) w) 3) := by
        rcases v1 with z | z | z
        · exact Or.inl ⟨z.1, z.2, by rw [show (1 + v) - 1 = 1 by omega]⟩
        · exact Or.inr (Or.inl ⟨z.1, z.2, by rw [show (1 + v) - 1 = 2 by omega]⟩)
        · exact Or.inr (Or.inr ⟨z.1, z.2, by rw [show (1 + v) - 1 = 3 by omega]⟩)
      have pt9 : T 401 (T 107 0 1 - 1) ((1 + v) - 1) = ptm9_ (fun w => T 401 (T 107 0 1 - 1) w) a b := by
        rcases hv9 with z | z | z
        · rw [z.2.2]; exact (pt_1 z.2.1).symm
        · rw [z.2.2]; exact (pt_2 z.2.1).symm
        · rw [z.2.2]; exact (pt_3 z.2.1).symm
      refine ⟨rfl, fr_u (fr_u (fr_u (fr_u (fr_u (fr_u (fr_u (fr_0 _ _) hU5 rfl) hU9 rfl) hU13 rfl) hU17 rfl) hU21 rfl) hU26 rfl) hU31 rfl, lv_k (lv_e (lv_u (c := s) (q := 6) (lv_u (c := s) (q := 5) (lv_u (c := s) (q := 4) (lv_u (c := s) (q := v) (lv_u (c := s) (q := 0) (lv_0) hU5 (by omega) (by omega) rfl) hU9 (by omega) (by omega) rfl) hU13 (by omega) (by omega) rfl) hU17 (by omega) (by omega) rfl) hU21 (by omega) (by omega) rfl) (fun x w _ _ w0 w1 => sd_d (ru := (fun w => T 401 (T 107 0 1 - 1) w)) hv9 w0 w1)) (fun j => (up_k hU31 (by exact Nat.ne_of_beq_eq_false rfl) 0 j).trans (up_k hU26 (by exact Nat.ne_of_beq_eq_false rfl) 0 j)), rv_k (rv_e (rv_u (y := T 401 (T 107 0 1 - 1) ((1 + v) - 1)) (rv_0 (fun j => (up_k hU21 (by exact Nat.ne_of_beq_eq_false rfl) 0 j).trans ((up_k hU17 (by exact Nat.ne_of_beq_eq_false rfl) 0 j).trans ((up_k hU13 (by exact Nat.ne_of_beq_eq_false rfl) 0 j).trans ((up_k hU9 (by exact Nat.ne_of_beq_eq_false rfl) 0 j).trans (up_k hU5 (by exact Nat.ne_of_beq_eq_false rfl) 0 j)))))) hU26 (by rw [(up_k hU21 (by exact Nat.ne_of_beq_eq_false rfl) 0 ((s * 12) + q)).trans ((up_k hU17 (by exact Nat.ne_of_beq_eq_false rfl) 0 ((s * 12) + q)).trans ((up_k hU13 (by exact Nat.ne_of_beq_eq_false rfl) 0 ((s * 12) + q)).trans ((up_k hU9 (by exact Nat.ne_of_beq_eq_false rfl) 0 ((s * 12) + q)).trans (up_k hU5 (by exact Nat.ne_of_beq_eq_false rfl) 0 ((s * 12) + q)))))])) (fun i => ?_)) (fun j => up_k hU31 (by exact Nat.ne_of_beq_eq_false rfl) 0 j), rv_k (rv_e (rv_u (y := a) (rv_0 (fun j => (up_k hU26 (by exact Nat.ne_of_beq_eq_false rfl) 0 j).trans ((up_k hU21 (by exact Nat.ne_of_beq_eq_false rfl) 0 j).trans ((up_k hU17 (by exact Nat.ne_of_beq_eq_false rfl) 0 j).trans ((up_k hU13 (by exact Nat.ne_of_beq_eq_false rfl) 0 j).trans ((up_k hU9 (by exact Nat.ne_of_beq_eq_false rfl) 0 j).trans (up_k hU5 (by exact Nat.ne_of_beq_eq_false rfl) 0 j))))))) hU31 (by rw [(up_k hU26 (by exact Nat.ne_of_beq_eq_false rfl) 0 ((s * 12) + q)).trans ((up_k hU21 (by exact Nat.ne_of_beq_eq_false rfl) 0 ((s * 12) + q)).trans ((up_k hU17 (by exact Nat.ne_of_beq_eq_false rfl) 0 ((s * 12) + q)).trans ((up_k hU13 (by exact Nat.ne_of_beq_eq_false rfl) 0 ((s * 12) + q)).trans ((up_k hU9 (by exact Nat.ne_of_beq_eq_false rfl) 0 ((s * 12) + q)).trans (up_k hU5 (by exact Nat.ne_of_beq_eq_false rfl) 0 ((s * 12) + q))))))])) (fun i => ?_)) (fun j => rfl)⟩
      · show 0 + cz_ (i = s * 12 + q) (T 401 (T 107 0 1 - 1) ((1 + v) - 1)) 0 = cz_ (i = s * 12 + q) (ptm9_ (fun w => T 401 (T 107 0 1 - 1) w) a b) 0
        rw [pt9, Int.zero_add]
      · show 0 + cz_ (i = s * 12 + q) a 0 = cz_ (i = s * 12 + q) a 0
        rw [Int.zero_add]
  refine j_blx (F := fX7) tb_X7 (nn_ _) bk_X7_addSide_e_0 bs_X7_addSide_e_0 hz (fun K hK => ?_)
  refine rg_i (by omega) ?_
  refine And.intro (fun c33 => ?_) (fun c33 => ?_)
  · refine hK 16 [some (vR 107 0), some (vI s), some (vI q), some (vI a), some (vI b), some (vI (s * 8)), none, none] [] T ?_
    refine j_blx (F := fX7) tb_X7 (nn_ _) bk_X7_addSide_e_16 bs_X7_addSide_e_16 hz (fun K hK => ?_)
    refine And.intro (fun c34 => ?_) (fun c34 => ?_)
    · refine hK 26 _ [] T ?_
      refine j_blx (F := fX7) tb_X7 (nn_ _) bk_X7_addSide_e_26 bs_X7_addSide_e_26 hz (fun K hK => ?_)
      refine hK 27 _ [vI 3] T ?_
      refine c_27 3 ?_ ?_
      · omega
      · omega
    · refine hK 27 _ [vI 2] T ?_
      refine c_27 2 ?_ ?_
      · omega
      · omega
  · refine hK 27 _ [vI 1] T ?_
    refine c_27 1 ?_ ?_
    · omega
    · omega
theorem bk_X7_addResult_e_0 : ck_ fX7 none cX7_addResult 0 [.aload 0, .tableswitch 0 7 1 #[], .tableswitch 0 0 4 #[], .aload 1, .tableswitch 0 2 3 #[], .iaload, .istore 4, .aload 0, .tableswitch 0 7 1 #[], .tableswitch 0 0 4 #[], .aload 1, .tableswitch 0 2 4 #[], .iaload, .istore 5, .iload 4, .iconst (-1), .if_icmp .eq 40, .iload 5, .iconst (-1), .if_icmp .ne 41, .return_] 41 = true := qck_r (nn_ _) (by decide +kernel)
theorem bs_X7_addResult_e_0 {P : Zt → Option Zv → Prop} (K : Int → Zl → List Zv → Zt → Prop) : sx_ K P [.aload 0, .tableswitch 0 7 1 #[], .tableswitch 0 0 4 #[], .aload 1, .tableswitch 0 2 3 #[], .iaload, .istore 4, .aload 0, .tableswitch 0 7 1 #[], .tableswitch 0 0 4 #[], .aload 1, .tableswitch 0 2 4 #[], .iaload, .istore 5, .iload 4, .iconst (-1), .if_icmp .eq 40, .iload 5, .iconst (-1), .if_icmp .ne 41, .return_] 41 = x_aload 0 (x_g5 107 100 1 (x_g2 100 404 (x_aload 1 (x_g0 102 3 0 11 (x_iaload (x_istore 4 (x_aload 0 (x_g5 107 100 1 (x_g2 100 404 (x_aload 1 (x_g0 102 4 0 11 (x_iaload (x_istore 5 (x_iload 4 (x_iconst (-1) (x_if_icmp .eq 40 K (x_iload 5 (x_iconst (-1) (x_if_icmp .ne 41 K (x_return_ P)))))))))))))))))))) := ((xe_aload 0).trans (congrArg (x_aload 0) ((xe_g5 (kk := 107) rfl tl_7_1).trans (congrArg (x_g5 107 100 1) ((xe_g2 (kk := 100) rfl tl_0_4).trans (congrArg (x_g2 100 404) ((xe_aload 1).trans (congrArg (x_aload 1) ((xe_g0 (kk := 102) rfl tl_2_3).trans (congrArg (x_g0 102 3 0 11) ((xe_iaload).trans (congrArg (x_iaload) ((xe_istore 4).trans (congrArg (x_istore 4) ((xe_aload 0).trans (congrArg (x_aload 0) ((xe_g5 (kk := 107) rfl tl_7_1).trans (congrArg (x_g5 107 100 1) ((xe_g2 (kk := 100) rfl tl_0_4).trans (congrArg (x_g2 100 404) ((xe_aload 1).trans (congrArg (x_aload 1) ((xe_g0 (kk := 102) rfl tl_2_4).trans (congrArg (x_g0 102 4 0 11) ((xe_iaload).trans (congrArg (x_iaload) ((xe_istore 5).trans (congrArg (x_istore 5) ((xe_iload 4).trans (congrArg (x_iload 4) ((xe_iconst (-1)).trans (congrArg (x_iconst (-1)) ((xe_if_icmp .eq 40).trans (congrArg (x_if_icmp .eq 40 K) ((xe_iload 5).trans (congrArg (x_iload 5) ((xe_iconst (-1)).trans (congrArg (x_iconst (-1)) ((xe_if_icmp .ne 41).trans (congrArg (x_if_icmp .ne 41 K) (xe_return_)))))))))))))))))))))))))))))))))))))))))
theorem bk_X7_addResult_e_40 : ck_ fX7 none cX7_addResult 40 [.return_] 41 = true := qck_r (nn_ _) (by decide +kernel)
theorem bs_X7_addResult_e_40 {P : Zt → Option Zv → Prop} (K : Int → Zl → List Zv → Zt → Prop) : sx_ K P [.return_] 41 = x_return_ P := (xe_return_)
theorem bk_X7_addResult_e_41 : ck_ fX7 none cX7_addResult 41 [.aload 0, .iload 4, .iload 5, .iload 2, .iload 3] 48 = true := qck_r (nn_ _) (by decide +kernel)
theorem bs_X7_addResult_e_41 {P : Zt → Option Zv → Prop} (K : Int → Zl → List Zv → Zt → Prop) : sx_ K P [.aload 0, .iload 4, .iload 5, .iload 2, .iload 3] 48 = x_aload 0 (x_iload 4 (x_iload 5 (x_iload 2 (x_iload 3 (K 48))))) := ((xe_aload 0).trans (congrArg (x_aload 0) ((xe_iload 4).trans (congrArg (x_iload 4) ((xe_iload 5).trans (congrArg (x_iload 5) ((xe_iload 2).trans (congrArg (x_iload 2) ((xe_iload 3).trans (congrArg (x_iload 3) xe_nil))))))))))
theorem bk_X7_addResult_e_51 : ck_ fX7 none cX7_addResult 51 [.aload 0, .iload 5, .iload 4, .iload 3, .iload 2] 58 = true := qck_r (nn_ _) (by decide +kernel)
theorem bs_X7_addResult_e_51 {P : Zt → Option Zv → Prop} (K : Int → Zl → List Zv → Zt → Prop) : sx_ K P [.aload 0, .iload 5, .iload 4, .iload 3, .iload 2] 58 = x_aload 0 (x_iload 5 (x_iload 4 (x_iload 3 (x_iload 2 (K 58))))) := ((xe_aload 0).trans (congrArg (x_aload 0) ((xe_iload 5).trans (congrArg (x_iload 5) ((xe_iload 4).trans (congrArg (x_iload 4) ((xe_iload 3).trans (congrArg (x_iload 3) ((xe_iload 2).trans (congrArg (x_iload 2) xe_nil))))))))))
theorem bk_X7_addResult_e_61 : ck_ fX7 none cX7_addResult 61 [.aload 0, .tableswitch 0 7 3 #[], .iload 5, .dup2, .iaload, .iload 3, .fadd, .iastore, .return_] 73 = true := qck_r (nn_ _) (by decide +kernel)
theorem bs_X7_addResult_e_61 {P : Zt → Option Zv → Prop} (K : Int → Zl → List Zv → Zt → Prop) : sx_ K P [.aload 0, .tableswitch 0 7 3 #[], .iload 5, .dup2, .iaload, .iload 3, .fadd, .iastore, .return_] 73 = x_aload 0 (x_g1 107 543 (x_iload 5 (x_dup2 (x_iaload (x_iload 3 (x_fadd (x_iastore (x_return_ P)))))))) := ((xe_aload 0).trans (congrArg (x_aload 0) ((xe_g1 (kk := 107) rfl tl_7_3).trans (congrArg (x_g1 107 543) ((xe_iload 5).trans (congrArg (x_iload 5) ((xe_dup2).trans (congrArg (x_dup2) ((xe_iaload).trans (congrArg (x_iaload) ((xe_iload 3).trans (congrArg (x_iload 3) ((xe_fadd).trans (congrArg (x_fadd) ((xe_iastore).trans (congrArg (x_iastore) (xe_return_)))))))))))))))))
abbrev po_X7_addResult_e (T : Zt) (p : Int) (a b : Int) : Zt → Option Zv → Prop := fun T' r => r = none ∧ fr_ [(542, []), (545, []), (546, []), (543, [])] T T' ∧ (LV_ T T' (fun x w => cz_ (x = T 404 (T 107 0 1 - 1) (T 102 p 3)) (cv9_ (fun w => T 401 (T 107 0 1 - 1) w) w a b) 0 + cz_ (x = T 404 (T 107 0 1 - 1) (T 102 p 4)) (cv9_ (fun w => T 401 (T 107 0 1 - 1) w) w b a) 0) ∧ RV_ 543 T T' (fun j => cz_ (j = T 404 (T 107 0 1 - 1) (T 102 p 4)) b 0) ∧ RV_ 545 T T' (fun j => cz_ (j = T 404 (T 107 0 1 - 1) (T 102 p 3) * 12 + T 404 (T 107 0 1 - 1) (T 102 p 4)) (ptm9_ (fun w => T 401 (T 107 0 1 - 1) w) a b) 0 + cz_ (j = T 404 (T 107 0 1 - 1) (T 102 p 4) * 12 + T 404 (T 107 0 1 - 1) (T 102 p 3)) (ptm9_ (fun w => T 401 (T 107 0 1 - 1) w) b a) 0) ∧ RV_ 546 T T' (fun j => cz_ (j = T 404 (T 107 0 1 - 1) (T 102 p 3) * 12 + T 404 (T 107 0 1 - 1) (T 102 p 4)) a 0 + cz_ (j = T 404 (T 107 0 1 - 1) (T 102 p 4) * 12 + T 404 (T 107 0 1 - 1) (T 102 p 3)) b 0))
set_option maxHeartbeats 4000000 in
theorem ct_X7_addResult_e {T : Zt} {p : Int} {a b : Int} (hct : T 107 0 1 ≠ 0) (hse : 0 ≤ T 404 (T 107 0 1 - 1) (T 102 p 3) ∧ 0 ≤ T 404 (T 107 0 1 - 1) (T 102 p 4)) : Ct_ yX7_addResult zX7_addResult T [vR 107 0, vR 102 p, vI a, vI b] (po_X7_addResult_e T p a b) := by
  refine ct_of pn_7 rfl rfl (Nat.le_of_ble_eq_true rfl) (fun hT hav => ?_)
  have hr_a : -2147483648 ≤ a ∧ a ≤ 2147483647 := hav (vI a) (List.mem_cons_of_mem _ (List.mem_cons_of_mem _ List.mem_cons_self))
  have hr_b : -2147483648 ≤ b ∧ b ≤ 2147483647 := hav (vI b) (List.mem_cons_of_mem _ (List.mem_cons_of_mem _ (List.mem_cons_of_mem _ List.mem_cons_self)))
  have hz : zX7_addResult.2.2.2.1 = some .boolean → ∀ (T' : Zt) (x : Int), po_X7_addResult_e T p a b T' (some (vI x)) → 0 ≤ x ∧ x ≤ 1 := fun h => by cases h
  show J_ zX7_addResult T (po_X7_addResult_e T p a b) 0 0 0 [some (vR 107 0), some (vR 102 p), some (vI a), some (vI b), none, none] [] T
  refine j_blx (F := fX7) tb_X7 (nn_ _) bk_X7_addResult_e_0 bs_X7_addResult_e_0 hz (fun K hK => ?_)
  refine And.intro (fun c1 => ?_) (fun c1 => ?_)
  · exact absurd c1 (by omega)
  · intro b2 b2b
    refine ix_i (by omega) ?_
    intro b3 b3b
    refine And.intro (fun c4 => ?_) (fun c4 => ?_)
    · exact absurd c4 (by omega)
    · intro b5 b5b
      refine ix_i (by omega) ?_
      intro b6 b6b
      refine And.intro (fun c7 => ?_) (fun c7 => ?_)
      · refine hK 40 [some (vR 107 0), some (vR 102 p), some (vI a), some (vI b), some (vI (T 404 (T 107 0 1 - 1) (T 102 p 3))), some (vI (T 404 (T 107 0 1 - 1) (T 102 p 4)))] [] T ?_
        refine j_blx (F := fX7) tb_X7 (nn_ _) bk_X7_addResult_e_40 bs_X7_addResult_e_40 hz (fun K hK => ?_)
        refine (show po_X7_addResult_e T p a b T (none) from ?_)
        exfalso; omega
      · refine And.intro (fun c8 => ?_) (fun c8 => ?_)
        · refine hK 41 _ [] T ?_
          refine j_blx (F := fX7) tb_X7 (nn_ _) bk_X7_addResult_e_41 bs_X7_addResult_e_41 hz (fun K hK => ?_)
          refine hK 48 _ [vI b, vI a, vI (T 404 (T 107 0 1 - 1) (T 102 p 4)), vI (T 404 (T 107 0 1 - 1) (T 102 p 3)), vR 107 0] T ?_
          refine j_callV (y := yX7_addSide) (Yc := zX7_addSide) (rest := []) [vI (T 404 (T 107 0 1 - 1) (T 102 p 3)), vI (T 404 (T 107 0 1 - 1) (T 102 p 4)), vI a, vI b] (ct_X7_addSide_e (T := T) (by omega) (by omega) (by omega)) cl_X7_117 (qd_c (by decide +kernel)) (nn_ _) rfl (rf_of rfl) (Nat.le_of_ble_eq_true rfl) (Nat.le_of_ble_eq_true rfl) (Nat.le_of_ble_eq_true rfl) rfl ?_
          rintro U9 _ ⟨rfl, fU9, ⟨qU9l, qU9p, qU9s⟩⟩
          show J_ zX7_addResult T (po_X7_addResult_e T p a b) 0 0 51 _ [] U9
          refine j_blx (F := fX7) tb_X7 (nn_ _) bk_X7_addResult_e_51 bs_X7_addResult_e_51 hz (fun K hK => ?_)
          refine hK 58 _ [vI a, vI b, vI (T 404 (T 107 0 1 - 1) (T 102 p 3)), vI (T 404 (T 107 0 1 - 1) (T 102 p 4)), vR 107 0] U9 ?_
          have e10 : U9 107 0 1 = T 107 0 1 := fU9 107 0 1 rfl
          refine j_callV (y := yX7_addSide) (Yc := zX7_addSide) (rest := []) [vI (T 404 (T 107 0 1 - 1) (T 102 p 4)), vI (T 404 (T 107 0 1 - 1) (T 102 p 3)), vI b, vI a] (ct_X7_addSide_e (T := U9) (by omega) (by omega) (by omega)) cl_X7_117 (qd_c (by decide +kernel)) (nn_ _) rfl (rf_of rfl) (Nat.le_of_ble_eq_true rfl) (Nat.le_of_ble_eq_true rfl) (Nat.le_of_ble_eq_true rfl) rfl ?_
          rintro U11 _ ⟨rfl, fU11, ⟨qU11l, qU11p, qU11s⟩⟩
          rw [show (fun w => U9 401 (U9 107 0 1 - 1) w) = (fun w => T 401 (T 107 0 1 - 1) w) from by rw [fU9 107 0 1 rfl]; exact funext (fun w => fU9 401 (T 107 0 1 - 1) w rfl)] at qU11l
          rw [show (fun w => U9 401 (U9 107 0 1 - 1) w) = (fun w => T 401 (T 107 0 1 - 1) w) from by rw [fU9 107 0 1 rfl]; exact funext (fun w => fU9 401 (T 107 0 1 - 1) w rfl)] at qU11p
          show J_ zX7_addResult T (po_X7_addResult_e T p a b) 0 0 61 _ [] U11
          refine j_blx (F := fX7) tb_X7 (nn_ _) bk_X7_addResult_e_61 bs_X7_addResult_e_61 hz (fun K hK => ?_)
          refine ix_i (by omega) ?_
          intro b12 b12b
          have e13 : U11 543 0 (T 404 (T 107 0 1 - 1) (T 102 p 4)) = T 543 0 (T 404 (T 107 0 1 - 1) (T 102 p 4)) := (fU11 543 0 (T 404 (T 107 0 1 - 1) (T 102 p 4)) rfl).trans (fU9 543 0 (T 404 (T 107 0 1 - 1) (T 102 p 4)) rfl)
          rw [e13] at b12 b12b ⊢
          intro w14 w14b
          refine iy_i (by omega) (by omega) ?_
          refine x_nm (fun U15 hU15 => ?_)
          have e16 := up_f hU15
          refine (show po_X7_addResult_e T p a b U15 (none) from ?_)
          exact ⟨rfl, fr_u (fr_t (fr_t (fr_0 _ _) (fr_s fU9 rfl)) (fr_s fU11 rfl)) hU15 rfl, lv_k (lv_t qU9l qU11l) (fun j => up_k hU15 (by exact Nat.ne_of_beq_eq_false rfl) 0 j), rv_k (rv_e (rv_u (y := b) (rv_0 (fun j => (fU11 543 0 j rfl).trans (fU9 543 0 j rfl))) hU15 (by rw [(fU11 543 0 (T 404 (T 107 0 1 - 1) (T 102 p 4)) rfl).trans (fU9 543 0 (T 404 (T 107 0 1 - 1) (T 102 p 4)) rfl)])) (fun i => Int.zero_add _)) (fun j => rfl), rv_k (rv_t qU9p qU11p) (fun j => up_k hU15 (by exact Nat.ne_of_beq_eq_false rfl) 0 j), rv_k (rv_t qU9s qU11s) (fun j => up_k hU15 (by exact Nat.ne_of_beq_eq_false rfl) 0 j)⟩
        · refine (show po_X7_addResult_e T p a b T (none) from ?_)
          exfalso; omega
theorem frh_s {T : Zt} {m b k y : Int} (hk : 0 ≤ k) (h : y = T 473 m (b + k) + cz_ (T 472 m (b + k) = 3) 3 0) : fr9h_ T m b (k + 1).toNat = fr9h_ T m b k.toNat + y := by
  rw [show (k + 1).toNat = k.toNat + 1 by omega, h]
  show fr9h_ T m b k.toNat + (T 473 m (b + ((k.toNat : Nat) : Int)) + cz_ (T 472 m (b + ((k.toNat : Nat) : Int)) = 3) 3 0) = _
  rw [show ((k.toNat : Nat) : Int) = k by omega]
theorem cz_s {P : Prop} {x y : Int} : cz_ P x 0 + cz_ P y 0 = cz_ P (x + y) 0 := by
  by_cases z : P
  · rw [cz_t z, cz_t z, cz_t z]
  · rw [cz_f z, cz_f z, cz_f z]
    rfl
theorem bk_X7_addCards_e_42 : ck_ fX7 none cX7_addCards 42 [.iload 3, .iconst (-1), .if_icmp .eq 110, .iload 4, .aload 1, .tableswitch 0 2 9 #[], .iload 2, .iaload, .if_icmp .ge 110, .iload 2, .iconst 10, .imul, .iload 4, .iadd, .istore 5, .aload 0, .tableswitch 0 7 4 #[], .iload 3, .dup2, .iaload, .aload 1, .tableswitch 0 2 10 #[], .tableswitch 0 3 13 #[], .iload 5, .iaload, .aload 1, .tableswitch 0 2 10 #[], .iload 5] 90 = true := qck_r (nn_ _) (by decide +kernel)
theorem bs_X7_addCards_e_42 {P : Zt → Option Zv → Prop} (K : Int → Zl → List Zv → Zt → Prop) : sx_ K P [.iload 3, .iconst (-1), .if_icmp .eq 110, .iload 4, .aload 1, .tableswitch 0 2 9 #[], .iload 2, .iaload, .if_icmp .ge 110, .iload 2, .iconst 10, .imul, .iload 4, .iadd, .istore 5, .aload 0, .tableswitch 0 7 4 #[], .iload 3, .dup2, .iaload, .aload 1, .tableswitch 0 2 10 #[], .tableswitch 0 3 13 #[], .iload 5, .iaload, .aload 1, .tableswitch 0 2 10 #[], .iload 5] 90 = x_iload 3 (x_iconst (-1) (x_if_icmp .eq 110 K (x_iload 4 (x_aload 1 (x_g2 102 449 (x_iload 2 (x_iaload (x_if_icmp .ge 110 K (x_iload 2 (x_iconst 10 (x_imul (x_iload 4 (x_iadd (x_istore 5 (x_aload 0 (x_g1 107 544 (x_iload 3 (x_dup2 (x_iaload (x_aload 1 (x_g4 102 103 10 (x_g2 103 473 (x_iload 5 (x_iaload (x_aload 1 (x_g4 102 103 10 (x_iload 5 (K 90)))))))))))))))))))))))))))) := ((xe_iload 3).trans (congrArg (x_iload 3) ((xe_iconst (-1)).trans (congrArg (x_iconst (-1)) ((xe_if_icmp .eq 110).trans (congrArg (x_if_icmp .eq 110 K) ((xe_iload 4).trans (congrArg (x_iload 4) ((xe_aload 1).trans (congrArg (x_aload 1) ((xe_g2 (kk := 102) rfl tl_2_9).trans (congrArg (x_g2 102 449) ((xe_iload 2).trans (congrArg (x_iload 2) ((xe_iaload).trans (congrArg (x_iaload) ((xe_if_icmp .ge 110).trans (congrArg (x_if_icmp .ge 110 K) ((xe_iload 2).trans (congrArg (x_iload 2) ((xe_iconst 10).trans (congrArg (x_iconst 10) ((xe_imul).trans (congrArg (x_imul) ((xe_iload 4).trans (congrArg (x_iload 4) ((xe_iadd).trans (congrArg (x_iadd) ((xe_istore 5).trans (congrArg (x_istore 5) ((xe_aload 0).trans (congrArg (x_aload 0) ((xe_g1 (kk := 107) rfl tl_7_4).trans (congrArg (x_g1 107 544) ((xe_iload 3).trans (congrArg (x_iload 3) ((xe_dup2).trans (congrArg (x_dup2) ((xe_iaload).trans (congrArg (x_iaload) ((xe_aload 1).trans (congrArg (x_aload 1) ((xe_g4 (kk := 102) rfl tl_2_10).trans (congrArg (x_g4 102 103 10) ((xe_g2 (kk := 103) rfl tl_3_13).trans (congrArg (x_g2 103 473) ((xe_iload 5).trans (congrArg (x_iload 5) ((xe_iaload).trans (congrArg (x_iaload) ((xe_aload 1).trans (congrArg (x_aload 1) ((xe_g4 (kk := 102) rfl tl_2_10).trans (congrArg (x_g4 102 103 10) ((xe_iload 5).trans (congrArg (x_iload 5) xe_nil))))))))))))))))))))))))))))))))))))))))))))))))))))))))
theorem bk_X7_addCards_e_110 : ck_ fX7 none cX7_addCards 110 [.iinc 2 1, .goto 10] 116 = true := qck_r (nn_ _) (by decide +kernel)
theorem bs_X7_addCards_e_110 {P : Zt → Option Zv → Prop} (K : Int → Zl → List Zv → Zt → Prop) : sx_ K P [.iinc 2 1, .goto 10] 116 = x_iinc 2 1 (x_goto 10 K) := ((xe_iinc 2 1).trans (congrArg (x_iinc 2 1) (xe_goto 10)))
theorem bk_X7_addCards_e_93 : ck_ fX7 none cX7_addCards 93 [.ifCond .eq 100, .iconst 3, .goto 101] 100 = true := qck_r (nn_ _) (by decide +kernel)
theorem bs_X7_addCards_e_93 {P : Zt → Option Zv → Prop} (K : Int → Zl → List Zv → Zt → Prop) : sx_ K P [.ifCond .eq 100, .iconst 3, .goto 101] 100 = x_ifCond .eq 100 K (x_iconst 3 (x_goto 101 K)) := ((xe_ifCond .eq 100).trans (congrArg (x_ifCond .eq 100 K) ((xe_iconst 3).trans (congrArg (x_iconst 3) (xe_goto 101)))))
theorem bk_X7_addCards_e_100 : ck_ fX7 none cX7_addCards 100 [.iconst 0, .fadd, .fadd, .iastore, .iinc 4 1, .goto 42] 110 = true := qck_r (nn_ _) (by decide +kernel)
theorem bs_X7_addCards_e_100 {P : Zt → Option Zv → Prop} (K : Int → Zl → List Zv → Zt → Prop) : sx_ K P [.iconst 0, .fadd, .fadd, .iastore, .iinc 4 1, .goto 42] 110 = x_iconst 0 (x_fadd (x_fadd (x_iastore (x_iinc 4 1 (x_goto 42 K))))) := ((xe_iconst 0).trans (congrArg (x_iconst 0) ((xe_fadd).trans (congrArg (x_fadd) ((xe_fadd).trans (congrArg (x_fadd) ((xe_iastore).trans (congrArg (x_iastore) ((xe_iinc 4 1).trans (congrArg (x_iinc 4 1) (xe_goto 42)))))))))))
theorem bk_X7_addCards_e_101 : ck_ fX7 none cX7_addCards 101 [.fadd, .fadd, .iastore, .iinc 4 1, .goto 42] 110 = true := qck_r (nn_ _) (by decide +kernel)
theorem bs_X7_addCards_e_101 {P : Zt → Option Zv → Prop} (K : Int → Zl → List Zv → Zt → Prop) : sx_ K P [.fadd, .fadd, .iastore, .iinc 4 1, .goto 42] 110 = x_fadd (x_fadd (x_iastore (x_iinc 4 1 (x_goto 42 K)))) := ((xe_fadd).trans (congrArg (x_fadd) ((xe_fadd).trans (congrArg (x_fadd) ((xe_iastore).trans (congrArg (x_iastore) ((xe_iinc 4 1).trans (congrArg (x_iinc 4 1) (xe_goto 42)))))))))
theorem bk_X7_addCards_e_10 : ck_ fX7 none cX7_addCards 10 [.iload 2, .iconst 2, .if_icmp .ge 116, .aload 0, .tableswitch 0 7 1 #[], .tableswitch 0 0 4 #[], .iload 2, .ifCond .ne 33, .aload 1, .tableswitch 0 2 3 #[], .goto 37] 33 = true := qck_r (nn_ _) (by decide +kernel)
theorem bs_X7_addCards_e_10 {P : Zt → Option Zv → Prop} (K : Int → Zl → List Zv → Zt → Prop) : sx_ K P [.iload 2, .iconst 2, .if_icmp .ge 116, .aload 0, .tableswitch 0 7 1 #[], .tableswitch 0 0 4 #[], .iload 2, .ifCond .ne 33, .aload 1, .tableswitch 0 2 3 #[], .goto 37] 33 = x_iload 2 (x_iconst 2 (x_if_icmp .ge 116 K (x_aload 0 (x_g5 107 100 1 (x_g2 100 404 (x_iload 2 (x_ifCond .ne 33 K (x_aload 1 (x_g0 102 3 0 11 (x_goto 37 K)))))))))) := ((xe_iload 2).trans (congrArg (x_iload 2) ((xe_iconst 2).trans (congrArg (x_iconst 2) ((xe_if_icmp .ge 116).trans (congrArg (x_if_icmp .ge 116 K) ((xe_aload 0).trans (congrArg (x_aload 0) ((xe_g5 (kk := 107) rfl tl_7_1).trans (congrArg (x_g5 107 100 1) ((xe_g2 (kk := 100) rfl tl_0_4).trans (congrArg (x_g2 100 404) ((xe_iload 2).trans (congrArg (x_iload 2) ((xe_ifCond .ne 33).trans (congrArg (x_ifCond .ne 33 K) ((xe_aload 1).trans (congrArg (x_aload 1) ((xe_g0 (kk := 102) rfl tl_2_3).trans (congrArg (x_g0 102 3 0 11) (xe_goto 37)))))))))))))))))))))
theorem bk_X7_addCards_e_116 : ck_ fX7 none cX7_addCards 116 [.return_] 117 = true := qck_r (nn_ _) (by decide +kernel)
theorem bs_X7_addCards_e_116 {P : Zt → Option Zv → Prop} (K : Int → Zl → List Zv → Zt → Prop) : sx_ K P [.return_] 117 = x_return_ P := (xe_return_)
theorem bk_X7_addCards_e_33 : ck_ fX7 none cX7_addCards 33 [.aload 1, .tableswitch 0 2 4 #[], .iaload, .istore 3, .iconst 0, .istore 4] 42 = true := qck_r (nn_ _) (by decide +kernel)
theorem bs_X7_addCards_e_33 {P : Zt → Option Zv → Prop} (K : Int → Zl → List Zv → Zt → Prop) : sx_ K P [.aload 1, .tableswitch 0 2 4 #[], .iaload, .istore 3, .iconst 0, .istore 4] 42 = x_aload 1 (x_g0 102 4 0 11 (x_iaload (x_istore 3 (x_iconst 0 (x_istore 4 (K 42)))))) := ((xe_aload 1).trans (congrArg (x_aload 1) ((xe_g0 (kk := 102) rfl tl_2_4).trans (congrArg (x_g0 102 4 0 11) ((xe_iaload).trans (congrArg (x_iaload) ((xe_istore 3).trans (congrArg (x_istore 3) ((xe_iconst 0).trans (congrArg (x_iconst 0) ((xe_istore 4).trans (congrArg (x_istore 4) xe_nil))))))))))))
theorem bk_X7_addCards_e_37 : ck_ fX7 none cX7_addCards 37 [.iaload, .istore 3, .iconst 0, .istore 4] 42 = true := qck_r (nn_ _) (by decide +kernel)
theorem bs_X7_addCards_e_37 {P : Zt → Option Zv → Prop} (K : Int → Zl → List Zv → Zt → Prop) : sx_ K P [.iaload, .istore 3, .iconst 0, .istore 4] 42 = x_iaload (x_istore 3 (x_iconst 0 (x_istore 4 (K 42)))) := ((xe_iaload).trans (congrArg (x_iaload) ((xe_istore 3).trans (congrArg (x_istore 3) ((xe_iconst 0).trans (congrArg (x_iconst 0) ((xe_istore 4).trans (congrArg (x_istore 4) xe_nil))))))))
theorem bk_X7_addCards_e_0 : ck_ fX7 none cX7_addCards 0 [.aload 1, .tableswitch 0 2 10 #[], .ifnonnull 8, .return_] 8 = true := qck_r (nn_ _) (by decide +kernel)
theorem bs_X7_addCards_e_0 {P : Zt → Option Zv → Prop} (K : Int → Zl → List Zv → Zt → Prop) : sx_ K P [.aload 1, .tableswitch 0 2 10 #[], .ifnonnull 8, .return_] 8 = x_aload 1 (x_g4 102 103 10 (x_ifnonnull 8 K (x_return_ P))) := ((xe_aload 1).trans (congrArg (x_aload 1) ((xe_g4 (kk := 102) rfl tl_2_10).trans (congrArg (x_g4 102 103 10) ((xe_ifnonnull 8).trans (congrArg (x_ifnonnull 8 K) (xe_return_)))))))
theorem bk_X7_addCards_e_8 : ck_ fX7 none cX7_addCards 8 [.iconst 0, .istore 2] 10 = true := qck_r (nn_ _) (by decide +kernel)
theorem bs_X7_addCards_e_8 {P : Zt → Option Zv → Prop} (K : Int → Zl → List Zv → Zt → Prop) : sx_ K P [.iconst 0, .istore 2] 10 = x_iconst 0 (x_istore 2 (K 10)) := ((xe_iconst 0).trans (congrArg (x_iconst 0) ((xe_istore 2).trans (congrArg (x_istore 2) xe_nil))))
abbrev po_X7_addCards_e (T : Zt) (p : Int) : Zt → Option Zv → Prop := fun T' r => r = none ∧ fr_ [(544, [])] T T' ∧ (RV_ 544 T T' (fun j => cz_ (j = T 404 (T 107 0 1 - 1) (T 102 p 3)) (cz_ (T 102 p 10 = 0) 0 (fr9h_ T p 0 (T 449 p 0).toNat)) 0 + cz_ (j = T 404 (T 107 0 1 - 1) (T 102 p 4)) (cz_ (T 102 p 10 = 0) 0 (fr9h_ T p 10 (T 449 p 1).toNat)) 0))
set_option maxHeartbeats 4000000 in
theorem ct_X7_addCards_e {T : Zt} {p : Int} (hct : T 107 0 1 ≠ 0) (hse : 0 ≤ T 404 (T 107 0 1 - 1) (T 102 p 3) ∧ 0 ≤ T 404 (T 107 0 1 - 1) (T 102 p 4)) : Ct_ yX7_addCards zX7_addCards T [vR 107 0, vR 102 p] (po_X7_addCards_e T p) := by
  refine ct_of pn_7 rfl rfl (Nat.le_of_ble_eq_true rfl) (fun hT hav => ?_)
  have hz : zX7_addCards.2.2.2.1 = some .boolean → ∀ (T' : Zt) (x : Int), po_X7_addCards_e T p T' (some (vI x)) → 0 ≤ x ∧ x ≤ 1 := fun h => by cases h
  have hl0 : 0 ≤ T 449 p 0 ∧ T 449 p 0 ≤ 10 := bd_a hT 449 (by decide +kernel : ta_ 449 = some (1, some 2, 0, 10)) p (by omega)
  have hl1 : 0 ≤ T 449 p 1 ∧ T 449 p 1 ≤ 10 := bd_a hT 449 (by decide +kernel : ta_ 449 = some (1, some 2, 0, 10)) p (by omega)
  show J_ zX7_addCards T (po_X7_addCards_e T p) 0 0 0 [some (vR 107 0), some (vR 102 p), none, none, none, none] [] T
  have c_10 : ∀ (nn : Nat) (d : Int) (T1 : Zt), ((2 - d).toNat) ≤ nn → (fr_ [(544, [])] T T1) → (0 ≤ d ∧ d ≤ 2 ∧ T 102 p 10 ≠ 0) → (RV_ 544 T T1 (fun j => cz_ (0 < d ∧ j = T 404 (T 107 0 1 - 1) (T 102 p 3)) (fr9h_ T p 0 (T 449 p 0).toNat) 0 + cz_ (1 < d ∧ j = T 404 (T 107 0 1 - 1) (T 102 p 4)) (fr9h_ T p 10 (T 449 p 1).toNat) 0)) → J_ zX7_addCards T (po_X7_addCards_e T p) 0 0 10 [some (vR 107 0), some (vR 102 p), some (vI d), none, none, none] [] T1 := by
    intro nn
    induction nn using Nat.strongRecOn with
    | _ nn ih_10 =>
      intro d T1 hm_10 hf_10 i1 d1
      replace hm_10 := fun (_ : Unit) => hm_10
      have c_42 : ∀ (nn : Nat) (e : Int) (k : Int) (T2 : Zt), ((10 - k).toNat) ≤ nn → (fr_ [(544, [])] T T2) → (-1 ≤ e ∧ e < 12 ∧ 0 ≤ k ∧ d < 2 ∧ (d = 0 → e = T 404 (T 107 0 1 - 1) (T 102 p 3)) ∧ (d = 1 → e = T 404 (T 107 0 1 - 1) (T 102 p 4)) ∧ k ≤ T 449 p d) → (RV_ 544 T T2 (fun j => cz_ (0 < d ∧ j = T 404 (T 107 0 1 - 1) (T 102 p 3)) (fr9h_ T p 0 (T 449 p 0).toNat) 0 + cz_ (j = e) (fr9h_ T p (d * 10) k.toNat) 0)) → J_ zX7_addCards T (po_X7_addCards_e T p) 0 0 42 [some (vR 107 0), some (vR 102 p), some (vI d), some (vI e), some (vI k), none] [] T2 := by
        intro nn
        induction nn using Nat.strongRecOn with
        | _ nn ih_42 =>
          intro e k T2 hm_42 hf_42 i2 d2
          replace hm_42 := fun (_ : Unit) => hm_42
          refine j_blx (F := fX7) tb_X7 (nn_ _) bk_X7_addCards_e_42 bs_X7_addCards_e_42 hz (fun K hK => ?_)
          refine And.intro (fun c1 => ?_) (fun c1 => ?_)
          · refine hK 110 _ [] T2 ?_
            refine j_blx (F := fX7) tb_X7 (nn_ _) bk_X7_addCards_e_110 bs_X7_addCards_e_110 hz (fun K hK => ?_)
            refine rg_i (by omega) ?_
            refine hK 10 [some (vR 107 0), some (vR 102 p), some (vI (d + 1)), some (vI e), some (vI k), none] [] T2 ?_
            refine j_drq [some (vR 107 0), some (vR 102 p), some (vI (d + 1)), none, none, none] (drq_s (drq_s (drq_s (drq_n (drq_n (drq_n drq_0)))))) ?_
            refine ih_10 _ ?_ (d + 1) T2 (Nat.le_refl _) ?_ ?_ ?_
            · have hm_10 := hm_10 (); omega
            · exact fr_t (fr_0 _ _) (fr_s hf_42 rfl)
            · omega
            · refine rv_e (rv_k d2 (fun j => rfl)) (fun i => ?_)
              show cz_ (0 < d ∧ i = T 404 (T 107 0 1 - 1) (T 102 p 3)) (fr9h_ T p 0 (T 449 p 0).toNat) 0 + cz_ (i = e) (fr9h_ T p (d * 10) k.toNat) 0 = cz_ (0 < d + 1 ∧ i = T 404 (T 107 0 1 - 1) (T 102 p 3)) (fr9h_ T p 0 (T 449 p 0).toNat) 0 + cz_ (1 < d + 1 ∧ i = T 404 (T 107 0 1 - 1) (T 102 p 4)) (fr9h_ T p 10 (T 449 p 1).toNat) 0
              rcases (by omega : d = 0 ∨ d = 1) with z | z
              · have hd : T 449 p d = T 449 p 0 := congrArg (fun y => T 449 p y) z
                rw [cz_f (P := 0 < d ∧ i = T 404 (T 107 0 1 - 1) (T 102 p 3)) (fun q => by omega), cz_f (P := 1 < d + 1 ∧ i = T 404 (T 107 0 1 - 1) (T 102 p 4)) (fun q => by omega), cz_g (P := i = e) (Q := 0 < d + 1 ∧ i = T 404 (T 107 0 1 - 1) (T 102 p 3)) (by omega), show k = T 449 p 0 by omega, show d * 10 = 0 by omega]
                omega
              · have hd : T 449 p d = T 449 p 1 := congrArg (fun y => T 449 p y) z
                rw [cz_g (P := 0 < d ∧ i = T 404 (T 107 0 1 - 1) (T 102 p 3)) (Q := 0 < d + 1 ∧ i = T 404 (T 107 0 1 - 1) (T 102 p 3)) (by omega), cz_g (P := i = e) (Q := 1 < d + 1 ∧ i = T 404 (T 107 0 1 - 1) (T 102 p 4)) (by omega), show k = T 449 p 1 by omega, show d * 10 = 10 by omega]
          · refine ix_i (by omega) ?_
            intro b2 b2b
            have e3 : T2 449 p d = T 449 p d := hf_42 449 p d rfl
            rw [e3] at b2 b2b ⊢
            refine And.intro (fun c4 => ?_) (fun c4 => ?_)
            · refine hK 110 [some (vR 107 0), some (vR 102 p), some (vI d), some (vI e), some (vI k), none] [] T2 ?_
              refine j_blx (F := fX7) tb_X7 (nn_ _) bk_X7_addCards_e_110 bs_X7_addCards_e_110 hz (fun K hK => ?_)
              refine rg_i (by omega) ?_
              refine hK 10 [some (vR 107 0), some (vR 102 p), some (vI (d + 1)), some (vI e), some (vI k), none] [] T2 ?_
              refine j_drq [some (vR 107 0), some (vR 102 p), some (vI (d + 1)), none, none, none] (drq_s (drq_s (drq_s (drq_n (drq_n (drq_n drq_0)))))) ?_
              refine ih_10 _ ?_ (d + 1) T2 (Nat.le_refl _) ?_ ?_ ?_
              · have hm_10 := hm_10 (); omega
              · exact fr_t (fr_0 _ _) (fr_s hf_42 rfl)
              · omega
              · refine rv_e (rv_k d2 (fun j => rfl)) (fun i => ?_)
                show cz_ (0 < d ∧ i = T 404 (T 107 0 1 - 1) (T 102 p 3)) (fr9h_ T p 0 (T 449 p 0).toNat) 0 + cz_ (i = e) (fr9h_ T p (d * 10) k.toNat) 0 = cz_ (0 < d + 1 ∧ i = T 404 (T 107 0 1 - 1) (T 102 p 3)) (fr9h_ T p 0 (T 449 p 0).toNat) 0 + cz_ (1 < d + 1 ∧ i = T 404 (T 107 0 1 - 1) (T 102 p 4)) (fr9h_ T p 10 (T 449 p 1).toNat) 0
                rcases (by omega : d = 0 ∨ d = 1) with z | z
                · have hd : T 449 p d = T 449 p 0 := congrArg (fun y => T 449 p y) z
                  rw [cz_f (P := 0 < d ∧ i = T 404 (T 107 0 1 - 1) (T 102 p 3)) (fun q => by omega), cz_f (P := 1 < d + 1 ∧ i = T 404 (T 107 0 1 - 1) (T 102 p 4)) (fun q => by omega), cz_g (P := i = e) (Q := 0 < d + 1 ∧ i = T 404 (T 107 0 1 - 1) (T 102 p 3)) (by omega), show k = T 449 p 0 by omega, show d * 10 = 0 by omega]
                  omega
                · have hd : T 449 p d = T 449 p 1 := congrArg (fun y => T 449 p y) z
                  rw [cz_g (P := 0 < d ∧ i = T 404 (T 107 0 1 - 1) (T 102 p 3)) (Q := 0 < d + 1 ∧ i = T 404 (T 107 0 1 - 1) (T 102 p 3)) (by omega), cz_g (P := i = e) (Q := 1 < d + 1 ∧ i = T 404 (T 107 0 1 - 1) (T 102 p 4)) (by omega), show k = T 449 p 1 by omega, show d * 10 = 10 by omega]
            · refine rg_i (by omega) ?_
              refine rg_i (by omega) ?_
              refine ix_i (by omega) ?_
              intro b5 b5b
              have e7 : T2 102 p 10 = T 102 p 10 := hf_42 102 p 10 rfl
              refine And.intro (fun c6 => ?_) (fun c6 => ?_)
              · exact absurd c6 (by omega)
              · refine ix_i (by omega) ?_
                intro b8 b8b
                have e9 : T2 473 p ((d * 10) + k) = T 473 p ((d * 10) + k) := hf_42 473 p ((d * 10) + k) rfl
                rw [e9] at b8 b8b ⊢
                have e11 : T2 102 p 10 = T 102 p 10 := hf_42 102 p 10 rfl
                refine And.intro (fun c10 => ?_) (fun c10 => ?_)
                · exact absurd c10 (by omega)
                · refine hK 90 [some (vR 107 0), some (vR 102 p), some (vI d), some (vI e), some (vI k), some (vI ((d * 10) + k))] [vI ((d * 10) + k), vR 103 p, vI (T 473 p ((d * 10) + k)), vI (T2 544 0 e), vI e, vR 544 0] T2 ?_
                  refine j_callV (y := yX3_isSentOff) (Yc := zX3_isSentOff) (rest := [vI (T 473 p ((d * 10) + k)), vI (T2 544 0 e), vI e, vR 544 0]) [vI ((d * 10) + k)] (ct_X3_isSentOff_f (T := T2) (by omega)) cl_X7_136 (qd_c (by decide +kernel)) (nn_ _) rfl (rf_of rfl) (Nat.le_of_ble_eq_true rfl) (Nat.le_of_ble_eq_true rfl) (Nat.le_of_ble_eq_true rfl) rfl ?_
                  rintro _ _ ⟨rfl, x12, rfl, hx12⟩
                  have e13 : T2 472 p ((d * 10) + k) = T 472 p ((d * 10) + k) := hf_42 472 p ((d * 10) + k) rfl
                  show J_ zX7_addCards T (po_X7_addCards_e T p) 0 0 93 _ [vI x12, vI (T 473 p ((d * 10) + k)), vI (T2 544 0 e), vI e, vR 544 0] T2
                  refine j_blx (F := fX7) tb_X7 (nn_ _) bk_X7_addCards_e_93 bs_X7_addCards_e_93 hz (fun K hK => ?_)
                  refine And.intro (fun c14 => ?_) (fun c14 => ?_)
                  · replace hx12 := hx12.resolve_left (fun z => absurd (c14.symm.trans z.1) (by decide))
                    clear c14
                    refine hK 100 _ [vI (T 473 p ((d * 10) + k)), vI (T2 544 0 e), vI e, vR 544 0] T2 ?_
                    refine j_blx (F := fX7) tb_X7 (nn_ _) bk_X7_addCards_e_100 bs_X7_addCards_e_100 hz (fun K hK => ?_)
                    intro w15 w15b
                    intro w16 w16b
                    refine iy_i (by omega) (by omega) ?_
                    refine x_nm (fun U17 hU17 => ?_)
                    have e18 := up_f hU17
                    refine rg_i (by omega) ?_
                    refine hK 42 [some (vR 107 0), some (vR 102 p), some (vI d), some (vI e), some (vI (k + 1)), some (vI ((d * 10) + k))] [] U17 ?_
                    refine j_drq [some (vR 107 0), some (vR 102 p), some (vI d), some (vI e), some (vI (k + 1)), none] (drq_s (drq_s (drq_s (drq_s (drq_s (drq_n drq_0)))))) ?_
                    refine ih_42 _ ?_ e (k + 1) U17 (Nat.le_refl _) ?_ ?_ ?_
                    · have hm_42 := hm_42 (); omega
                    · exact fr_u (fr_t (fr_0 _ _) (fr_s hf_42 rfl)) hU17 rfl
                    · omega
                    · have y9 : (T 473 p ((d * 10) + k)) + 0 = T 473 p (d * 10 + k) + cz_ (T 472 p (d * 10 + k) = 3) 3 0 := by
                        first
                        | (rw [cz_t (by omega)])
                        | (rw [cz_f (by omega)])
                      refine rv_e (rv_w (y := (T 473 p ((d * 10) + k)) + 0) d2 hU17 rfl) (fun i => ?_)
                      show cz_ (0 < d ∧ i = T 404 (T 107 0 1 - 1) (T 102 p 3)) (fr9h_ T p 0 (T 449 p 0).toNat) 0 + cz_ (i = e) (fr9h_ T p (d * 10) k.toNat) 0 + cz_ (i = e) ((T 473 p ((d * 10) + k)) + 0) 0 = cz_ (0 < d ∧ i = T 404 (T 107 0 1 - 1) (T 102 p 3)) (fr9h_ T p 0 (T 449 p 0).toNat) 0 + cz_ (i = e) (fr9h_ T p (d * 10) (k + 1).toNat) 0
                      rw [frh_s (y := (T 473 p ((d * 10) + k)) + 0) (by omega) y9, ← cz_s (P := i = e) (x := fr9h_ T p (d * 10) k.toNat) (y := (T 473 p ((d * 10) + k)) + 0)]
                      omega
                  · replace hx12 := hx12.resolve_right (fun z => c14 z.1)
                    clear c14
                    refine hK 101 [some (vR 107 0), some (vR 102 p), some (vI d), some (vI e), some (vI k), some (vI ((d * 10) + k))] [vI 3, vI (T 473 p ((d * 10) + k)), vI (T2 544 0 e), vI e, vR 544 0] T2 ?_
                    refine j_blx (F := fX7) tb_X7 (nn_ _) bk_X7_addCards_e_101 bs_X7_addCards_e_101 hz (fun K hK => ?_)
                    intro w19 w19b
                    intro w20 w20b
                    refine iy_i (by omega) (by omega) ?_
                    refine x_nm (fun U21 hU21 => ?_)
                    have e22 := up_f hU21
                    refine rg_i (by omega) ?_
                    refine hK 42 [some (vR 107 0), some (vR 102 p), some (vI d), some (vI e), some (vI (k + 1)), some (vI ((d * 10) + k))] [] U21 ?_
                    refine j_drq [some (vR 107 0), some (vR 102 p), some (vI d), some (vI e), some (vI (k + 1)), none] (drq_s (drq_s (drq_s (drq_s (drq_s (drq_n drq_0)))))) ?_
                    refine ih_42 _ ?_ e (k + 1) U21 (Nat.le_refl _) ?_ ?_ ?_
                    · have hm_42 := hm_42 (); omega
                    · exact fr_u (fr_t (fr_0 _ _) (fr_s hf_42 rfl)) hU21 rfl
                    · omega
                    · have y9 : (T 473 p ((d * 10) + k)) + 3 = T 473 p (d * 10 + k) + cz_ (T 472 p (d * 10 + k) = 3) 3 0 := by
                        first
                        | (rw [cz_t (by omega)])
                        | (rw [cz_f (by omega)])
                      refine rv_e (rv_w (y := (T 473 p ((d * 10) + k)) + 3) d2 hU21 rfl) (fun i => ?_)
                      show cz_ (0 < d ∧ i = T 404 (T 107 0 1 - 1) (T 102 p 3)) (fr9h_ T p 0 (T 449 p 0).toNat) 0 + cz_ (i = e) (fr9h_ T p (d * 10) k.toNat) 0 + cz_ (i = e) ((T 473 p ((d * 10) + k)) + 3) 0 = cz_ (0 < d ∧ i = T 404 (T 107 0 1 - 1) (T 102 p 3)) (fr9h_ T p 0 (T 449 p 0).toNat) 0 + cz_ (i = e) (fr9h_ T p (d * 10) (k + 1).toNat) 0
                      rw [frh_s (y := (T 473 p ((d * 10) + k)) + 3) (by omega) y9, ← cz_s (P := i = e) (x := fr9h_ T p (d * 10) k.toNat) (y := (T 473 p ((d * 10) + k)) + 3)]
                      omega
      refine j_blx (F := fX7) tb_X7 (nn_ _) bk_X7_addCards_e_10 bs_X7_addCards_e_10 hz (fun K hK => ?_)
      refine And.intro (fun c23 => ?_) (fun c23 => ?_)
      · refine hK 116 _ [] T1 ?_
        refine j_blx (F := fX7) tb_X7 (nn_ _) bk_X7_addCards_e_116 bs_X7_addCards_e_116 hz (fun K hK => ?_)
        refine (show po_X7_addCards_e T p T1 (none) from ?_)
        refine ⟨rfl, fr_t (fr_0 _ _) (fr_s hf_10 rfl), rv_e d1 (fun i => ?_)⟩
        show cz_ (0 < d ∧ i = T 404 (T 107 0 1 - 1) (T 102 p 3)) (fr9h_ T p 0 (T 449 p 0).toNat) 0 + cz_ (1 < d ∧ i = T 404 (T 107 0 1 - 1) (T 102 p 4)) (fr9h_ T p 10 (T 449 p 1).toNat) 0 = cz_ (i = T 404 (T 107 0 1 - 1) (T 102 p 3)) (cz_ (T 102 p 10 = 0) 0 (fr9h_ T p 0 (T 449 p 0).toNat)) 0 + cz_ (i = T 404 (T 107 0 1 - 1) (T 102 p 4)) (cz_ (T 102 p 10 = 0) 0 (fr9h_ T p 10 (T 449 p 1).toNat)) 0
        rw [cz_f (P := T 102 p 10 = 0) (by omega), cz_f (P := T 102 p 10 = 0) (by omega), cz_g (P := 0 < d ∧ i = T 404 (T 107 0 1 - 1) (T 102 p 3)) (Q := i = T 404 (T 107 0 1 - 1) (T 102 p 3)) (by omega), cz_g (P := 1 < d ∧ i = T 404 (T 107 0 1 - 1) (T 102 p 4)) (Q := i = T 404 (T 107 0 1 - 1) (T 102 p 4)) (by omega)]
      · have e25 : T1 107 0 1 = T 107 0 1 := hf_10 107 0 1 rfl
        refine And.intro (fun c24 => ?_) (fun c24 => ?_)
        · exact absurd c24 (by omega)
        · refine And.intro (fun c26 => ?_) (fun c26 => ?_)
          · refine hK 33 _ [vR 404 (T1 107 0 1 - 1)] T1 ?_
            refine j_blx (F := fX7) tb_X7 (nn_ _) bk_X7_addCards_e_33 bs_X7_addCards_e_33 hz (fun K hK => ?_)
            intro b27 b27b
            have e28 : T1 102 p 4 = T 102 p 4 := hf_10 102 p 4 rfl
            rw [e28] at b27 b27b ⊢
            refine ix_i (by omega) ?_
            intro b29 b29b
            have e30 : T1 404 (T 107 0 1 - 1) (T 102 p 4) = T 404 (T 107 0 1 - 1) (T 102 p 4) := hf_10 404 (T 107 0 1 - 1) (T 102 p 4) rfl
            have e31 : T1 404 (T1 107 0 1 - 1) (T 102 p 4) = T 404 (T 107 0 1 - 1) (T 102 p 4) := by rw [e25]; exact e30
            rw [e31] at b29 b29b ⊢
            refine hK 42 [some (vR 107 0), some (vR 102 p), some (vI d), some (vI (T 404 (T 107 0 1 - 1) (T 102 p 4))), some (vI 0), none] [] T1 ?_
            refine c_42 _ (T 404 (T 107 0 1 - 1) (T 102 p 4)) 0 T1 (Nat.le_refl _) ?_ ?_ ?_
            · exact fr_t (fr_0 _ _) (fr_s hf_10 rfl)
            · have hld : 0 ≤ T 449 p d ∧ T 449 p d ≤ 10 := bd_a hT 449 (by decide +kernel : ta_ 449 = some (1, some 2, 0, 10)) p (by omega)
              omega
            · refine rv_e (rv_k d1 (fun j => rfl)) (fun i => ?_)
              show cz_ (0 < d ∧ i = T 404 (T 107 0 1 - 1) (T 102 p 3)) (fr9h_ T p 0 (T 449 p 0).toNat) 0 + cz_ (1 < d ∧ i = T 404 (T 107 0 1 - 1) (T 102 p 4)) (fr9h_ T p 10 (T 449 p 1).toNat) 0 = cz_ (0 < d ∧ i = T 404 (T 107 0 1 - 1) (T 102 p 3)) (fr9h_ T p 0 (T 449 p 0).toNat) 0 + cz_ (i = T 404 (T 107 0 1 - 1) (T 102 p 4)) (fr9h_ T p (d * 10) (0 : Int).toNat) 0
              rw [cz_f (P := 1 < d ∧ i = T 404 (T 107 0 1 - 1) (T 102 p 4)) (fun q => by omega), cz_0 (P := i = T 404 (T 107 0 1 - 1) (T 102 p 4)) (show fr9h_ T p (d * 10) (0 : Int).toNat = 0 from rfl)]
          · intro b32 b32b
            have e33 : T1 102 p 3 = T 102 p 3 := hf_10 102 p 3 rfl
            rw [e33] at b32 b32b ⊢
            refine hK 37 [some (vR 107 0), some (vR 102 p), some (vI d), none, none, none] [vI (T 102 p 3), vR 404 (T1 107 0 1 - 1)] T1 ?_
            refine j_blx (F := fX7) tb_X7 (nn_ _) bk_X7_addCards_e_37 bs_X7_addCards_e_37 hz (fun K hK => ?_)
            refine ix_i (by omega) ?_
            intro b34 b34b
            have e35 : T1 404 (T 107 0 1 - 1) (T 102 p 3) = T 404 (T 107 0 1 - 1) (T 102 p 3) := hf_10 404 (T 107 0 1 - 1) (T 102 p 3) rfl
            have e36 : T1 404 (T1 107 0 1 - 1) (T 102 p 3) = T 404 (T 107 0 1 - 1) (T 102 p 3) := by rw [e25]; exact e35
            rw [e36] at b34 b34b ⊢
            refine hK 42 [some (vR 107 0), some (vR 102 p), some (vI d), some (vI (T 404 (T 107 0 1 - 1) (T 102 p 3))), some (vI 0), none] [] T1 ?_
            refine c_42 _ (T 404 (T 107 0 1 - 1) (T 102 p 3)) 0 T1 (Nat.le_refl _) ?_ ?_ ?_
            · exact fr_t (fr_0 _ _) (fr_s hf_10 rfl)
            · have hld : 0 ≤ T 449 p d ∧ T 449 p d ≤ 10 := bd_a hT 449 (by decide +kernel : ta_ 449 = some (1, some 2, 0, 10)) p (by omega)
              omega
            · refine rv_e (rv_k d1 (fun j => rfl)) (fun i => ?_)
              show cz_ (0 < d ∧ i = T 404 (T 107 0 1 - 1) (T 102 p 3)) (fr9h_ T p 0 (T 449 p 0).toNat) 0 + cz_ (1 < d ∧ i = T 404 (T 107 0 1 - 1) (T 102 p 4)) (fr9h_ T p 10 (T 449 p 1).toNat) 0 = cz_ (0 < d ∧ i = T 404 (T 107 0 1 - 1) (T 102 p 3)) (fr9h_ T p 0 (T 449 p 0).toNat) 0 + cz_ (i = T 404 (T 107 0 1 - 1) (T 102 p 3)) (fr9h_ T p (d * 10) (0 : Int).toNat) 0
              rw [cz_f (P := 1 < d ∧ i = T 404 (T 107 0 1 - 1) (T 102 p 4)) (fun q => by omega), cz_0 (P := i = T 404 (T 107 0 1 - 1) (T 102 p 3)) (show fr9h_ T p (d * 10) (0 : Int).toNat = 0 from rfl)]
  refine j_blx (F := fX7) tb_X7 (nn_ _) bk_X7_addCards_e_0 bs_X7_addCards_e_0 hz (fun K hK => ?_)
  refine And.intro (fun c37 => ?_) (fun c37 => ?_)
  · refine (show po_X7_addCards_e T p T (none) from ?_)
    refine ⟨rfl, fr_0 _ _, rv_e (rv_0 (fun _ => rfl)) (fun i => ?_)⟩
    show (0 : Int) = cz_ (i = T 404 (T 107 0 1 - 1) (T 102 p 3)) (cz_ (T 102 p 10 = 0) 0 (fr9h_ T p 0 (T 449 p 0).toNat)) 0 + cz_ (i = T 404 (T 107 0 1 - 1) (T 102 p 4)) (cz_ (T 102 p 10 = 0) 0 (fr9h_ T p 10 (T 449 p 1).toNat)) 0
    rw [cz_t (P := T 102 p 10 = 0) (by omega), cz_t (P := T 102 p 10 = 0) (by omega), cz_0 rfl, cz_0 rfl]
    rfl
  · refine hK 8 _ [] T ?_
    refine j_blx (F := fX7) tb_X7 (nn_ _) bk_X7_addCards_e_8 bs_X7_addCards_e_8 hz (fun K hK => ?_)
    refine hK 10 [some (vR 107 0), some (vR 102 p), some (vI 0), none, none, none] [] T ?_
    refine c_10 _ 0 T (Nat.le_refl _) ?_ ?_ ?_
    · exact fr_0 _ _
    · omega
    · refine rv_e (rv_0 (fun _ => rfl)) (fun i => ?_)
      show (0 : Int) = cz_ ((0 : Int) < 0 ∧ i = T 404 (T 107 0 1 - 1) (T 102 p 3)) (fr9h_ T p 0 (T 449 p 0).toNat) 0 + cz_ ((1 : Int) < 0 ∧ i = T 404 (T 107 0 1 - 1) (T 102 p 4)) (fr9h_ T p 10 (T 449 p 1).toNat) 0
      rw [cz_f (fun q => by omega), cz_f (fun q => by omega)]
      rfl
theorem bk_X6_deductedUpTo_e_6 : ck_ fX6 (some .int) cX6_deductedUpTo 6 [.iload 5, .aload 0, .tableswitch 0 6 6 #[], .if_icmp .ge 66, .aload 0, .tableswitch 0 6 7 #[], .iload 5, .iaload, .iload 2, .if_icmp .ne 60, .aload 0, .tableswitch 0 6 8 #[], .iload 5, .iaload, .iload 3, .if_icmp .ne 60, .aload 0, .tableswitch 0 6 10 #[], .iload 5, .iaload, .iload 1, .if_icmp .gt 60, .iload 4, .aload 0, .tableswitch 0 6 9 #[], .iload 5, .iaload, .iadd, .istore 4, .iinc 5 1, .goto 6] 66 = true := qck_r (nn_ _) (by decide +kernel)
theorem bs_X6_deductedUpTo_e_6 {P : Zt → Option Zv → Prop} (K : Int → Zl → List Zv → Zt → Prop) : sx_ K P [.iload 5, .aload 0, .tableswitch 0 6 6 #[], .if_icmp .ge 66, .aload 0, .tableswitch 0 6 7 #[], .iload 5, .iaload, .iload 2, .if_icmp .ne 60, .aload 0, .tableswitch 0 6 8 #[], .iload 5, .iaload, .iload 3, .if_icmp .ne 60, .aload 0, .tableswitch 0 6 10 #[], .iload 5, .iaload, .iload 1, .if_icmp .gt 60, .iload 4, .aload 0, .tableswitch 0 6 9 #[], .iload 5, .iaload, .iadd, .istore 4, .iinc 5 1, .goto 6] 66 = x_iload 5 (x_aload 0 (x_g0 106 6 0 50 (x_if_icmp .ge 66 K (x_aload 0 (x_g1 106 527 (x_iload 5 (x_iaload (x_iload 2 (x_if_icmp .ne 60 K (x_aload 0 (x_g1 106 528 (x_iload 5 (x_iaload (x_iload 3 (x_if_icmp .ne 60 K (x_aload 0 (x_g1 106 530 (x_iload 5 (x_iaload (x_iload 1 (x_if_icmp .gt 60 K (x_iload 4 (x_aload 0 (x_g1 106 529 (x_iload 5 (x_iaload (x_iadd (x_istore 4 (x_iinc 5 1 (x_goto 6 K)))))))))))))))))))))))))))))) := ((xe_iload 5).trans (congrArg (x_iload 5) ((xe_aload 0).trans (congrArg (x_aload 0) ((xe_g0 (kk := 106) rfl tl_6_6).trans (congrArg (x_g0 106 6 0 50) ((xe_if_icmp .ge 66).trans (congrArg (x_if_icmp .ge 66 K) ((xe_aload 0).trans (congrArg (x_aload 0) ((xe_g1 (kk := 106) rfl tl_6_7).trans (congrArg (x_g1 106 527) ((xe_iload 5).trans (congrArg (x_iload 5) ((xe_iaload).trans (congrArg (x_iaload) ((xe_iload 2).trans (congrArg (x_iload 2) ((xe_if_icmp .ne 60).trans (congrArg (x_if_icmp .ne 60 K) ((xe_aload 0).trans (congrArg (x_aload 0) ((xe_g1 (kk := 106) rfl tl_6_8).trans (congrArg (x_g1 106 528) ((xe_iload 5).trans (congrArg (x_iload 5) ((xe_iaload).trans (congrArg (x_iaload) ((xe_iload 3).trans (congrArg (x_iload 3) ((xe_if_icmp .ne 60).trans (congrArg (x_if_icmp .ne 60 K) ((xe_aload 0).trans (congrArg (x_aload 0) ((xe_g1 (kk := 106) rfl tl_6_10).trans (congrArg (x_g1 106 530) ((xe_iload 5).trans (congrArg (x_iload 5) ((xe_iaload).trans (congrArg (x_iaload) ((xe_iload 1).trans (congrArg (x_iload 1) ((xe_if_icmp .gt 60).trans (congrArg (x_if_icmp .gt 60 K) ((xe_iload 4).trans (congrArg (x_iload 4) ((xe_aload 0).trans (congrArg (x_aload 0) ((xe_g1 (kk := 106) rfl tl_6_9).trans (congrArg (x_g1 106 529) ((xe_iload 5).trans (congrArg (x_iload 5) ((xe_iaload).trans (congrArg (x_iaload) ((xe_iadd).trans (congrArg (x_iadd) ((xe_istore 4).trans (congrArg (x_istore 4) ((xe_iinc 5 1).trans (congrArg (x_iinc 5 1) (xe_goto 6)))))))))))))))))))))))))))))))))))))))))))))))))))))))))))))
theorem bk_X6_deductedUpTo_e_66 : ck_ fX6 (some .int) cX6_deductedUpTo 66 [.iload 4, .ireturn] 69 = true := qck_r (nn_ _) (by decide +kernel)
theorem bs_X6_deductedUpTo_e_66 {P : Zt → Option Zv → Prop} (K : Int → Zl → List Zv → Zt → Prop) : sx_ K P [.iload 4, .ireturn] 69 = x_iload 4 (x_ireturn P) := ((xe_iload 4).trans (congrArg (x_iload 4) (xe_ireturn)))
theorem bk_X6_deductedUpTo_e_60 : ck_ fX6 (some .int) cX6_deductedUpTo 60 [.iinc 5 1, .goto 6] 66 = true := qck_r (nn_ _) (by decide +kernel)
theorem bs_X6_deductedUpTo_e_60 {P : Zt → Option Zv → Prop} (K : Int → Zl → List Zv → Zt → Prop) : sx_ K P [.iinc 5 1, .goto 6] 66 = x_iinc 5 1 (x_goto 6 K) := ((xe_iinc 5 1).trans (congrArg (x_iinc 5 1) (xe_goto 6)))
theorem bk_X6_deductedUpTo_e_0 : ck_ fX6 (some .int) cX6_deductedUpTo 0 [.iconst 0, .istore 4, .iconst 0, .istore 5] 6 = true := qck_r (nn_ _) (by decide +kernel)
theorem bs_X6_deductedUpTo_e_0 {P : Zt → Option Zv → Prop} (K : Int → Zl → List Zv → Zt → Prop) : sx_ K P [.iconst 0, .istore 4, .iconst 0, .istore 5] 6 = x_iconst 0 (x_istore 4 (x_iconst 0 (x_istore 5 (K 6)))) := ((xe_iconst 0).trans (congrArg (x_iconst 0) ((xe_istore 4).trans (congrArg (x_istore 4) ((xe_iconst 0).trans (congrArg (x_iconst 0) ((xe_istore 5).trans (congrArg (x_istore 5) xe_nil))))))))
abbrev po_X6_deductedUpTo_e (T : Zt) (d c cl : Int) : Zt → Option Zv → Prop := fun T' r => T = T' ∧ ∃ x : Int, r = some (vI x) ∧ ((0 ≤ x ∧ x ≤ 4950) ∧ x = dh9_ T c d cl (T 106 0 6).toNat)
set_option maxHeartbeats 4000000 in
theorem ct_X6_deductedUpTo_e {T : Zt} {d c cl : Int} : Ct_ yX6_deductedUpTo zX6_deductedUpTo T [vR 106 0, vI d, vI c, vI cl] (po_X6_deductedUpTo_e T d c cl) := by
  refine ct_of pn_6 rfl rfl (Nat.le_of_ble_eq_true rfl) (fun hT hav => ?_)
  have hr_d : -2147483648 ≤ d ∧ d ≤ 2147483647 := hav (vI d) (List.mem_cons_of_mem _ List.mem_cons_self)
  have hr_c : -2147483648 ≤ c ∧ c ≤ 2147483647 := hav (vI c) (List.mem_cons_of_mem _ (List.mem_cons_of_mem _ List.mem_cons_self))
  have hr_cl : -2147483648 ≤ cl ∧ cl ≤ 2147483647 := hav (vI cl) (List.mem_cons_of_mem _ (List.mem_cons_of_mem _ (List.mem_cons_of_mem _ List.mem_cons_self)))
  have hz : zX6_deductedUpTo.2.2.2.1 = some .boolean → ∀ (T' : Zt) (x : Int), po_X6_deductedUpTo_e T d c cl T' (some (vI x)) → 0 ≤ x ∧ x ≤ 1 := fun h => by cases h
  have hb_deductions : 0 ≤ T 106 0 6 ∧ T 106 0 6 ≤ 50 := bd_f hT 106 6 tl_6_6 0
  show J_ zX6_deductedUpTo T (po_X6_deductedUpTo_e T d c cl) 0 0 0 [some (vR 106 0), some (vI d), some (vI c), some (vI cl), none, none] [] T
  have c_6 : ∀ (nn : Nat) (u : Int) (i : Int), ((50 - i).toNat) ≤ nn → (0 ≤ i ∧ i ≤ 50 ∧ 0 ≤ u ∧ u ≤ 99 * i ∧ i ≤ T 106 0 6) → (u = dh9_ T c d cl i.toNat) → J_ zX6_deductedUpTo T (po_X6_deductedUpTo_e T d c cl) 0 0 6 [some (vR 106 0), some (vI d), some (vI c), some (vI cl), some (vI u), some (vI i)] [] T := by
    intro nn
    induction nn using Nat.strongRecOn with
    | _ nn ih_6 =>
      intro u i hm_6 i1 i2
      replace hm_6 := fun (_ : Unit) => hm_6
      refine j_blx (F := fX6) tb_X6 (nn_ _) bk_X6_deductedUpTo_e_6 bs_X6_deductedUpTo_e_6 hz (fun K hK => ?_)
      intro b1 b1b
      refine And.intro (fun c2 => ?_) (fun c2 => ?_)
      · refine hK 66 _ [] T ?_
        refine j_blx (F := fX6) tb_X6 (nn_ _) bk_X6_deductedUpTo_e_66 bs_X6_deductedUpTo_e_66 hz (fun K hK => ?_)
        refine (show po_X6_deductedUpTo_e T d c cl T (some (vI u)) from ?_)
        exact ⟨rfl, _, rfl, by omega, by rw [show T 106 0 6 = i by omega]; exact i2⟩
      · refine ix_i (by omega) ?_
        intro b3 b3b
        refine And.intro (fun c4 => ?_) (fun c4 => ?_)
        · refine hK 60 _ [] T ?_
          refine j_blx (F := fX6) tb_X6 (nn_ _) bk_X6_deductedUpTo_e_60 bs_X6_deductedUpTo_e_60 hz (fun K hK => ?_)
          refine rg_i (by omega) ?_
          refine hK 6 [some (vR 106 0), some (vI d), some (vI c), some (vI cl), some (vI u), some (vI (i + 1))] [] T ?_
          refine ih_6 _ ?_ u (i + 1) (Nat.le_refl _) ?_ ?_
          · have hm_6 := hm_6 (); omega
          · omega
          · first
            | (rw [dh_t (by omega) (by omega)]; omega)
            | (rw [dh_f (by omega) (by omega)]; omega)
        · refine ix_i (by omega) ?_
          intro b5 b5b
          refine And.intro (fun c6 => ?_) (fun c6 => ?_)
          · refine hK 60 [some (vR 106 0), some (vI d), some (vI c), some (vI cl), some (vI u), some (vI i)] [] T ?_
            refine j_blx (F := fX6) tb_X6 (nn_ _) bk_X6_deductedUpTo_e_60 bs_X6_deductedUpTo_e_60 hz (fun K hK => ?_)
            refine rg_i (by omega) ?_
            refine hK 6 [some (vR 106 0), some (vI d), some (vI c), some (vI cl), some (vI u), some (vI (i + 1))] [] T ?_
            refine ih_6 _ ?_ u (i + 1) (Nat.le_refl _) ?_ ?_
            · have hm_6 := hm_6 (); omega
            · omega
            · first
              | (rw [dh_t (by omega) (by omega)]; omega)
              | (rw [dh_f (by omega) (by omega)]; omega)
          · refine ix_i (by omega) ?_
            intro b7 b7b
            refine And.intro (fun c8 => ?_) (fun c8 => ?_)
            · refine hK 60 [some (vR 106 0), some (vI d), some (vI c), some (vI cl), some (vI u), some (vI i)] [] T ?_
              refine j_blx (F := fX6) tb_X6 (nn_ _) bk_X6_deductedUpTo_e_60 bs_X6_deductedUpTo_e_60 hz (fun K hK => ?_)
              refine rg_i (by omega) ?_
              refine hK 6 [some (vR 106 0), some (vI d), some (vI c), some (vI cl), some (vI u), some (vI (i + 1))] [] T ?_
              refine ih_6 _ ?_ u (i + 1) (Nat.le_refl _) ?_ ?_
              · have hm_6 := hm_6 (); omega
              · omega
              · first
                | (rw [dh_t (by omega) (by omega)]; omega)
                | (rw [dh_f (by omega) (by omega)]; omega)
            · refine ix_i (by omega) ?_
              intro b9 b9b
              refine rg_i (by omega) ?_
              refine rg_i (by omega) ?_
              refine hK 6 [some (vR 106 0), some (vI d), some (vI c), some (vI cl), some (vI (u + (T 529 0 i))), some (vI (i + 1))] [] T ?_
              refine ih_6 _ ?_ (u + (T 529 0 i)) (i + 1) (Nat.le_refl _) ?_ ?_
              · have hm_6 := hm_6 (); omega
              · omega
              · first
                | (rw [dh_t (by omega) (by omega)]; omega)
                | (rw [dh_f (by omega) (by omega)]; omega)
  refine j_blx (F := fX6) tb_X6 (nn_ _) bk_X6_deductedUpTo_e_0 bs_X6_deductedUpTo_e_0 hz (fun K hK => ?_)
  refine hK 6 [some (vR 106 0), some (vI d), some (vI c), some (vI cl), some (vI 0), some (vI 0)] [] T ?_
  refine c_6 _ 0 0 (Nat.le_refl _) ?_ ?_
  · omega
  · rfl
-- the house's tally of all, exactly: words
theorem frh_k {T U : Zt} {m b : Int} (h3 : ∀ j, U 473 m j = T 473 m j) (h2 : ∀ j, U 472 m j = T 472 m j) : ∀ n : Nat, fr9h_ U m b n = fr9h_ T m b n
  | 0 => rfl
  | n + 1 => by
    show fr9h_ U m b n + (U 473 m (b + (n : Int)) + cz_ (U 472 m (b + (n : Int)) = 3) 3 0) = fr9h_ T m b n + (T 473 m (b + (n : Int)) + cz_ (T 472 m (b + (n : Int)) = 3) 3 0)
    rw [frh_k h3 h2 n, h3, h2]
theorem vh_g {ws : List (Nat × List Int)} {T T2 : Zt} {d m : Int} (f : fr_ ws T T2) (w : ∀ (k : Nat) (j : Int), k = 102 ∨ k = 103 ∨ k = 401 ∨ k = 449 ∨ k = 468 ∨ k = 472 ∨ k = 473 → fw_ ws k j = false) : vH_ T2 d m = vH_ T d m := by
  have e2 : ∀ j, T2 102 m j = T 102 m j := fun j => f 102 m j (w 102 j (by decide))
  have e3 : ∀ j, T2 103 m j = T 103 m j := fun j => f 103 m j (w 103 j (by decide))
  have e01 : ∀ i j, T2 401 i j = T 401 i j := fun i j => f 401 i j (w 401 j (by decide))
  have e49 : ∀ j, T2 449 m j = T 449 m j := fun j => f 449 m j (w 449 j (by decide))
  have e68 : ∀ j, T2 468 m j = T 468 m j := fun j => f 468 m j (w 468 j (by decide))
  have ef : ∀ b n, fr9h_ T2 m b n = fr9h_ T m b n := fun b n => frh_k (fun j => f 473 m j (w 473 j (by decide))) (fun j => f 472 m j (w 472 j (by decide))) n
  funext i
  simp only [vH_, e2, e3, e01, e49, e68, ef]
theorem vh_s0 {T : Zt} {d m x : Int} (h : (T 102 m 6 ≠ -1 ∧ ((0 = T 102 m 6 ∧ x = 0) ∨ (0 ≠ T 102 m 6 ∧ x = T 401 (T 102 m 0) 12))) ∨ (T 102 m 6 = -1 ∧ ((T 102 m 10 = 0 ∧ x = 0) ∨ (T 102 m 10 ≠ 0 ∧ x = T 468 m 0)))) : vH_ T d m 3 = x := by
  rw [vh_3]
  rcases h with ⟨h1, ⟨h2, h3⟩ | ⟨h2, h3⟩⟩ | ⟨h1, ⟨h2, h3⟩ | ⟨h2, h3⟩⟩
  · rw [cz_t h1, cz_t h2.symm, h3]
  · rw [cz_t h1, cz_f (fun q => h2 q.symm), h3]
  · rw [cz_f (fun q => q h1), cz_t h2, h3]
  · rw [cz_f (fun q => q h1), cz_f h2, h3]
theorem vh_s1 {T : Zt} {d m x : Int} (h : (T 102 m 6 ≠ -1 ∧ ((1 = T 102 m 6 ∧ x = 0) ∨ (1 ≠ T 102 m 6 ∧ x = T 401 (T 102 m 0) 12))) ∨ (T 102 m 6 = -1 ∧ ((T 102 m 10 = 0 ∧ x = 0) ∨ (T 102 m 10 ≠ 0 ∧ x = T 468 m 1)))) : vH_ T d m 4 = x := by
  rw [vh_4]
  rcases h with ⟨h1, ⟨h2, h3⟩ | ⟨h2, h3⟩⟩ | ⟨h1, ⟨h2, h3⟩ | ⟨h2, h3⟩⟩
  · rw [cz_t h1, cz_t h2.symm, h3]
  · rw [cz_t h1, cz_f (fun q => h2 q.symm), h3]
  · rw [cz_f (fun q => q h1), cz_t h2, h3]
  · rw [cz_f (fun q => q h1), cz_f h2, h3]
theorem vh_c1 {T : Zt} {d m : Int} (h : (T 102 m 6 ≠ -1 ∨ (T 102 m 10 ≠ 0 ∧ T 103 m 3 ≠ 0)) ∧ T 102 m 5 ≤ d) : vH_ T d m 0 = 1 := vh_0.trans (cz_t h)
theorem vh_c0 {T : Zt} {d m : Int} (h : ¬ ((T 102 m 6 ≠ -1 ∨ (T 102 m 10 ≠ 0 ∧ T 103 m 3 ≠ 0)) ∧ T 102 m 5 ≤ d)) : vH_ T d m 0 ≠ 1 := fun q => by
  rw [vh_0, cz_f h] at q
  exact absurd q (by decide)
/-- all that the house has added up -/
def HF_ (T U : Zt) (c d : Int) : Prop :=
  (∀ x w : Int, 0 ≤ x → x < T 100 c 5 → 0 ≤ w → w ≤ 6 → wr_ (U 542 0 (x * 8 + w)) = wr_ (tn9_ (fun w => T 401 c w) (fun k => vH_ T d (T 100 c 7 + k)) (T 403 c x) w (T 100 c 8).toNat - cz_ (w = 6) (dh9_ T c d (T 403 c x) (T 106 0 6).toNat) 0)) ∧
  (∀ x : Int, 0 ≤ x → x < T 100 c 5 → wr_ (U 543 0 x) = wr_ (tn9_ (fun w => T 401 c w) (fun k => vH_ T d (T 100 c 7 + k)) (T 403 c x) 7 (T 100 c 8).toNat)) ∧
  (∀ x : Int, 0 ≤ x → x < T 100 c 5 → wr_ (U 544 0 x) = wr_ (tn9_ (fun w => T 401 c w) (fun k => vH_ T d (T 100 c 7 + k)) (T 403 c x) 8 (T 100 c 8).toNat)) ∧
  (∀ x y : Int, 0 ≤ x → x < T 100 c 5 → 0 ≤ y → y < T 100 c 5 → wr_ (U 545 0 (x * 12 + y)) = wr_ (hp9_ (fun w => T 401 c w) (fun k => vH_ T d (T 100 c 7 + k)) (T 403 c x) (T 403 c y) (T 100 c 8).toNat)) ∧
  (∀ x y : Int, 0 ≤ x → x < T 100 c 5 → 0 ≤ y → y < T 100 c 5 → wr_ (U 546 0 (x * 12 + y)) = wr_ (hs9_ (fun k => vH_ T d (T 100 c 7 + k)) (T 403 c x) (T 403 c y) (T 100 c 8).toNat))
theorem hf_z {T U U2 : Zt} {c d i : Int} {n : Nat} (h : HT_ T U (fun w => T 401 c w) (fun k => vH_ T d (T 100 c 7 + k)) c n) (hn : n = (T 100 c 8).toNat) (g : HD_ T U U2 c d i) (hi : T 100 c 5 ≤ i) (e : ∀ (k : Nat) (j : Int), k = 543 ∨ k = 544 ∨ k = 545 ∨ k = 546 → U2 k 0 j = U k 0 j) : HF_ T U2 c d := by
  subst hn
  obtain ⟨h1, h2, h3, h4, h5⟩ := h
  refine ⟨fun x w a b w0 w1 => ?_, fun x a b => ?_, fun x a b => ?_, fun x y a b p q => ?_, fun x y a b p q => ?_⟩
  · rw [g x w a b w0 w1, cz_g (P := w = 6 ∧ x < i) (Q := w = 6) ⟨fun q => q.1, fun q => ⟨q, by omega⟩⟩, Int.sub_eq_add_neg, wr_c (h1 x w a b w0 w1), Int.sub_eq_add_neg]
  · rw [e 543 _ (by decide)]; exact h2 x a b
  · rw [e 544 _ (by decide)]; exact h3 x a b
  · rw [e 545 _ (by decide)]; exact h4 x y a b p q
  · rw [e 546 _ (by decide)]; exact h5 x y a b p q
theorem bk_X7_tally_e_126 : ck_ fX7 none cX7_tally 126 [.iload 3, .aload 0, .tableswitch 0 7 1 #[], .tableswitch 0 0 5 #[], .if_icmp .ge 182, .aload 0, .tableswitch 0 7 2 #[], .iload 3, .iconst 8, .imul, .iconst 6, .iadd, .dup2, .iaload, .aload 0, .tableswitch 0 7 0 #[], .iload 2, .aload 0, .tableswitch 0 7 1 #[], .tableswitch 0 0 0 #[], .aload 0, .tableswitch 0 7 1 #[], .tableswitch 0 0 3 #[], .iload 3, .iaload] 171 = true := qck_r (nn_ _) (by decide +kernel)
theorem bs_X7_tally_e_126 {P : Zt → Option Zv → Prop} (K : Int → Zl → List Zv → Zt → Prop) : sx_ K P [.iload 3, .aload 0, .tableswitch 0 7 1 #[], .tableswitch 0 0 5 #[], .if_icmp .ge 182, .aload 0, .tableswitch 0 7 2 #[], .iload 3, .iconst 8, .imul, .iconst 6, .iadd, .dup2, .iaload, .aload 0, .tableswitch 0 7 0 #[], .iload 2, .aload 0, .tableswitch 0 7 1 #[], .tableswitch 0 0 0 #[], .aload 0, .tableswitch 0 7 1 #[], .tableswitch 0 0 3 #[], .iload 3, .iaload] 171 = x_iload 3 (x_aload 0 (x_g5 107 100 1 (x_g0 100 5 0 12 (x_if_icmp .ge 182 K (x_aload 0 (x_g1 107 542 (x_iload 3 (x_iconst 8 (x_imul (x_iconst 6 (x_iadd (x_dup2 (x_iaload (x_aload 0 (x_g1 107 106 (x_iload 2 (x_aload 0 (x_g5 107 100 1 (x_g0 100 0 0 3 (x_aload 0 (x_g5 107 100 1 (x_g2 100 403 (x_iload 3 (x_iaload (K 171))))))))))))))))))))))))) := ((xe_iload 3).trans (congrArg (x_iload 3) ((xe_aload 0).trans (congrArg (x_aload 0) ((xe_g5 (kk := 107) rfl tl_7_1).trans (congrArg (x_g5 107 100 1) ((xe_g0 (kk := 100) rfl tl_0_5).trans (congrArg (x_g0 100 5 0 12) ((xe_if_icmp .ge 182).trans (congrArg (x_if_icmp .ge 182 K) ((xe_aload 0).trans (congrArg (x_aload 0) ((xe_g1 (kk := 107) rfl tl_7_2).trans (congrArg (x_g1 107 542) ((xe_iload 3).trans (congrArg (x_iload 3) ((xe_iconst 8).trans (congrArg (x_iconst 8) ((xe_imul).trans (congrArg (x_imul) ((xe_iconst 6).trans (congrArg (x_iconst 6) ((xe_iadd).trans (congrArg (x_iadd) ((xe_dup2).trans (congrArg (x_dup2) ((xe_iaload).trans (congrArg (x_iaload) ((xe_aload 0).trans (congrArg (x_aload 0) ((xe_g1 (kk := 107) rfl tl_7_0).trans (congrArg (x_g1 107 106) ((xe_iload 2).trans (congrArg (x_iload 2) ((xe_aload 0).trans (congrArg (x_aload 0) ((xe_g5 (kk := 107) rfl tl_7_1).trans (congrArg (x_g5 107 100 1) ((xe_g0 (kk := 100) rfl tl_0_0).trans (congrArg (x_g0 100 0 0 3) ((xe_aload 0).trans (congrArg (x_aload 0) ((xe_g5 (kk := 107) rfl tl_7_1).trans (congrArg (x_g5 107 100 1) ((xe_g2 (kk := 100) rfl tl_0_3).trans (congrArg (x_g2 100 403) ((xe_iload 3).trans (congrArg (x_iload 3) ((xe_iaload).trans (congrArg (x_iaload) xe_nil))))))))))))))))))))))))))))))))))))))))))))))))))
theorem bk_X7_tally_e_182 : ck_ fX7 none cX7_tally 182 [.return_] 183 = true := qck_r (nn_ _) (by decide +kernel)
theorem bs_X7_tally_e_182 {P : Zt → Option Zv → Prop} (K : Int → Zl → List Zv → Zt → Prop) : sx_ K P [.return_] 183 = x_return_ P := (xe_return_)
theorem bk_X7_tally_e_174 : ck_ fX7 none cX7_tally 174 [.fsub, .iastore, .iinc 3 1, .goto 126] 182 = true := qck_r (nn_ _) (by decide +kernel)
theorem bs_X7_tally_e_174 {P : Zt → Option Zv → Prop} (K : Int → Zl → List Zv → Zt → Prop) : sx_ K P [.fsub, .iastore, .iinc 3 1, .goto 126] 182 = x_fsub (x_iastore (x_iinc 3 1 (x_goto 126 K))) := ((xe_fsub).trans (congrArg (x_fsub) ((xe_iastore).trans (congrArg (x_iastore) ((xe_iinc 3 1).trans (congrArg (x_iinc 3 1) (xe_goto 126)))))))
theorem bk_X7_tally_e_47 : ck_ fX7 none cX7_tally 47 [.iload 3, .aload 0, .tableswitch 0 7 1 #[], .tableswitch 0 0 8 #[], .if_icmp .ge 124, .aload 0, .tableswitch 0 7 0 #[], .tableswitch 0 6 3 #[], .aload 0, .tableswitch 0 7 1 #[], .tableswitch 0 0 7 #[], .iload 3, .iadd, .aaload, .astore 4, .aload 4, .tableswitch 0 2 5 #[], .iload 2, .if_icmp .gt 118, .aload 4] 88 = true := qck_r (nn_ _) (by decide +kernel)
theorem bs_X7_tally_e_47 {P : Zt → Option Zv → Prop} (K : Int → Zl → List Zv → Zt → Prop) : sx_ K P [.iload 3, .aload 0, .tableswitch 0 7 1 #[], .tableswitch 0 0 8 #[], .if_icmp .ge 124, .aload 0, .tableswitch 0 7 0 #[], .tableswitch 0 6 3 #[], .aload 0, .tableswitch 0 7 1 #[], .tableswitch 0 0 7 #[], .iload 3, .iadd, .aaload, .astore 4, .aload 4, .tableswitch 0 2 5 #[], .iload 2, .if_icmp .gt 118, .aload 4] 88 = x_iload 3 (x_aload 0 (x_g5 107 100 1 (x_g0 100 8 0 400 (x_if_icmp .ge 124 K (x_aload 0 (x_g1 107 106 (x_g1 106 523 (x_aload 0 (x_g5 107 100 1 (x_g0 100 7 0 400 (x_iload 3 (x_iadd (x_aaload (x_astore 4 (x_aload 4 (x_g0 102 5 0 999 (x_iload 2 (x_if_icmp .gt 118 K (x_aload 4 (K 88)))))))))))))))))))) := ((xe_iload 3).trans (congrArg (x_iload 3) ((xe_aload 0).trans (congrArg (x_aload 0) ((xe_g5 (kk := 107) rfl tl_7_1).trans (congrArg (x_g5 107 100 1) ((xe_g0 (kk := 100) rfl tl_0_8).trans (congrArg (x_g0 100 8 0 400) ((xe_if_icmp .ge 124).trans (congrArg (x_if_icmp .ge 124 K) ((xe_aload 0).trans (congrArg (x_aload 0) ((xe_g1 (kk := 107) rfl tl_7_0).trans (congrArg (x_g1 107 106) ((xe_g1 (kk := 106) rfl tl_6_3).trans (congrArg (x_g1 106 523) ((xe_aload 0).trans (congrArg (x_aload 0) ((xe_g5 (kk := 107) rfl tl_7_1).trans (congrArg (x_g5 107 100 1) ((xe_g0 (kk := 100) rfl tl_0_7).trans (congrArg (x_g0 100 7 0 400) ((xe_iload 3).trans (congrArg (x_iload 3) ((xe_iadd).trans (congrArg (x_iadd) ((xe_aaload).trans (congrArg (x_aaload) ((xe_astore 4).trans (congrArg (x_astore 4) ((xe_aload 4).trans (congrArg (x_aload 4) ((xe_g0 (kk := 102) rfl tl_2_5).trans (congrArg (x_g0 102 5 0 999) ((xe_iload 2).trans (congrArg (x_iload 2) ((xe_if_icmp .gt 118).trans (congrArg (x_if_icmp .gt 118 K) ((xe_aload 4).trans (congrArg (x_aload 4) xe_nil))))))))))))))))))))))))))))))))))))))))
theorem bk_X7_tally_e_124 : ck_ fX7 none cX7_tally 124 [.iconst 0, .istore 3] 126 = true := qck_r (nn_ _) (by decide +kernel)
theorem bs_X7_tally_e_124 {P : Zt → Option Zv → Prop} (K : Int → Zl → List Zv → Zt → Prop) : sx_ K P [.iconst 0, .istore 3] 126 = x_iconst 0 (x_istore 3 (K 126)) := ((xe_iconst 0).trans (congrArg (x_iconst 0) ((xe_istore 3).trans (congrArg (x_istore 3) xe_nil))))
theorem bk_X7_tally_e_118 : ck_ fX7 none cX7_tally 118 [.iinc 3 1, .goto 47] 124 = true := qck_r (nn_ _) (by decide +kernel)
theorem bs_X7_tally_e_118 {P : Zt → Option Zv → Prop} (K : Int → Zl → List Zv → Zt → Prop) : sx_ K P [.iinc 3 1, .goto 47] 124 = x_iinc 3 1 (x_goto 47 K) := ((xe_iinc 3 1).trans (congrArg (x_iinc 3 1) (xe_goto 47)))
theorem bk_X7_tally_e_91 : ck_ fX7 none cX7_tally 91 [.ifCond .eq 118, .aload 0, .aload 4, .aload 4, .iconst 0] 100 = true := qck_r (nn_ _) (by decide +kernel)
theorem bs_X7_tally_e_91 {P : Zt → Option Zv → Prop} (K : Int → Zl → List Zv → Zt → Prop) : sx_ K P [.ifCond .eq 118, .aload 0, .aload 4, .aload 4, .iconst 0] 100 = x_ifCond .eq 118 K (x_aload 0 (x_aload 4 (x_aload 4 (x_iconst 0 (K 100))))) := ((xe_ifCond .eq 118).trans (congrArg (x_ifCond .eq 118 K) ((xe_aload 0).trans (congrArg (x_aload 0) ((xe_aload 4).trans (congrArg (x_aload 4) ((xe_aload 4).trans (congrArg (x_aload 4) ((xe_iconst 0).trans (congrArg (x_iconst 0) xe_nil))))))))))
theorem bk_X7_tally_e_103 : ck_ fX7 none cX7_tally 103 [.aload 4, .iconst 1] 106 = true := qck_r (nn_ _) (by decide +kernel)
theorem bs_X7_tally_e_103 {P : Zt → Option Zv → Prop} (K : Int → Zl → List Zv → Zt → Prop) : sx_ K P [.aload 4, .iconst 1] 106 = x_aload 4 (x_iconst 1 (K 106)) := ((xe_aload 4).trans (congrArg (x_aload 4) ((xe_iconst 1).trans (congrArg (x_iconst 1) xe_nil))))
theorem bk_X7_tally_e_112 : ck_ fX7 none cX7_tally 112 [.aload 0, .aload 4] 115 = true := qck_r (nn_ _) (by decide +kernel)
theorem bs_X7_tally_e_112 {P : Zt → Option Zv → Prop} (K : Int → Zl → List Zv → Zt → Prop) : sx_ K P [.aload 0, .aload 4] 115 = x_aload 0 (x_aload 4 (K 115)) := ((xe_aload 0).trans (congrArg (x_aload 0) ((xe_aload 4).trans (congrArg (x_aload 4) xe_nil))))
theorem bk_X7_tally_e_0 : ck_ fX7 none cX7_tally 0 [.aload 0, .aload 1] 2 = true := qck_r (nn_ _) (by decide +kernel)
theorem bs_X7_tally_e_0 {P : Zt → Option Zv → Prop} (K : Int → Zl → List Zv → Zt → Prop) : sx_ K P [.aload 0, .aload 1] 2 = x_aload 0 (x_aload 1 (K 2)) := ((xe_aload 0).trans (congrArg (x_aload 0) ((xe_aload 1).trans (congrArg (x_aload 1) xe_nil))))
theorem bk_X7_tally_e_5 : ck_ fX7 none cX7_tally 5 [.aload 0, .tableswitch 0 7 2 #[], .iconst 0] 10 = true := qck_r (nn_ _) (by decide +kernel)
theorem bs_X7_tally_e_5 {P : Zt → Option Zv → Prop} (K : Int → Zl → List Zv → Zt → Prop) : sx_ K P [.aload 0, .tableswitch 0 7 2 #[], .iconst 0] 10 = x_aload 0 (x_g1 107 542 (x_iconst 0 (K 10))) := ((xe_aload 0).trans (congrArg (x_aload 0) ((xe_g1 (kk := 107) rfl tl_7_2).trans (congrArg (x_g1 107 542) ((xe_iconst 0).trans (congrArg (x_iconst 0) xe_nil))))))
theorem bk_X7_tally_e_13 : ck_ fX7 none cX7_tally 13 [.aload 0, .tableswitch 0 7 3 #[], .iconst 0] 18 = true := qck_r (nn_ _) (by decide +kernel)
theorem bs_X7_tally_e_13 {P : Zt → Option Zv → Prop} (K : Int → Zl → List Zv → Zt → Prop) : sx_ K P [.aload 0, .tableswitch 0 7 3 #[], .iconst 0] 18 = x_aload 0 (x_g1 107 543 (x_iconst 0 (K 18))) := ((xe_aload 0).trans (congrArg (x_aload 0) ((xe_g1 (kk := 107) rfl tl_7_3).trans (congrArg (x_g1 107 543) ((xe_iconst 0).trans (congrArg (x_iconst 0) xe_nil))))))
theorem bk_X7_tally_e_21 : ck_ fX7 none cX7_tally 21 [.aload 0, .tableswitch 0 7 4 #[], .iconst 0] 26 = true := qck_r (nn_ _) (by decide +kernel)
theorem bs_X7_tally_e_21 {P : Zt → Option Zv → Prop} (K : Int → Zl → List Zv → Zt → Prop) : sx_ K P [.aload 0, .tableswitch 0 7 4 #[], .iconst 0] 26 = x_aload 0 (x_g1 107 544 (x_iconst 0 (K 26))) := ((xe_aload 0).trans (congrArg (x_aload 0) ((xe_g1 (kk := 107) rfl tl_7_4).trans (congrArg (x_g1 107 544) ((xe_iconst 0).trans (congrArg (x_iconst 0) xe_nil))))))
theorem bk_X7_tally_e_29 : ck_ fX7 none cX7_tally 29 [.aload 0, .tableswitch 0 7 5 #[], .iconst 0] 34 = true := qck_r (nn_ _) (by decide +kernel)
theorem bs_X7_tally_e_29 {P : Zt → Option Zv → Prop} (K : Int → Zl → List Zv → Zt → Prop) : sx_ K P [.aload 0, .tableswitch 0 7 5 #[], .iconst 0] 34 = x_aload 0 (x_g1 107 545 (x_iconst 0 (K 34))) := ((xe_aload 0).trans (congrArg (x_aload 0) ((xe_g1 (kk := 107) rfl tl_7_5).trans (congrArg (x_g1 107 545) ((xe_iconst 0).trans (congrArg (x_iconst 0) xe_nil))))))
theorem bk_X7_tally_e_37 : ck_ fX7 none cX7_tally 37 [.aload 0, .tableswitch 0 7 6 #[], .iconst 0] 42 = true := qck_r (nn_ _) (by decide +kernel)
theorem bs_X7_tally_e_37 {P : Zt → Option Zv → Prop} (K : Int → Zl → List Zv → Zt → Prop) : sx_ K P [.aload 0, .tableswitch 0 7 6 #[], .iconst 0] 42 = x_aload 0 (x_g1 107 546 (x_iconst 0 (K 42))) := ((xe_aload 0).trans (congrArg (x_aload 0) ((xe_g1 (kk := 107) rfl tl_7_6).trans (congrArg (x_g1 107 546) ((xe_iconst 0).trans (congrArg (x_iconst 0) xe_nil))))))
theorem bk_X7_tally_e_45 : ck_ fX7 none cX7_tally 45 [.iconst 0, .istore 3] 47 = true := qck_r (nn_ _) (by decide +kernel)
theorem bs_X7_tally_e_45 {P : Zt → Option Zv → Prop} (K : Int → Zl → List Zv → Zt → Prop) : sx_ K P [.iconst 0, .istore 3] 47 = x_iconst 0 (x_istore 3 (K 47)) := ((xe_iconst 0).trans (congrArg (x_iconst 0) ((xe_istore 3).trans (congrArg (x_istore 3) xe_nil))))
abbrev po_X7_tally_e (T : Zt) (c : Int) (d : Int) : Zt → Option Zv → Prop := fun T' r => r = none ∧ fr_ [(107, [1]), (542, []), (543, []), (544, []), (545, []), (546, [])] T T' ∧ (T' 107 0 1 = c + 1 ∧ HF_ T T' c d)
set_option maxHeartbeats 4000000 in
theorem ct_X7_tally_e {T : Zt} {c : Int} {d : Int} (hka : KA_ T) (hkc : KC_ T) (hc : 0 ≤ c ∧ c < T 106 0 2) (hks : KS_ T) (hsk : SK_ T c) (hno : T 100 c 0 = c) : Ct_ yX7_tally zX7_tally T [vR 107 0, vR 100 c, vI d] (po_X7_tally_e T c d) := by
  refine ct_of pn_7 rfl rfl (Nat.le_of_ble_eq_true rfl) (fun hT hav => ?_)
  have hr_d : -2147483648 ≤ d ∧ d ≤ 2147483647 := hav (vI d) (List.mem_cons_of_mem _ (List.mem_cons_of_mem _ List.mem_cons_self))
  have hz : zX7_tally.2.2.2.1 = some .boolean → ∀ (T' : Zt) (x : Int), po_X7_tally_e T c d T' (some (vI x)) → 0 ≤ x ∧ x ≤ 1 := fun h => by cases h
  have hk2 := hkc c hc.1 hc.2
  have hb_matchCount : 0 ≤ T 106 0 4 ∧ T 106 0 4 ≤ 400 := bd_f hT 106 4 tl_6_4 0
  have hcc : 0 ≤ T 106 0 2 ∧ T 106 0 2 ≤ 4 := bd_f hT 106 2 tl_6_2 0
  have hfm : 0 ≤ T 100 c 7 ∧ T 100 c 7 ≤ 400 := bd_f hT 100 7 tl_0_7 c
  have hmc : 0 ≤ T 100 c 8 ∧ T 100 c 8 ≤ 400 := bd_f hT 100 8 tl_0_8 c
  have hen : 0 ≤ T 100 c 5 ∧ T 100 c 5 ≤ 12 := bd_f hT 100 5 tl_0_5 c
  show J_ zX7_tally T (po_X7_tally_e T c d) 0 0 0 [some (vR 107 0), some (vR 100 c), some (vI d), none, none] [] T
  have c_126 : ∀ (nn : Nat) (k : Int) (T9 : Zt) (T2 : Zt), ((12 - k).toNat) ≤ nn → (fr_ [(107, [1]), (542, []), (543, []), (544, []), (545, []), (546, [])] T T2) → (0 ≤ k ∧ k ≤ 12) → (T2 107 0 1 = c + 1) → (HT_ T T9 (fun w => T 401 c w) (fun k => vH_ T d (T 100 c 7 + k)) c (T 100 c 8).toNat) → (HD_ T T9 T2 c d k) → (∀ (k9 : Nat) (j : Int), k9 = 543 ∨ k9 = 544 ∨ k9 = 545 ∨ k9 = 546 → T2 k9 0 j = T9 k9 0 j) → J_ zX7_tally T (po_X7_tally_e T c d) 0 0 126 [some (vR 107 0), some (vR 100 c), some (vI d), some (vI k), none] [] T2 := by
    intro nn
    induction nn using Nat.strongRecOn with
    | _ nn ih_126 =>
      intro k T9 T2 hm_126 hf_126 i2 i3 ht2 hd2 he2
      replace hm_126 := fun (_ : Unit) => hm_126
      refine j_blx (F := fX7) tb_X7 (nn_ _) bk_X7_tally_e_126 bs_X7_tally_e_126 hz (fun K hK => ?_)
      refine And.intro (fun c1 => ?_) (fun c1 => ?_)
      · exact absurd c1 (by omega)
      · have z2 : T2 107 0 1 - 1 = c := by omega
        rw [z2]
        intro b3 b3b
        have e4 : T2 100 c 5 = T 100 c 5 := hf_126 100 c 5 rfl
        rw [e4] at b3 b3b ⊢
        refine And.intro (fun c5 => ?_) (fun c5 => ?_)
        · refine hK 182 _ [] T2 ?_
          refine j_blx (F := fX7) tb_X7 (nn_ _) bk_X7_tally_e_182 bs_X7_tally_e_182 hz (fun K hK => ?_)
          refine (show po_X7_tally_e T c d T2 (none) from ?_)
          exact ⟨rfl, fr_t (fr_0 _ _) (fr_s hf_126 rfl), by omega, hf_z ht2 rfl hd2 (by omega) (fun k9 j q9 => he2 k9 j q9)⟩
        · refine rg_i (by omega) ?_
          refine rg_i (by omega) ?_
          refine ix_i (by omega) ?_
          intro b6 b6b
          refine And.intro (fun c7 => ?_) (fun c7 => ?_)
          · exact absurd c7 (by omega)
          · have z8 : T2 107 0 1 - 1 = c := by omega
            rw [z8]
            intro b9 b9b
            have e10 : T2 100 c 0 = T 100 c 0 := hf_126 100 c 0 rfl
            rw [e10] at b9 b9b ⊢
            refine And.intro (fun c11 => ?_) (fun c11 => ?_)
            · exact absurd c11 (by omega)
            · have z12 : T2 107 0 1 - 1 = c := by omega
              rw [z12]
              refine ix_i (by omega) ?_
              intro b13 b13b
              have e14 : T2 403 c k = T 403 c k := hf_126 403 c k rfl
              rw [e14] at b13 b13b ⊢
              refine hK 171 _ [vI (T 403 c k), vI (T 100 c 0), vI d, vR 106 0, vI (T2 542 0 ((k * 8) + 6)), vI ((k * 8) + 6), vR 542 0] T2 ?_
              refine j_callV (y := yX6_deductedUpTo) (Yc := zX6_deductedUpTo) (rest := [vI (T2 542 0 ((k * 8) + 6)), vI ((k * 8) + 6), vR 542 0]) [vI d, vI (T 100 c 0), vI (T 403 c k)] (ct_X6_deductedUpTo_e (T := T2)) cl_X7_105 (qd_c (by decide +kernel)) (nn_ _) rfl (rf_of rfl) (Nat.le_of_ble_eq_true rfl) (Nat.le_of_ble_eq_true rfl) (Nat.le_of_ble_eq_true rfl) rfl ?_
              rintro _ _ ⟨rfl, x15, rfl, hx15⟩
              have hx15k : x15 = dh9_ T c d (T 403 c k) (T 106 0 6).toNat := by
                rw [hx15.2, hno, hf_126 106 0 6 rfl]
                exact dh_k (fun k9 j q9 => by rcases q9 with rfl | rfl | rfl | rfl <;> exact hf_126 _ 0 j rfl) _
              show J_ zX7_tally T (po_X7_tally_e T c d) 0 0 174 _ [vI x15, vI (T2 542 0 ((k * 8) + 6)), vI ((k * 8) + 6), vR 542 0] T2
              refine j_blx (F := fX7) tb_X7 (nn_ _) bk_X7_tally_e_174 bs_X7_tally_e_174 hz (fun K hK => ?_)
              intro w16 w16b
              refine iy_i (by omega) (by omega) ?_
              refine x_nm (fun U17 hU17 => ?_)
              have e18 := up_f hU17
              refine rg_i (by omega) ?_
              refine hK 126 [some (vR 107 0), some (vR 100 c), some (vI d), some (vI (k + 1)), none] [] U17 ?_
              have e19 : U17 107 0 1 = T2 107 0 1 := up_k hU17 (by exact Nat.ne_of_beq_eq_false rfl) 0 1
              refine ih_126 _ ?_ (k + 1) T9 U17 (Nat.le_refl _) ?_ ?_ ?_ ?_ ?_ ?_
              · have hm_126 := hm_126 (); omega
              · exact fr_u (fr_t (fr_0 _ _) (fr_s hf_126 rfl)) hU17 rfl
              · omega
              · omega
              · exact ht2
              · exact hd_s hd2 hU17 rfl rfl hx15k
              · intro k9 j q9
                rw [← he2 k9 j q9]
                rcases q9 with rfl | rfl | rfl | rfl <;> exact up_k hU17 (by exact Nat.ne_of_beq_eq_false rfl) 0 j
  have c_47 : ∀ (nn : Nat) (k : Int) (T1 : Zt), ((T 100 c 8 - k).toNat) ≤ nn → (fr_ [(107, [1]), (542, []), (543, []), (544, []), (545, []), (546, [])] T T1) → (0 ≤ k ∧ k ≤ T 100 c 8) → (T1 107 0 1 = c + 1) → (HT_ T T1 (fun w => T 401 c w) (fun k => vH_ T d (T 100 c 7 + k)) c k.toNat) → J_ zX7_tally T (po_X7_tally_e T c d) 0 0 47 [some (vR 107 0), some (vR 100 c), some (vI d), some (vI k), none] [] T1 := by
    intro nn
    induction nn using Nat.strongRecOn with
    | _ nn ih_47 =>
      intro k T1 hm_47 hf_47 i1 i0 ht1
      replace hm_47 := fun (_ : Unit) => hm_47
      refine j_blx (F := fX7) tb_X7 (nn_ _) bk_X7_tally_e_47 bs_X7_tally_e_47 hz (fun K hK => ?_)
      refine And.intro (fun c20 => ?_) (fun c20 => ?_)
      · exact absurd c20 (by omega)
      · have z21 : T1 107 0 1 - 1 = c := by omega
        rw [z21]
        intro b22 b22b
        have e23 : T1 100 c 8 = T 100 c 8 := hf_47 100 c 8 rfl
        rw [e23] at b22 b22b ⊢
        refine And.intro (fun c24 => ?_) (fun c24 => ?_)
        · refine hK 124 _ [] T1 ?_
          refine j_blx (F := fX7) tb_X7 (nn_ _) bk_X7_tally_e_124 bs_X7_tally_e_124 hz (fun K hK => ?_)
          refine hK 126 [some (vR 107 0), some (vR 100 c), some (vI d), some (vI 0), none] [] T1 ?_
          refine c_126 _ 0 T1 T1 (Nat.le_refl _) ?_ ?_ ?_ ?_ ?_ ?_
          · exact fr_t (fr_0 _ _) (fr_s hf_47 rfl)
          · omega
          · omega
          · rw [show T 100 c 8 = k by omega]
            exact ht1
          · exact hd_0 (fun _ => rfl)
          · exact fun _ _ _ => rfl
        · refine And.intro (fun c25 => ?_) (fun c25 => ?_)
          · exact absurd c25 (by omega)
          · have z26 : T1 107 0 1 - 1 = c := by omega
            rw [z26]
            intro b27 b27b
            have e28 : T1 100 c 7 = T 100 c 7 := hf_47 100 c 7 rfl
            rw [e28] at b27 b27b ⊢
            refine rg_i (by omega) ?_
            refine ix_i (by omega) ?_
            have e30 : T1 523 0 ((T 100 c 7) + k) = T 523 0 ((T 100 c 7) + k) := hf_47 523 0 ((T 100 c 7) + k) rfl
            refine And.intro (fun c29 => ?_) (fun c29 => ?_)
            · exact absurd (show T 523 0 (T 100 c 7 + k) = 0 by omega) (hka.2 _ (by omega) (by omega))
            · intro b31 b31b
              have e32 : T1 102 ((T 100 c 7) + k) 5 = T 102 ((T 100 c 7) + k) 5 := hf_47 102 ((T 100 c 7) + k) 5 rfl
              rw [e32] at b31 b31b ⊢
              refine And.intro (fun c33 => ?_) (fun c33 => ?_)
              · refine hK 118 [some (vR 107 0), some (vR 100 c), some (vI d), some (vI k), some (vR 102 ((T 100 c 7) + k))] [] T1 ?_
                refine j_blx (F := fX7) tb_X7 (nn_ _) bk_X7_tally_e_118 bs_X7_tally_e_118 hz (fun K hK => ?_)
                refine rg_i (by omega) ?_
                refine hK 47 [some (vR 107 0), some (vR 100 c), some (vI d), some (vI (k + 1)), some (vR 102 ((T 100 c 7) + k))] [] T1 ?_
                refine j_drq [some (vR 107 0), some (vR 100 c), some (vI d), some (vI (k + 1)), none] (drq_s (drq_s (drq_s (drq_s (drq_n drq_0))))) ?_
                refine ih_47 _ ?_ (k + 1) T1 (Nat.le_refl _) ?_ ?_ ?_ ?_
                · have hm_47 := hm_47 (); omega
                · exact fr_t (fr_0 _ _) (fr_s hf_47 rfl)
                · omega
                · omega
                have e34 : T1 102 ((T 100 c 7) + k) 6 = T 102 ((T 100 c 7) + k) 6 := hf_47 102 ((T 100 c 7) + k) 6 rfl
                have e35 : T1 102 ((T 100 c 7) + k) 10 = T 102 ((T 100 c 7) + k) 10 := hf_47 102 ((T 100 c 7) + k) 10 rfl
                have e36 : T1 103 ((T 100 c 7) + k) 3 = T 103 ((T 100 c 7) + k) 3 := hf_47 103 ((T 100 c 7) + k) 3 rfl
                · have ek : ((k.toNat : Nat) : Int) = k := by omega
                  rw [show (k + 1).toNat = k.toNat + 1 by omega]
                  have ev : vH_ T1 d ((T 100 c 7) + k) = vH_ T d ((T 100 c 7) + k) := vh_g hf_47 (fun k j q9 => by rcases q9 with rfl | rfl | rfl | rfl | rfl | rfl | rfl <;> rfl)
                  refine ht_z ht1 ?_ (fun _ _ _ => rfl)
                  rw [ek]
                  show vH_ T d ((T 100 c 7) + k) 0 ≠ 1
                  exact vh_c0 (by omega)
              · refine hK 88 [some (vR 107 0), some (vR 100 c), some (vI d), some (vI k), some (vR 102 ((T 100 c 7) + k))] [vR 102 ((T 100 c 7) + k)] T1 ?_
                refine j_callV (y := yX2_isDecided) (Yc := zX2_isDecided) (rest := []) [] (ct_X2_isDecided_e (T := T1)) cl_X7_80 (qd_c (by decide +kernel)) (nn_ _) rfl (rf_of rfl) (Nat.le_of_ble_eq_true rfl) (Nat.le_of_ble_eq_true rfl) (Nat.le_of_ble_eq_true rfl) rfl ?_
                rintro _ _ ⟨rfl, x37, rfl, hx37⟩
                show J_ zX7_tally T (po_X7_tally_e T c d) 0 0 91 _ [vI x37] T1
                refine j_blx (F := fX7) tb_X7 (nn_ _) bk_X7_tally_e_91 bs_X7_tally_e_91 hz (fun K hK => ?_)
                refine And.intro (fun c38 => ?_) (fun c38 => ?_)
                · replace hx37 := hx37.resolve_left (fun z => absurd (c38.symm.trans z.1) (by decide))
                  clear c38
                  refine hK 118 _ [] T1 ?_
                  refine j_blx (F := fX7) tb_X7 (nn_ _) bk_X7_tally_e_118 bs_X7_tally_e_118 hz (fun K hK => ?_)
                  refine rg_i (by omega) ?_
                  refine hK 47 [some (vR 107 0), some (vR 100 c), some (vI d), some (vI (k + 1)), some (vR 102 ((T 100 c 7) + k))] [] T1 ?_
                  refine j_drq [some (vR 107 0), some (vR 100 c), some (vI d), some (vI (k + 1)), none] (drq_s (drq_s (drq_s (drq_s (drq_n drq_0))))) ?_
                  refine ih_47 _ ?_ (k + 1) T1 (Nat.le_refl _) ?_ ?_ ?_ ?_
                  · have hm_47 := hm_47 (); omega
                  · exact fr_t (fr_0 _ _) (fr_s hf_47 rfl)
                  · omega
                  · omega
                  have e39 : T1 102 ((T 100 c 7) + k) 6 = T 102 ((T 100 c 7) + k) 6 := hf_47 102 ((T 100 c 7) + k) 6 rfl
                  have e40 : T1 102 ((T 100 c 7) + k) 10 = T 102 ((T 100 c 7) + k) 10 := hf_47 102 ((T 100 c 7) + k) 10 rfl
                  have e41 : T1 103 ((T 100 c 7) + k) 3 = T 103 ((T 100 c 7) + k) 3 := hf_47 103 ((T 100 c 7) + k) 3 rfl
                  · have ek : ((k.toNat : Nat) : Int) = k := by omega
                    rw [show (k + 1).toNat = k.toNat + 1 by omega]
                    have ev : vH_ T1 d ((T 100 c 7) + k) = vH_ T d ((T 100 c 7) + k) := vh_g hf_47 (fun k j q9 => by rcases q9 with rfl | rfl | rfl | rfl | rfl | rfl | rfl <;> rfl)
                    refine ht_z ht1 ?_ (fun _ _ _ => rfl)
                    rw [ek]
                    show vH_ T d ((T 100 c 7) + k) 0 ≠ 1
                    exact vh_c0 (by omega)
                · refine hK 100 [some (vR 107 0), some (vR 100 c), some (vI d), some (vI k), some (vR 102 ((T 100 c 7) + k))] [vI 0, vR 102 ((T 100 c 7) + k), vR 102 ((T 100 c 7) + k), vR 107 0] T1 ?_
                  refine j_callV (y := yX2_scoreOf) (Yc := zX2_scoreOf) (rest := [vR 102 ((T 100 c 7) + k), vR 107 0]) [vI 0] (ct_X2_scoreOf_e (T := T1) (by omega)) cl_X7_84 (qd_c (by decide +kernel)) (nn_ _) rfl (rf_of rfl) (Nat.le_of_ble_eq_true rfl) (Nat.le_of_ble_eq_true rfl) (Nat.le_of_ble_eq_true rfl) rfl ?_
                  rintro _ _ ⟨rfl, x42, rfl, hx42⟩
                  show J_ zX7_tally T (po_X7_tally_e T c d) 0 0 103 _ [vI x42, vR 102 ((T 100 c 7) + k), vR 107 0] T1
                  refine j_blx (F := fX7) tb_X7 (nn_ _) bk_X7_tally_e_103 bs_X7_tally_e_103 hz (fun K hK => ?_)
                  refine hK 106 _ [vI 1, vR 102 ((T 100 c 7) + k), vI x42, vR 102 ((T 100 c 7) + k), vR 107 0] T1 ?_
                  refine j_callV (y := yX2_scoreOf) (Yc := zX2_scoreOf) (rest := [vI x42, vR 102 ((T 100 c 7) + k), vR 107 0]) [vI 1] (ct_X2_scoreOf_e (T := T1) (by omega)) cl_X7_84 (qd_c (by decide +kernel)) (nn_ _) rfl (rf_of rfl) (Nat.le_of_ble_eq_true rfl) (Nat.le_of_ble_eq_true rfl) (Nat.le_of_ble_eq_true rfl) rfl ?_
                  rintro _ _ ⟨rfl, x43, rfl, hx43⟩
                  show J_ zX7_tally T (po_X7_tally_e T c d) 0 0 109 _ [vI x43, vI x42, vR 102 ((T 100 c 7) + k), vR 107 0] T1
                  have hHv44 : T1 404 (T1 107 0 1 - 1) (T1 102 ((T 100 c 7) + k) 3) = T 404 c (T 102 ((T 100 c 7) + k) 3) := by rw [show T1 107 0 1 - 1 = c by omega, hf_47 102 ((T 100 c 7) + k) 3 rfl]; exact hf_47 404 c (T 102 ((T 100 c 7) + k) 3) rfl
                  have hAv44 : T1 404 (T1 107 0 1 - 1) (T1 102 ((T 100 c 7) + k) 4) = T 404 c (T 102 ((T 100 c 7) + k) 4) := by rw [show T1 107 0 1 - 1 = c by omega, hf_47 102 ((T 100 c 7) + k) 4 rfl]; exact hf_47 404 c (T 102 ((T 100 c 7) + k) 4) rfl
                  have hRv44 : (fun w => T1 401 (T1 107 0 1 - 1) w) = (fun w => T 401 c w) := by rw [show T1 107 0 1 - 1 = c by omega]; exact funext (fun w => hf_47 401 c w rfl)
                  have hkv44 := hks c hc.1 hc.2 ((T 100 c 7) + k) (by omega) (by omega)
                  refine j_callV (y := yX7_addResult) (Yc := zX7_addResult) (rest := []) [vR 102 ((T 100 c 7) + k), vI x42, vI x43] (ct_X7_addResult_e (T := T1) (by omega) (by rw [hHv44, hAv44]; exact ⟨hkv44.2.1, hkv44.2.2⟩)) cl_X7_88 (qd_c (by decide +kernel)) (nn_ _) rfl (rf_of rfl) (Nat.le_of_ble_eq_true rfl) (Nat.le_of_ble_eq_true rfl) (Nat.le_of_ble_eq_true rfl) rfl ?_
                  rintro U45 _ ⟨rfl, fU45, qU45l, qU45a, qU45p, qU45s⟩
                  rw [hHv44, hAv44, hRv44] at qU45l qU45p
                  rw [hHv44, hAv44] at qU45s
                  rw [hAv44] at qU45a
                  show J_ zX7_tally T (po_X7_tally_e T c d) 0 0 112 _ [] U45
                  refine j_blx (F := fX7) tb_X7 (nn_ _) bk_X7_tally_e_112 bs_X7_tally_e_112 hz (fun K hK => ?_)
                  refine hK 115 _ [vR 102 ((T 100 c 7) + k), vR 107 0] U45 ?_
                  have e47 : U45 107 0 1 = T1 107 0 1 := fU45 107 0 1 rfl
                  have hHv46 : U45 404 (U45 107 0 1 - 1) (U45 102 ((T 100 c 7) + k) 3) = T 404 c (T 102 ((T 100 c 7) + k) 3) := by rw [show U45 107 0 1 - 1 = c by omega, (fU45 102 ((T 100 c 7) + k) 3 rfl).trans (hf_47 102 ((T 100 c 7) + k) 3 rfl)]; exact (fU45 404 c (T 102 ((T 100 c 7) + k) 3) rfl).trans (hf_47 404 c (T 102 ((T 100 c 7) + k) 3) rfl)
                  have hAv46 : U45 404 (U45 107 0 1 - 1) (U45 102 ((T 100 c 7) + k) 4) = T 404 c (T 102 ((T 100 c 7) + k) 4) := by rw [show U45 107 0 1 - 1 = c by omega, (fU45 102 ((T 100 c 7) + k) 4 rfl).trans (hf_47 102 ((T 100 c 7) + k) 4 rfl)]; exact (fU45 404 c (T 102 ((T 100 c 7) + k) 4) rfl).trans (hf_47 404 c (T 102 ((T 100 c 7) + k) 4) rfl)
                  have hRv46 : (fun w => U45 401 (U45 107 0 1 - 1) w) = (fun w => T 401 c w) := by rw [show U45 107 0 1 - 1 = c by omega]; exact funext (fun w => (fU45 401 c w rfl).trans (hf_47 401 c w rfl))
                  have hkv46 := hks c hc.1 hc.2 ((T 100 c 7) + k) (by omega) (by omega)
                  refine j_callV (y := yX7_addCards) (Yc := zX7_addCards) (rest := []) [vR 102 ((T 100 c 7) + k)] (ct_X7_addCards_e (T := U45) (by omega) (by rw [hHv46, hAv46]; exact ⟨hkv46.2.1, hkv46.2.2⟩)) cl_X7_92 (qd_c (by decide +kernel)) (nn_ _) rfl (rf_of rfl) (Nat.le_of_ble_eq_true rfl) (Nat.le_of_ble_eq_true rfl) (Nat.le_of_ble_eq_true rfl) rfl ?_
                  rintro U48 _ ⟨rfl, fU48, qU48f⟩
                  rw [hHv46, hAv46] at qU48f
                  rw [(fU45 102 ((T 100 c 7) + k) 10 rfl).trans (hf_47 102 ((T 100 c 7) + k) 10 rfl), frh_k (T := T) (fun j => (fU45 473 ((T 100 c 7) + k) j rfl).trans (hf_47 473 ((T 100 c 7) + k) j rfl)) (fun j => (fU45 472 ((T 100 c 7) + k) j rfl).trans (hf_47 472 ((T 100 c 7) + k) j rfl)), frh_k (T := T) (fun j => (fU45 473 ((T 100 c 7) + k) j rfl).trans (hf_47 473 ((T 100 c 7) + k) j rfl)) (fun j => (fU45 472 ((T 100 c 7) + k) j rfl).trans (hf_47 472 ((T 100 c 7) + k) j rfl)), (fU45 449 ((T 100 c 7) + k) 0 rfl).trans (hf_47 449 ((T 100 c 7) + k) 0 rfl), (fU45 449 ((T 100 c 7) + k) 1 rfl).trans (hf_47 449 ((T 100 c 7) + k) 1 rfl)] at qU48f
                  show J_ zX7_tally T (po_X7_tally_e T c d) 0 0 118 _ [] U48
                  refine j_blx (F := fX7) tb_X7 (nn_ _) bk_X7_tally_e_118 bs_X7_tally_e_118 hz (fun K hK => ?_)
                  refine rg_i (by omega) ?_
                  refine hK 47 [some (vR 107 0), some (vR 100 c), some (vI d), some (vI (k + 1)), some (vR 102 ((T 100 c 7) + k))] [] U48 ?_
                  refine j_drq [some (vR 107 0), some (vR 100 c), some (vI d), some (vI (k + 1)), none] (drq_s (drq_s (drq_s (drq_s (drq_n drq_0))))) ?_
                  have e49 : U48 107 0 1 = T1 107 0 1 := (fU48 107 0 1 rfl).trans (fU45 107 0 1 rfl)
                  refine ih_47 _ ?_ (k + 1) U48 (Nat.le_refl _) ?_ ?_ ?_ ?_
                  · have hm_47 := hm_47 (); omega
                  · exact fr_t (fr_t (fr_t (fr_0 _ _) (fr_s hf_47 rfl)) (fr_s fU45 rfl)) (fr_s fU48 rfl)
                  · omega
                  · omega
                  · have ek : ((k.toNat : Nat) : Int) = k := by omega
                    rw [show (k + 1).toNat = k.toNat + 1 by omega]
                    have ev : vH_ T1 d ((T 100 c 7) + k) = vH_ T d ((T 100 c 7) + k) := vh_g hf_47 (fun k j q9 => by rcases q9 with rfl | rfl | rfl | rfl | rfl | rfl | rfl <;> rfl)
                    have g0 : vH_ T d ((T 100 c 7) + k) 0 = 1 := by
                      rw [← ev]
                      refine vh_c1 ⟨(hx37.resolve_right (fun z => absurd z.1 (by omega))).2, ?_⟩
                      rw [hf_47 102 ((T 100 c 7) + k) 5 rfl]
                      omega
                    have g3 : vH_ T d ((T 100 c 7) + k) 3 = x42 := by
                      rw [← ev]
                      exact vh_s0 hx42
                    have g4 : vH_ T d ((T 100 c 7) + k) 4 = x43 := by
                      rw [← ev]
                      exact vh_s1 hx43
                    have s9 := hks c hc.1 hc.2 ((T 100 c 7) + k) (by omega) (by omega)
                    have hb3 : 0 ≤ T 102 ((T 100 c 7) + k) 3 ∧ T 102 ((T 100 c 7) + k) 3 ≤ 11 := bd_f hT 102 3 tl_2_3 ((T 100 c 7) + k)
                    have hb4 : 0 ≤ T 102 ((T 100 c 7) + k) 4 ∧ T 102 ((T 100 c 7) + k) 4 ≤ 11 := bd_f hT 102 4 tl_2_4 ((T 100 c 7) + k)
                    have hs3 : (-1) ≤ T 404 c (T 102 ((T 100 c 7) + k) 3) ∧ T 404 c (T 102 ((T 100 c 7) + k) 3) ≤ 11 := bd_a hT 404 (by decide +kernel : ta_ 404 = some (1, some 12, (-1), 11)) c (by omega)
                    have hs4 : (-1) ≤ T 404 c (T 102 ((T 100 c 7) + k) 4) ∧ T 404 c (T 102 ((T 100 c 7) + k) 4) ≤ 11 := bd_a hT 404 (by decide +kernel : ta_ 404 = some (1, some 12, (-1), 11)) c (by omega)
                    refine ht_s (hm := T 102 ((T 100 c 7) + k) 3) (aw := T 102 ((T 100 c 7) + k) 4) (a := x42) (b := x43) (f := cz_ (T 102 ((T 100 c 7) + k) 10 = 0) 0 (fr9h_ T ((T 100 c 7) + k) 0 (T 449 ((T 100 c 7) + k) 0).toNat)) (g := cz_ (T 102 ((T 100 c 7) + k) 10 = 0) 0 (fr9h_ T ((T 100 c 7) + k) 10 (T 449 ((T 100 c 7) + k) 1).toNat)) ht1 hsk (by omega) (by omega) (by omega) (by omega) (by omega) ?_ ?_ ?_ ?_ ?_ ?_ ?_ (lv_k qU45l (fun j => fU48 542 0 j rfl)) (rv_k qU45a (fun j => fU48 543 0 j rfl)) (rv_b qU48f (fun j => fU45 544 0 j rfl)) (rv_k qU45p (fun j => fU48 545 0 j rfl)) (rv_k qU45s (fun j => fU48 546 0 j rfl))
                    · rw [ek]; exact g0
                    · rw [ek]; exact vh_1
                    · rw [ek]; exact vh_2
                    · rw [ek]; exact g3
                    · rw [ek]; exact g4
                    · rw [ek]; exact vh_5
                    · rw [ek]; exact vh_6
  refine j_blx (F := fX7) tb_X7 (nn_ _) bk_X7_tally_e_0 bs_X7_tally_e_0 hz (fun K hK => ?_)
  refine hK 2 _ [vR 100 c, vR 107 0] T ?_
  refine j_putR (pc := 2) (ci := 7) (j := 1) (by decide) fr5_X7_50 rfl (by decide +kernel) (by omega) (by omega) (by omega) ?_
  refine j_nm (fun U50 hU50 => ?_)
  have e51 := up_f hU50
  show J_ zX7_tally T (po_X7_tally_e T c d) 0 0 5 _ [] U50
  refine j_blx (F := fX7) tb_X7 (nn_ _) bk_X7_tally_e_5 bs_X7_tally_e_5 hz (fun K hK => ?_)
  refine hK 10 _ [vI 0, vR 542 0] U50 ?_
  refine j_callS (y := yJ7_fill_53178) (Yc := zJ7_fill_53178) (rest := []) [vR 542 0, vI 0] (ct_J7_fill_542 (T := U50) (by omega)) cl_X7_54 (qd_c (by decide +kernel)) (nn_ _) rfl (rf_of rfl) (Nat.le_of_ble_eq_true rfl) (Nat.le_of_ble_eq_true rfl) (Nat.le_of_ble_eq_true rfl) rfl ?_
  rintro U52 _ ⟨rfl, fU52, qU52o, qU52⟩
  show J_ zX7_tally T (po_X7_tally_e T c d) 0 0 13 _ [] U52
  refine j_blx (F := fX7) tb_X7 (nn_ _) bk_X7_tally_e_13 bs_X7_tally_e_13 hz (fun K hK => ?_)
  refine hK 18 _ [vI 0, vR 543 0] U52 ?_
  refine j_callS (y := yJ7_fill_53178) (Yc := zJ7_fill_53178) (rest := []) [vR 543 0, vI 0] (ct_J7_fill_543 (T := U52) (by omega)) cl_X7_54 (qd_c (by decide +kernel)) (nn_ _) rfl (rf_of rfl) (Nat.le_of_ble_eq_true rfl) (Nat.le_of_ble_eq_true rfl) (Nat.le_of_ble_eq_true rfl) rfl ?_
  rintro U53 _ ⟨rfl, fU53, qU53o, qU53⟩
  show J_ zX7_tally T (po_X7_tally_e T c d) 0 0 21 _ [] U53
  refine j_blx (F := fX7) tb_X7 (nn_ _) bk_X7_tally_e_21 bs_X7_tally_e_21 hz (fun K hK => ?_)
  refine hK 26 _ [vI 0, vR 544 0] U53 ?_
  refine j_callS (y := yJ7_fill_53178) (Yc := zJ7_fill_53178) (rest := []) [vR 544 0, vI 0] (ct_J7_fill_544 (T := U53) (by omega)) cl_X7_54 (qd_c (by decide +kernel)) (nn_ _) rfl (rf_of rfl) (Nat.le_of_ble_eq_true rfl) (Nat.le_of_ble_eq_true rfl) (Nat.le_of_ble_eq_true rfl) rfl ?_
  rintro U54 _ ⟨rfl, fU54, qU54o, qU54⟩
  show J_ zX7_tally T (po_X7_tally_e T c d) 0 0 29 _ [] U54
  refine j_blx (F := fX7) tb_X7 (nn_ _) bk_X7_tally_e_29 bs_X7_tally_e_29 hz (fun K hK => ?_)
  refine hK 34 _ [vI 0, vR 545 0] U54 ?_
  refine j_callS (y := yJ7_fill_53178) (Yc := zJ7_fill_53178) (rest := []) [vR 545 0, vI 0] (ct_J7_fill_545 (T := U54) (by omega)) cl_X7_54 (qd_c (by decide +kernel)) (nn_ _) rfl (rf_of rfl) (Nat.le_of_ble_eq_true rfl) (Nat.le_of_ble_eq_true rfl) (Nat.le_of_ble_eq_true rfl) rfl ?_
  rintro U55 _ ⟨rfl, fU55, qU55o, qU55⟩
  show J_ zX7_tally T (po_X7_tally_e T c d) 0 0 37 _ [] U55
  refine j_blx (F := fX7) tb_X7 (nn_ _) bk_X7_tally_e_37 bs_X7_tally_e_37 hz (fun K hK => ?_)
  refine hK 42 _ [vI 0, vR 546 0] U55 ?_
  refine j_callS (y := yJ7_fill_53178) (Yc := zJ7_fill_53178) (rest := []) [vR 546 0, vI 0] (ct_J7_fill_546 (T := U55) (by omega)) cl_X7_54 (qd_c (by decide +kernel)) (nn_ _) rfl (rf_of rfl) (Nat.le_of_ble_eq_true rfl) (Nat.le_of_ble_eq_true rfl) (Nat.le_of_ble_eq_true rfl) rfl ?_
  rintro U56 _ ⟨rfl, fU56, qU56o, qU56⟩
  show J_ zX7_tally T (po_X7_tally_e T c d) 0 0 45 _ [] U56
  refine j_blx (F := fX7) tb_X7 (nn_ _) bk_X7_tally_e_45 bs_X7_tally_e_45 hz (fun K hK => ?_)
  refine hK 47 [some (vR 107 0), some (vR 100 c), some (vI d), some (vI 0), none] [] U56 ?_
  have e57 : U56 107 0 1 = c + 1 := (fU56 107 0 1 rfl).trans ((fU55 107 0 1 rfl).trans ((fU54 107 0 1 rfl).trans ((fU53 107 0 1 rfl).trans ((fU52 107 0 1 rfl).trans (up_f hU50)))))
  refine c_47 _ 0 U56 (Nat.le_refl _) ?_ ?_ ?_ ?_
  · exact fr_t (fr_t (fr_t (fr_t (fr_t (fr_u (fr_0 _ _) hU50 rfl) (fr_s fU52 rfl)) (fr_s fU53 rfl)) (fr_s fU54 rfl)) (fr_s fU55 rfl)) (fr_s fU56 rfl)
  · omega
  · omega
  · exact ht_0 (by omega) (fun j a b => by rw [(fU56 542 0 j rfl).trans ((fU55 542 0 j rfl).trans ((fU54 542 0 j rfl).trans (fU53 542 0 j rfl)))]; exact qU52 j a b) (fun j a b => by rw [(fU56 543 0 j rfl).trans ((fU55 543 0 j rfl).trans (fU54 543 0 j rfl))]; exact qU53 j a b) (fun j a b => by rw [(fU56 544 0 j rfl).trans (fU55 544 0 j rfl)]; exact qU54 j a b) (fun j a b => by rw [fU56 545 0 j rfl]; exact qU55 j a b) qU56
-- tables: bounds, and both sides alike
def bsm9_ (b : Int → Int) : Nat → Int
  | 0 => 0
  | n + 1 => bsm9_ b n + b (n : Int)
/-- the results of the first n matches are bounded -/
def BV_ (n : Int) (v : Mv_) (b : Int → Int) : Prop := ∀ k : Int, 0 ≤ k → k < n → 0 ≤ b k ∧ (v k 0 = 1 → (0 ≤ v k 3 ∧ v k 3 ≤ b k) ∧ (0 ≤ v k 4 ∧ v k 4 ≤ b k) ∧ (0 ≤ v k 5 ∧ v k 5 ≤ 31000) ∧ (0 ≤ v k 6 ∧ v k 6 ≤ 31000))
theorem pt_b {ru : Int → Int} {a b : Int} (h : (0 ≤ ru 1 ∧ ru 1 ≤ 9) ∧ (0 ≤ ru 2 ∧ ru 2 ≤ 9) ∧ (0 ≤ ru 3 ∧ ru 3 ≤ 9)) : 0 ≤ ptm9_ ru a b ∧ ptm9_ ru a b ≤ 9 := by
  unfold ptm9_
  by_cases z : b < a
  · rw [if_pos z]; exact h.1
  · rw [if_neg z]
    by_cases y : a = b
    · rw [if_pos y]; exact h.2.1
    · rw [if_neg y]; exact h.2.2
-- the rows of all matches are no more than there are
def cc9_ (L : Int → Int → List Int) (f : Int) : Nat → List Int
  | 0 => []
  | n + 1 => cc9_ L f n ++ L (f + (n : Int)) 0
theorem cc_m {L : Int → Int → List Int} {f x : Int} : ∀ n : Nat, x ∈ cc9_ L f n → ∃ k : Int, 0 ≤ k ∧ k < (n : Int) ∧ x ∈ L (f + k) 0
  | 0, h => by cases h
  | n + 1, h => by
    have h' : x ∈ cc9_ L f n ++ L (f + (n : Int)) 0 := h
    rcases List.mem_append.mp h' with y | y
    · obtain ⟨k, a, b, c⟩ := cc_m n y
      exact ⟨k, a, by omega, c⟩
    · exact ⟨(n : Int), by omega, by omega, y⟩
theorem cc_d {L : Int → Int → List Int} {f : Int} (d : ∀ m b, (L m b).Nodup) (a : ∀ m b m' b' x, x ∈ L m b → x ∈ L m' b' → m = m' ∧ b = b') : ∀ n : Nat, (cc9_ L f n).Nodup
  | 0 => List.nodup_nil
  | n + 1 => by
    show (cc9_ L f n ++ L (f + (n : Int)) 0).Nodup
    refine List.nodup_append.mpr ⟨cc_d d a n, d _ _, fun x hx y hy e => ?_⟩
    obtain ⟨k, k0, k1, k2⟩ := cc_m n hx
    rw [← e] at hy
    have := (a _ _ _ _ _ k2 hy).1
    omega
theorem cc_l {T : Zt} {L : Int → Int → List Int} {f : Int} : ∀ n : Nat, (∀ k : Int, 0 ≤ k → k < (n : Int) → T 254 0 (f + k) = ((L (f + k) 0).length : Int)) → bsm9_ (fun k => T 254 0 (f + k)) n = ((cc9_ L f n).length : Int)
  | 0, _ => rfl
  | n + 1, h => by
    have e : bsm9_ (fun k => T 254 0 (f + k)) (n + 1) = bsm9_ (fun k => T 254 0 (f + k)) n + T 254 0 (f + (n : Int)) := rfl
    have e2 : (cc9_ L f (n + 1)).length = (cc9_ L f n).length + (L (f + (n : Int)) 0).length := List.length_append
    rw [e, cc_l n (fun k a b => h k a (by omega)), h (n : Int) (by omega) (by omega), e2]
    omega
theorem rx_s {T : Zt} {f : Int} {n : Nat} (h : RX_ T []) (hf : 0 ≤ f) (hn : f + (n : Int) ≤ T 111 0 29) (h47 : 0 ≤ T 111 0 47) : bsm9_ (fun k => T 254 0 (f + k)) n ≤ T 111 0 47 := by
  obtain ⟨L, hB, -⟩ := h
  obtain ⟨b1, b2, b3, b4⟩ := hB
  rw [cc_l (L := L) n (fun k a b => (b1 (f + k) 0 (by omega) (by omega) (by decide) (by decide)).2)]
  refine nd_len h47 (fun x hx => ?_) (cc_d b3 b4 n)
  obtain ⟨k, _, _, k2⟩ := cc_m n hx
  exact b2 _ _ x k2
theorem bsm_l {b : Int → Int} : ∀ n : Nat, bsm9_ (fun k => 4 * b k + 9) n = 4 * bsm9_ b n + 9 * (n : Int)
  | 0 => rfl
  | n + 1 => by
    show bsm9_ (fun k => 4 * b k + 9) n + (4 * b (n : Int) + 9) = 4 * (bsm9_ b n + b (n : Int)) + 9 * ((n + 1 : Nat) : Int)
    rw [bsm_l n]
    omega
-- tables: both sides alike
theorem fr_e {T : Zt} {m t : Int} {N : Nat} (h : ∀ x : Int, 10 * t ≤ x → x < 10 * t + (N : Int) → T 242 0 (20 * m + x) = T 473 m x ∧ ((T 472 m x = 3 ∧ T 243 0 (20 * m + x) = 1) ∨ (T 472 m x ≠ 3 ∧ T 243 0 (20 * m + x) = 0))) : ∀ n : Nat, n ≤ N → fr9c_ T (2 * m + t) n = fr9h_ T m (10 * t) n
  | 0, _ => rfl
  | n + 1, hn => by
    have y := h (10 * t + (n : Int)) (by omega) (by omega)
    show fr9c_ T (2 * m + t) n + (T 242 0 (10 * (2 * m + t) + (n : Int)) + (if T 243 0 (10 * (2 * m + t) + (n : Int)) = 0 then 0 else 3)) = fr9h_ T m (10 * t) n + (T 473 m (10 * t + (n : Int)) + cz_ (T 472 m (10 * t + (n : Int)) = 3) 3 0)
    rw [fr_e h n (by omega), show 10 * (2 * m + t) + (n : Int) = 20 * m + (10 * t + (n : Int)) by omega, y.1]
    rcases y.2 with ⟨z1, z2⟩ | ⟨z1, z2⟩
    · rw [if_neg (by omega), cz_t z1]
    · rw [if_pos z2, cz_f z1]
theorem vw_e {T : Zt} {d m : Int} (sh : SHM_ T m) (pm : PM_ T m) (hd : T 102 m 5 = T 234 0 m) (hm : T 102 m 3 = T 232 0 m ∧ T 102 m 4 = T 233 0 m) (su : T 111 0 80 = 0) : vH_ T d m 0 = vR_ T d m 0 ∧ (vH_ T d m 0 = 1 → vH_ T d m 1 = vR_ T d m 1 ∧ vH_ T d m 2 = vR_ T d m 2 ∧ vH_ T d m 3 = vR_ T d m 3 ∧ vH_ T d m 4 = vR_ T d m 4 ∧ vH_ T d m 5 = vR_ T d m 5 ∧ vH_ T d m 6 = vR_ T d m 6) := by
  have DC : (T 102 m 6 ≠ -1 ∨ (T 102 m 10 ≠ 0 ∧ T 103 m 3 ≠ 0)) ↔ (T 235 0 m = 2 ∨ T 235 0 m = 3) := by
    rcases pm with h | h | h
    · unfold PAA_ at h
      omega
    · unfold PBB_ at h
      omega
    · obtain ⟨h1, h2, h3, ⟨n, hn, hs⟩, -⟩ := h
      have e := hs.1.2.2.1.2.2
      rw [rp_35, rs_d (T := T) (p := m) (k := 103) (j := 3) rfl] at e
      omega
  have e0 : vH_ T d m 0 = vR_ T d m 0 := by
    rw [vh_0, vr_0]
    exact cz_g ⟨fun q => Or.inl ⟨DC.1 q.1, by omega⟩, fun q => by
      rcases q with q | q
      · exact ⟨DC.2 q.1, by omega⟩
      · exact absurd su q.2⟩
  refine ⟨e0, fun z => ?_⟩
  have dc : T 235 0 m = 2 ∨ T 235 0 m = 3 := by
    by_cases y : (T 102 m 6 ≠ -1 ∨ (T 102 m 10 ≠ 0 ∧ T 103 m 3 ≠ 0)) ∧ T 102 m 5 ≤ d
    · exact DC.1 y.1
    · exact absurd z (vh_c0 y)
  refine ⟨by rw [vh_1, vr_1]; exact hm.1, by rw [vh_2, vr_2]; exact hm.2, ?_⟩
  rw [vh_3, vh_4, vh_5, vh_6, vr_3, vr_4, vr_5, vr_6, cz_t dc, cz_t dc]
  rcases pm with h | h | h
  · unfold PAA_ at h
    omega
  · unfold PBB_ at h
    obtain ⟨h1, h2, h3, -⟩ := h
    rw [cz_t (P := T 102 m 10 = 0) h1, cz_t (P := T 102 m 10 = 0) h1, cz_t (P := T 102 m 10 = 0) h1, cz_t (P := T 102 m 10 = 0) h1, cz_f (P := T 235 0 m = 2) (by omega), cz_f (P := T 235 0 m = 2) (by omega)]
    rcases h3 with ⟨g1, g2, g3⟩ | ⟨g1, g2, g3⟩
    · rw [cz_t (P := T 102 m 6 ≠ -1) (by omega), cz_t (P := T 102 m 6 ≠ -1) (by omega), cz_t (P := T 102 m 6 = 0) g1, cz_f (P := T 102 m 6 = 1) (by omega), g2, g3]
      exact ⟨rfl, rfl, rfl, rfl⟩
    · rw [cz_t (P := T 102 m 6 ≠ -1) (by omega), cz_t (P := T 102 m 6 ≠ -1) (by omega), cz_f (P := T 102 m 6 = 0) (by omega), cz_t (P := T 102 m 6 = 1) g1, g2, g3]
      exact ⟨rfl, rfl, rfl, rfl⟩
  · obtain ⟨h1, h2, h3, ⟨n, hn, hs⟩, -⟩ := h
    have q := hs.1
    have s0 := q.2.1.2.2.2.2.1
    have s1 := q.2.1.2.2.2.2.2.1
    rw [rp_36, rs_d (T := T) (p := m) (k := 468) (j := 0) rfl] at s0
    rw [rp_37, rs_d (T := T) (p := m) (k := 468) (j := 1) rfl] at s1
    have e35 := q.2.2.1.2.2
    rw [rp_35, rs_d (T := T) (p := m) (k := 103) (j := 3) rfl] at e35
    have k : ∀ t, 0 ≤ t → t ≤ 1 → fr9c_ T (2 * m + t) (T 239 0 (2 * m + t)).toNat = fr9h_ T m (10 * t) (T 449 m t).toNat := fun t t0 t1 => by
      have g := sh.1 t t0 t1
      rw [g.1]
      refine fr_e (N := (T 449 m t).toNat) (fun x x0 x1 => ?_) _ (Nat.le_refl _)
      have y := q.2.2.2.2 t x t0 t1 (by omega) (by rw [rs_d (T := T) (p := m) (k := 449) (j := t) rfl]; omega)
      rw [rp_v (dm_473 (by omega)) rfl rfl, rp_v (dm_474 (by omega)) rfl rfl, rs_d (T := T) (p := m) (k := 473) (j := x) rfl, rs_d (T := T) (p := m) (k := 472) (j := x) rfl] at y
      obtain ⟨-, y2, y3⟩ := y
      rcases y3 with ⟨z1, -, z2⟩ | ⟨z1, -, z2⟩
      · exact ⟨y2, Or.inl ⟨z1, z2⟩⟩
      · exact ⟨y2, Or.inr ⟨z1, z2⟩⟩
    have k0 := k 0 (by decide) (by decide)
    have k1 := k 1 (by decide) (by decide)
    rw [show 2 * m + 0 = 2 * m by omega, show (10 : Int) * 0 = 0 by decide] at k0
    rw [show (10 : Int) * 1 = 10 by decide] at k1
    rw [cz_f (P := T 102 m 6 ≠ -1) (fun w => w h1), cz_f (P := T 102 m 6 ≠ -1) (fun w => w h1), cz_f (P := T 102 m 10 = 0) h2, cz_f (P := T 102 m 10 = 0) h2, cz_f (P := T 102 m 10 = 0) h2, cz_f (P := T 102 m 10 = 0) h2, cz_t (P := T 235 0 m = 2) (by omega), cz_t (P := T 235 0 m = 2) (by omega), k0, k1, s0, s1]
    exact ⟨rfl, rfl, rfl, rfl⟩
theorem dd_h {T : Zt} {c d x : Int} (h : ∀ i, 0 ≤ i → i < T 106 0 6 → T 527 0 i = T 225 0 i ∧ T 528 0 i = T 226 0 i ∧ T 529 0 i = T 227 0 i ∧ T 530 0 i = T 228 0 i) : ∀ n : Nat, (n : Int) ≤ T 106 0 6 → dd9_ T c d x n = dh9_ T c d x n
  | 0, _ => rfl
  | n + 1, hn => by
    have y := h (n : Int) (by omega) (by omega)
    show dd9_ T c d x n + cz_ (T 226 0 (n : Int) = x ∧ T 225 0 (n : Int) = c ∧ T 228 0 (n : Int) ≤ d) (T 227 0 (n : Int)) 0 = dh9_ T c d x n + cz_ (T 527 0 (n : Int) = c ∧ T 528 0 (n : Int) = x ∧ T 530 0 (n : Int) ≤ d) (T 529 0 (n : Int)) 0
    rw [dd_h h n (by omega), y.1, y.2.1, y.2.2.1, y.2.2.2]
    rw [cz_g (P := T 226 0 (n : Int) = x ∧ T 225 0 (n : Int) = c ∧ T 228 0 (n : Int) ≤ d) (Q := T 225 0 (n : Int) = c ∧ T 226 0 (n : Int) = x ∧ T 228 0 (n : Int) ≤ d) ⟨fun q => ⟨q.2.1, q.1, q.2.2⟩, fun q => ⟨q.2.1, q.1, q.2.2⟩⟩]
theorem dd_b {T : Zt} {c d x : Int} (h : ∀ i, 0 ≤ i → i < 50 → 0 ≤ T 227 0 i ∧ T 227 0 i ≤ 99) : ∀ n : Nat, (n : Int) ≤ 50 → 0 ≤ dd9_ T c d x n ∧ dd9_ T c d x n ≤ 99 * (n : Int)
  | 0, _ => ⟨Int.le_refl _, by show (0 : Int) ≤ 99 * ((0 : Nat) : Int); omega⟩
  | n + 1, hn => by
    have i := dd_b (c := c) (d := d) (x := x) h n (by omega)
    have y := h (n : Int) (by omega) (by omega)
    have e : dd9_ T c d x (n + 1) = dd9_ T c d x n + cz_ (T 226 0 (n : Int) = x ∧ T 225 0 (n : Int) = c ∧ T 228 0 (n : Int) ≤ d) (T 227 0 (n : Int)) 0 := rfl
    by_cases z : T 226 0 (n : Int) = x ∧ T 225 0 (n : Int) = c ∧ T 228 0 (n : Int) ≤ d
    · rw [e, cz_t z]; omega
    · rw [e, cz_f z]; omega
theorem pt_r {ru ru' : Int → Int} {a b : Int} (h : ru 1 = ru' 1 ∧ ru 2 = ru' 2 ∧ ru 3 = ru' 3) : ptm9_ ru a b = ptm9_ ru' a b := by
  unfold ptm9_
  rw [h.1, h.2.1, h.2.2]
theorem td_r {ru ru' : Int → Int} {v : Mv_} {x w k : Int} (h : ru 1 = ru' 1 ∧ ru 2 = ru' 2 ∧ ru 3 = ru' 3) : td9_ ru v x w k = td9_ ru' v x w k := by
  unfold td9_ cv9_
  rw [pt_r h (a := v k 3) (b := v k 4), pt_r h (a := v k 4) (b := v k 3)]
theorem tn_r {ru ru' : Int → Int} {v : Mv_} {x w : Int} (h : ru 1 = ru' 1 ∧ ru 2 = ru' 2 ∧ ru 3 = ru' 3) : ∀ n : Nat, tn9_ ru v x w n = tn9_ ru' v x w n
  | 0 => rfl
  | n + 1 => by
    show tn9_ ru v x w n + td9_ ru v x w (n : Int) = tn9_ ru' v x w n + td9_ ru' v x w (n : Int)
    rw [tn_r h n, td_r h]
/-- all that the tables of both sides hang on, but the views themselves -/
def TQz_ (T : Zt) (c d : Int) : Prop :=
  (BV_ (T 100 c 8) (fun k => vR_ T d (T 210 0 c + k)) (fun k => 4 * T 254 0 (T 210 0 c + k) + 9) ∧ bsm9_ (fun k => 4 * T 254 0 (T 210 0 c + k) + 9) (T 100 c 8).toNat ≤ 15600) ∧
  ((∀ w, 0 ≤ w → w < 16 → T 401 c w = T 205 0 (23 * c + w)) ∧ (∀ k, 0 ≤ k → k < 7 → k < T 401 c 4 → T 402 c k = T 205 0 (23 * c + (16 + k)) ∧ 0 ≤ T 402 c k)) ∧
  (((0 ≤ T 401 c 1 ∧ T 401 c 1 ≤ 9) ∧ (0 ≤ T 401 c 2 ∧ T 401 c 2 ≤ 9) ∧ (0 ≤ T 401 c 3 ∧ T 401 c 3 ≤ 9)) ∧ 0 ≤ T 401 c 4 ∧ T 401 c 4 ≤ 7) ∧
  (EN1_ T c ∧ SK_ T c ∧ SE_ (T 100 c 8) (T 100 c 5) (fun k => vR_ T d (T 210 0 c + k)) (fun s => T 403 c s)) ∧
  ∀ x, dd9_ T c d x (T 111 0 24).toNat = dh9_ T c d x (T 106 0 6).toNat ∧ 0 ≤ dd9_ T c d x (T 111 0 24).toNat ∧ dd9_ T c d x (T 111 0 24).toNat ≤ 4950
/-- all that the tables of both sides hang on -/
def TQ_ (T : Zt) (c d : Int) : Prop :=
  (VE_ (T 100 c 8) (fun k => vH_ T d (T 100 c 7 + k)) (fun k => vR_ T d (T 210 0 c + k))) ∧
  TQz_ T c d
theorem dd_k {T U : Zt} (h : ∀ (k : Nat) (j : Int), k = 225 ∨ k = 226 ∨ k = 227 ∨ k = 228 → U k 0 j = T k 0 j) {c d x : Int} : ∀ n : Nat, dd9_ U c d x n = dd9_ T c d x n
  | 0 => rfl
  | n + 1 => by
    show dd9_ U c d x n + cz_ (U 226 0 (n : Int) = x ∧ U 225 0 (n : Int) = c ∧ U 228 0 (n : Int) ≤ d) (U 227 0 (n : Int)) 0 = dd9_ T c d x n + cz_ (T 226 0 (n : Int) = x ∧ T 225 0 (n : Int) = c ∧ T 228 0 (n : Int) ≤ d) (T 227 0 (n : Int)) 0
    rw [dd_k h n, h 225 _ (by decide), h 226 _ (by decide), h 227 _ (by decide), h 228 _ (by decide)]
theorem he_s {T : Zt} {c cl : Int} (h8 : EN1_ T c) (hs : SK_ T c) (hc : 0 ≤ cl ∧ cl < 12) : HE_ T c cl ↔ T 404 c cl ≠ -1 := by
  obtain ⟨e1, -, -, -, e5, -⟩ := h8
  refine ⟨fun q => ?_, fun q => ?_⟩
  · obtain ⟨j, j0, j1, j2⟩ := q
    have y := e5 j j0 (by omega)
    have k := hs.1 j j0 (by omega)
    rw [y, j2] at k
    omega
  · rcases hs.2 cl hc.1 hc.2 with y | y
    · exact absurd y q
    · exact ⟨T 404 c cl, y.1, by omega, by rw [← e5 _ y.1 y.2.1]; exact y.2.2⟩
theorem hem_f {T U : Zt} {c cl : Int} (e7 : ∀ j, U 207 0 j = T 207 0 j) (e8 : U 208 0 c = T 208 0 c) : HE_ U c cl ↔ HE_ T c cl := by
  unfold HE_
  simp only [e7, e8]
theorem frc_b {T : Zt} {sh : Int} (hy : YB_ T) (h : 0 ≤ sh ∧ sh < 800) : ∀ n : Nat, n ≤ 10 → 0 ≤ fr9c_ T sh n ∧ fr9c_ T sh n ≤ 3013 * (n : Int)
  | 0, _ => ⟨Int.le_refl _, by show (0 : Int) ≤ 3013 * ((0 : Nat) : Int); omega⟩
  | n + 1, hn => by
    have i := frc_b hy h n (by omega)
    have y := hy (10 * sh + (n : Int)) (by omega) (by omega)
    by_cases z : T 243 0 (10 * sh + (n : Int)) = 0
    · rw [frc_0 z]; omega
    · rw [frc_1 z]; omega
theorem bv_r {T : Zt} {d m : Int} (hT : ok_T T) (hgx : GX_ T (-1)) (hyb : YB_ T) (hm : 0 ≤ m ∧ m < 400) : 0 ≤ 4 * T 254 0 m + 9 ∧ (vR_ T d m 0 = 1 → (0 ≤ vR_ T d m 3 ∧ vR_ T d m 3 ≤ 4 * T 254 0 m + 9) ∧ (0 ≤ vR_ T d m 4 ∧ vR_ T d m 4 ≤ 4 * T 254 0 m + 9) ∧ (0 ≤ vR_ T d m 5 ∧ vR_ T d m 5 ≤ 31000) ∧ (0 ≤ vR_ T d m 6 ∧ vR_ T d m 6 ≤ 31000)) := by
  have g := hgx m hm.1 hm.2 (by omega)
  have r := bd_a hT 254 (by decide +kernel : ta_ 254 = some (1, some 400, 0, 3000)) 0 (x := m) hm.1
  refine ⟨by omega, fun _ => ?_⟩
  rw [vr_3, vr_4, vr_5, vr_6]
  have s0 := bd_a hT 239 (by decide +kernel : ta_ 239 = some (1, some 800, 0, 10)) 0 (x := 2 * m) (by omega)
  have s1 := bd_a hT 239 (by decide +kernel : ta_ 239 = some (1, some 800, 0, 10)) 0 (x := 2 * m + 1) (by omega)
  have f0 := frc_b hyb (sh := 2 * m) (by omega) (T 239 0 (2 * m)).toNat (by omega)
  have f1 := frc_b hyb (sh := 2 * m + 1) (by omega) (T 239 0 (2 * m + 1)).toNat (by omega)
  have g1 := g.1
  have g2 := g.2.1
  have one : ∀ P : Prop, 0 ≤ cz_ P (1 : Int) 0 ∧ cz_ P (1 : Int) 0 ≤ 1 := fun P => by
    by_cases y : P
    · rw [cz_t y]; decide
    · rw [cz_f y]; decide
  have o1 := one (T 281 0 m = 0)
  have o2 := one (T 281 0 m = 2)
  refine ⟨?_, ?_, ?_, ?_⟩
  · by_cases y : T 235 0 m = 2 ∨ T 235 0 m = 3
    · rw [cz_t y]; exact g1
    · rw [cz_f y]; omega
  · by_cases y : T 235 0 m = 2 ∨ T 235 0 m = 3
    · rw [cz_t y]; exact g2
    · rw [cz_f y]; omega
  · by_cases y : T 235 0 m = 2
    · rw [cz_t y]; omega
    · rw [cz_f y]; omega
  · by_cases y : T 235 0 m = 2
    · rw [cz_t y]; omega
    · rw [cz_f y]; omega
/-- the keys of order are keys -/
def KNK_ (T : Zt) : Prop := ∀ c, 0 ≤ c → c < T 106 0 2 → ∀ k, 0 ≤ k → k < 7 → k < T 401 c 4 → 0 ≤ T 402 c k
theorem tq_i {T : Zt} {c d : Int} (hT : ok_T T) (hx : TXR_ T) (hri : RI_ T) (hen : ENR_ T) (hma : MAR_ T) (hde : DER_ T) (hda : DAR_ T) (hpl : PLR_ T) (su : T 111 0 80 = 0) (hkn : KNK_ T) (hgx : GX_ T (-1)) (hrx : RX_ T []) (hyb : YB_ T) (hks : KS_ T) (hke : KE_ T) (hkc : KC_ T) (hc : 0 ≤ c ∧ c < T 106 0 2) : TQ_ T c d := by
  have h8 := hen.1 c hc.1 hc.2
  have sk : SK_ T c := ⟨hke c hc.1 hc.2, h8.2.2.2.2.2⟩
  have e7 : T 210 0 c = T 100 c 7 := h8.2.2.1.symm
  have hn : 0 ≤ T 100 c 8 ∧ T 100 c 8 ≤ 400 := bd_f hT 100 8 tl_0_8 c
  have hf : 0 ≤ T 100 c 7 ∧ T 100 c 7 ≤ 400 := bd_f hT 100 7 tl_0_7 c
  have h4 : 0 ≤ T 106 0 4 ∧ T 106 0 4 ≤ 400 := bd_f hT 106 4 tl_6_4 0
  have h47 : 0 ≤ T 111 0 47 ∧ T 111 0 47 ≤ 3000 := bd_f hT 111 47 tl_11_47 0
  have h24 : 0 ≤ T 111 0 24 ∧ T 111 0 24 ≤ 50 := bd_f hT 111 24 tl_11_24 0
  have kc := hkc c hc.1 hc.2
  have rul := hx.2.2.2.2 c hc.1 hc.2
  have e6 := hx.2.2.1
  have rb : ∀ w, 0 ≤ w → w < 16 → (rb_ w).1 ≤ T 401 c w ∧ T 401 c w ≤ (rb_ w).2 := fun w a b => by
    rw [rul.1 w a b]
    exact hri c w hc.1 (by omega) a (by omega)
  have r1 : 0 ≤ T 401 c 1 ∧ T 401 c 1 ≤ 9 := rb 1 (by decide) (by decide)
  have r2 : 0 ≤ T 401 c 2 ∧ T 401 c 2 ≤ 9 := rb 2 (by decide) (by decide)
  have r3 : 0 ≤ T 401 c 3 ∧ T 401 c 3 ≤ 9 := rb 3 (by decide) (by decide)
  have r4 : 0 ≤ T 401 c 4 ∧ T 401 c 4 ≤ 7 := rb 4 (by decide) (by decide)
  have VW : ∀ k : Int, 0 ≤ k → k < T 100 c 8 → vH_ T d (T 100 c 7 + k) 0 = vR_ T d (T 100 c 7 + k) 0 ∧ (vH_ T d (T 100 c 7 + k) 0 = 1 → vH_ T d (T 100 c 7 + k) 1 = vR_ T d (T 100 c 7 + k) 1 ∧ vH_ T d (T 100 c 7 + k) 2 = vR_ T d (T 100 c 7 + k) 2 ∧ vH_ T d (T 100 c 7 + k) 3 = vR_ T d (T 100 c 7 + k) 3 ∧ vH_ T d (T 100 c 7 + k) 4 = vR_ T d (T 100 c 7 + k) 4 ∧ vH_ T d (T 100 c 7 + k) 5 = vR_ T d (T 100 c 7 + k) 5 ∧ vH_ T d (T 100 c 7 + k) 6 = vR_ T d (T 100 c 7 + k) 6) := fun k a b => by
    have p := hpl.1 (T 100 c 7 + k) (by omega) (by omega)
    have q := hma.2 (T 100 c 7 + k) (by omega) (by omega)
    exact vw_e p.1 p.2 (hda _ (by omega) (by omega)) ⟨q.2.2.1, q.2.2.2⟩ su
  refine ⟨fun k a b => ?_, ⟨fun k a b => ?_, ?_⟩, ⟨rul.1, fun k a b e => ⟨(rul.2 k a b).1 e, hkn c hc.1 hc.2 k a b e⟩⟩, ⟨⟨r1, r2, r3⟩, r4⟩, ⟨h8, sk, ?_, fun k a b z i hi => ?_⟩, fun x => ?_⟩
  · show vH_ T d (T 100 c 7 + k) 0 = vR_ T d (T 210 0 c + k) 0 ∧ _
    rw [e7]
    exact VW k a b
  · show 0 ≤ 4 * T 254 0 (T 210 0 c + k) + 9 ∧ _
    rw [e7]
    exact bv_r hT hgx hyb (by omega)
  · rw [e7, bsm_l (b := fun k => T 254 0 (T 100 c 7 + k))]
    have y := rx_s (T := T) (f := T 100 c 7) (n := (T 100 c 8).toNat) hrx hf.1 (by have := hma.1; omega) h47.1
    omega
  · intro s t s0 s1 t0 t1 e
    have a := hke c hc.1 hc.2 s s0 s1
    have b := hke c hc.1 hc.2 t t0 t1
    have e' : T 403 c s = T 403 c t := e
    rw [e'] at a
    omega
  · have z' : vR_ T d (T 100 c 7 + k) 0 = 1 := by rw [← e7]; exact z
    have q := hma.2 (T 100 c 7 + k) (by omega) (by omega)
    have s := hks c hc.1 hc.2 (T 100 c 7 + k) (by omega) (by omega)
    have b3 : 0 ≤ T 102 (T 100 c 7 + k) 3 ∧ T 102 (T 100 c 7 + k) 3 ≤ 11 := bd_f hT 102 3 tl_2_3 _
    have b4 : 0 ≤ T 102 (T 100 c 7 + k) 4 ∧ T 102 (T 100 c 7 + k) 4 ≤ 11 := bd_f hT 102 4 tl_2_4 _
    rcases hi with rfl | rfl
    · show ∃ s, 0 ≤ s ∧ s < T 100 c 5 ∧ T 403 c s = vR_ T d (T 210 0 c + k) 1
      rw [e7, vr_1, ← q.2.2.1]
      have y := (sk.2 (T 102 (T 100 c 7 + k) 3) (by omega) (by omega)).resolve_left (by omega)
      exact ⟨_, y.1, y.2.1, y.2.2⟩
    · show ∃ s, 0 ≤ s ∧ s < T 100 c 5 ∧ T 403 c s = vR_ T d (T 210 0 c + k) 2
      rw [e7, vr_2, ← q.2.2.2]
      have y := (sk.2 (T 102 (T 100 c 7 + k) 4) (by omega) (by omega)).resolve_left (by omega)
      exact ⟨_, y.1, y.2.1, y.2.2⟩
  · have b := dd_b (c := c) (d := d) (x := x) (fun i a b => bd_a hT 227 (by decide +kernel : ta_ 227 = some (1, some 50, 0, 99)) 0 (x := i) a) (T 111 0 24).toNat (by omega)
    refine ⟨?_, b.1, by omega⟩
    rw [hde.1]
    exact dd_h hde.2 _ (by have := hde.1; omega)
-- the keys of order that are read are keys
def KN9_ (v : Int → Int) : Prop := ∀ k, 0 ≤ k → k < 7 → k < v 4 → 0 ≤ v (16 + k)
theorem kn9_u {v : Int → Int} {w x : Int} (h : KN9_ v) (h4 : w ≠ 4) (h16 : w < 16) : KN9_ (u9_ v w x) := fun k a b c => by
  rw [u9_n (fun z => h4 z.symm)] at c
  rw [u9_n (show 16 + k ≠ w by omega)]
  exact h k a b c
theorem kn9_o {v : Int → Int} : KN9_ (ov9_ v) := fun k a b c => by
  rw [ov9_4] at c
  omega
theorem kn9_s {v : Int → Int} {c x : Int} (h : KN9_ v) (h4 : v 4 = c) (hx : 0 ≤ x) : KN9_ (u9_ (u9_ v (16 + c) x) 4 (c + 1)) := fun k a b d => by
  rw [u9_e] at d
  rw [u9_n (show 16 + k ≠ 4 by omega)]
  by_cases z : k = c
  · rw [z, u9_e]
    exact hx
  · rw [u9_n (show 16 + k ≠ 16 + c by omega)]
    exact h k a b (by omega)
theorem kn9_d : KN9_ dv9_ := by
  have h : ∀ k : Nat, k < 7 → (k : Int) < dv9_ 4 → 0 ≤ dv9_ (16 + (k : Int)) := by decide +kernel
  intro k a b c
  have g := h k.toNat (by omega)
  rw [show ((k.toNat : Nat) : Int) = k by omega] at g
  exact g c
theorem orf9_n {b : Int → Int} {n : Int} : ∀ (f : Nat) {a c : Int} {t v : Int → Int} {p : Int × (Int → Int)}, v 4 = c → KN9_ v → orf9_ f b n a t c v = Sum.inr p → KN9_ p.2
  | 0, _, _, _, _, _, _, _, h => by cases h
  | f + 1, a, c, t, v, p, hk, hv, h => by
      unfold orf9_ at h
      obtain ⟨q, h1, h2⟩ := bn9_i h
      have hx := wof9_g tb9_2 h1
      have g1 : KN9_ (u9_ (u9_ v (16 + c) q.2) 4 (c + 1)) := kn9_s hv hk hx.1
      by_cases z : t q.2 = 0
      · rw [if_pos z] at h2
        by_cases z4 : (tkf9_ b n q.1).2.2 = 4
        · rw [if_pos z4] at h2
          exact orf9_n f u9_e g1 h2
        · rw [if_neg z4] at h2
          obtain ⟨e, h3, h4⟩ := bn9_i h2
          cases h4
          exact g1
      · rw [if_neg z] at h2
        cases h2
theorem bdf9_n {b v : Int → Int} {n a x : Int} {p : Int × (Int → Int)} (hv : KN9_ v) (hx : 0 ≤ x ∧ x < 14) (h2 : x ≠ 2) (h : bdf9_ b n a x v = Sum.inr p) : KN9_ p.2 := by
  by_cases z0 : x = 0
  · rw [bdf9_0 z0] at h
    obtain ⟨q, h1, h3⟩ := bn9_i h
    cases h3
    exact kn9_u hv (by decide) (by decide)
  · by_cases z1 : x = 1
    · rw [bdf9_1 z1] at h
      obtain ⟨q, h1, h3⟩ := bn9_i h
      cases h3
      exact kn9_u (kn9_u (kn9_u hv (by decide) (by decide)) (by decide) (by decide)) (by decide) (by decide)
    · by_cases z3 : x = 3
      · rw [bdf9_3 z3] at h
        cases h
        exact kn9_u hv (by decide) (by decide)
      · rw [bdf9_4 (by omega)] at h
        obtain ⟨q, h1, h3⟩ := bn9_i h
        cases h3
        exact kn9_u hv (by omega) (by omega)
theorem stf9_n {b t v : Int → Int} {n a : Int} {y : Int × (Int → Int) × (Int → Int)} (hv : KN9_ v) (h : stf9_ b n a t v = Sum.inr y) : KN9_ y.2.2 := by
  unfold stf9_ at h
  obtain ⟨q, h1, h2⟩ := bn9_i h
  by_cases z : t q.2 = 0
  · rw [if_pos z] at h2
    by_cases z2 : q.2 = 2
    · rw [if_pos z2] at h2
      obtain ⟨p, h3, h4⟩ := bn9_i h2
      cases h4
      exact orf9_n 9 ov9_4 kn9_o h3
    · rw [if_neg z2] at h2
      obtain ⟨p, h3, h4⟩ := bn9_i h2
      obtain ⟨e, h5, h6⟩ := bn9_i h4
      cases h6
      exact bdf9_n hv (wof9_g tb9_0 h1) z2 h3
  · rw [if_neg z] at h2
    cases h2
theorem rdf9_n {b : Int → Int} {n : Int} : ∀ (f : Nat) {a : Int} {t v v' : Int → Int}, KN9_ v → rdf9_ f b n a t v = Sum.inr v' → KN9_ v'
  | 0, _, _, _, _, _, h => by cases h
  | f + 1, a, t, v, v', hv, h => by
      unfold rdf9_ at h
      by_cases z : (tkf9_ b n a).2.2 = 0
      · rw [if_pos z] at h
        cases h
        exact hv
      · rw [if_neg z] at h
        obtain ⟨y, h1, h2⟩ := bn9_i h
        exact rdf9_n f (stf9_n hv h1) h2
/-- a competition is told: its keys are keys -/
theorem knk_c {T T1 : Zt} {x1 : Int} (h : KNK_ T) (hn : 0 ≤ T 106 0 2) (ho : (∀ i j, i ≠ T 106 0 2 → T1 401 i j = T 401 i j) ∧ (T1 106 0 2 = T 106 0 2 → ∀ i j, T1 402 i j = T 402 i j)) (d1 : CH9_ T T1 x1) : KNK_ T1 := by
  obtain ⟨o2, o3⟩ := ho
  have same : T1 106 0 2 = T 106 0 2 → KNK_ T1 := fun e c a b k k0 k1 k2 => by
    rw [e] at b
    rw [o2 c 4 (by omega)] at k2
    rw [o3 e]
    exact h c a b k k0 k1 k2
  rcases d1 with ⟨a1, a2, a3, a4, a5⟩ | ⟨a1, a2, ⟨a3, kk, a4, a5⟩ | ⟨a3, a4, a5, a6, a10, v, a7, a8, a9⟩⟩
  · exact same a5
  · exact same a3
  · intro c a b k k0 k1 k2
    by_cases zc : c = T 106 0 2
    · rw [zc] at k2 ⊢
      rw [a8 4 (by omega) (by omega)] at k2
      rw [a9 k k0 k2]
      exact rdf9_n 402 kn9_d a7 k k0 k1 k2
    · rw [o2 c 4 zc] at k2
      rw [a6 c k zc]
      exact h c a (by omega) k k0 k1 k2
/-- nothing is supposed between the calls -/
def SUP_ (T : Zt) : Prop := T 111 0 80 = 0
theorem bk_X11_countLeft_e_59 : ck_ fX11 none cX11_countLeft 59 [.iload 2, .aload 0, .tableswitch 0 11 10 #[], .iload 1, .iaload, .aload 0, .tableswitch 0 11 11 #[], .iload 1, .iaload, .iadd, .if_icmp .ge 136, .aload 0, .tableswitch 0 11 92 #[], .aload 0, .tableswitch 0 11 32 #[], .iload 2, .iaload, .dup2, .iaload, .aload 0, .iload 2] 90 = true := qck_r (nn_ _) (by decide +kernel)
theorem bs_X11_countLeft_e_59 {P : Zt → Option Zv → Prop} (K : Int → Zl → List Zv → Zt → Prop) : sx_ K P [.iload 2, .aload 0, .tableswitch 0 11 10 #[], .iload 1, .iaload, .aload 0, .tableswitch 0 11 11 #[], .iload 1, .iaload, .iadd, .if_icmp .ge 136, .aload 0, .tableswitch 0 11 92 #[], .aload 0, .tableswitch 0 11 32 #[], .iload 2, .iaload, .dup2, .iaload, .aload 0, .iload 2] 90 = x_iload 2 (x_aload 0 (x_g1 111 210 (x_iload 1 (x_iaload (x_aload 0 (x_g1 111 211 (x_iload 1 (x_iaload (x_iadd (x_if_icmp .ge 136 K (x_aload 0 (x_g1 111 292 (x_aload 0 (x_g1 111 232 (x_iload 2 (x_iaload (x_dup2 (x_iaload (x_aload 0 (x_iload 2 (K 90))))))))))))))))))))) := ((xe_iload 2).trans (congrArg (x_iload 2) ((xe_aload 0).trans (congrArg (x_aload 0) ((xe_g1 (kk := 111) rfl tl_11_10).trans (congrArg (x_g1 111 210) ((xe_iload 1).trans (congrArg (x_iload 1) ((xe_iaload).trans (congrArg (x_iaload) ((xe_aload 0).trans (congrArg (x_aload 0) ((xe_g1 (kk := 111) rfl tl_11_11).trans (congrArg (x_g1 111 211) ((xe_iload 1).trans (congrArg (x_iload 1) ((xe_iaload).trans (congrArg (x_iaload) ((xe_iadd).trans (congrArg (x_iadd) ((xe_if_icmp .ge 136).trans (congrArg (x_if_icmp .ge 136 K) ((xe_aload 0).trans (congrArg (x_aload 0) ((xe_g1 (kk := 111) rfl tl_11_92).trans (congrArg (x_g1 111 292) ((xe_aload 0).trans (congrArg (x_aload 0) ((xe_g1 (kk := 111) rfl tl_11_32).trans (congrArg (x_g1 111 232) ((xe_iload 2).trans (congrArg (x_iload 2) ((xe_iaload).trans (congrArg (x_iaload) ((xe_dup2).trans (congrArg (x_dup2) ((xe_iaload).trans (congrArg (x_iaload) ((xe_aload 0).trans (congrArg (x_aload 0) ((xe_iload 2).trans (congrArg (x_iload 2) xe_nil))))))))))))))))))))))))))))))))))))))))))
theorem bk_X11_countLeft_e_136 : ck_ fX11 none cX11_countLeft 136 [.return_] 137 = true := qck_r (nn_ _) (by decide +kernel)
theorem bs_X11_countLeft_e_136 {P : Zt → Option Zv → Prop} (K : Int → Zl → List Zv → Zt → Prop) : sx_ K P [.return_] 137 = x_return_ P := (xe_return_)
theorem bk_X11_countLeft_e_93 : ck_ fX11 none cX11_countLeft 93 [.ifCond .eq 100, .iconst 1, .goto 101] 100 = true := qck_r (nn_ _) (by decide +kernel)
theorem bs_X11_countLeft_e_93 {P : Zt → Option Zv → Prop} (K : Int → Zl → List Zv → Zt → Prop) : sx_ K P [.ifCond .eq 100, .iconst 1, .goto 101] 100 = x_ifCond .eq 100 K (x_iconst 1 (x_goto 101 K)) := ((xe_ifCond .eq 100).trans (congrArg (x_ifCond .eq 100 K) ((xe_iconst 1).trans (congrArg (x_iconst 1) (xe_goto 101)))))
theorem bk_X11_countLeft_e_100 : ck_ fX11 none cX11_countLeft 100 [.iconst 0, .iadd, .iastore, .aload 0, .tableswitch 0 11 92 #[], .aload 0, .tableswitch 0 11 33 #[], .iload 2, .iaload, .dup2, .iaload, .aload 0, .iload 2] 117 = true := qck_r (nn_ _) (by decide +kernel)
theorem bs_X11_countLeft_e_100 {P : Zt → Option Zv → Prop} (K : Int → Zl → List Zv → Zt → Prop) : sx_ K P [.iconst 0, .iadd, .iastore, .aload 0, .tableswitch 0 11 92 #[], .aload 0, .tableswitch 0 11 33 #[], .iload 2, .iaload, .dup2, .iaload, .aload 0, .iload 2] 117 = x_iconst 0 (x_iadd (x_iastore (x_aload 0 (x_g1 111 292 (x_aload 0 (x_g1 111 233 (x_iload 2 (x_iaload (x_dup2 (x_iaload (x_aload 0 (x_iload 2 (K 117))))))))))))) := ((xe_iconst 0).trans (congrArg (x_iconst 0) ((xe_iadd).trans (congrArg (x_iadd) ((xe_iastore).trans (congrArg (x_iastore) ((xe_aload 0).trans (congrArg (x_aload 0) ((xe_g1 (kk := 111) rfl tl_11_92).trans (congrArg (x_g1 111 292) ((xe_aload 0).trans (congrArg (x_aload 0) ((xe_g1 (kk := 111) rfl tl_11_33).trans (congrArg (x_g1 111 233) ((xe_iload 2).trans (congrArg (x_iload 2) ((xe_iaload).trans (congrArg (x_iaload) ((xe_dup2).trans (congrArg (x_dup2) ((xe_iaload).trans (congrArg (x_iaload) ((xe_aload 0).trans (congrArg (x_aload 0) ((xe_iload 2).trans (congrArg (x_iload 2) xe_nil))))))))))))))))))))))))))
theorem bk_X11_countLeft_e_120 : ck_ fX11 none cX11_countLeft 120 [.ifCond .eq 127, .iconst 1, .goto 128] 127 = true := qck_r (nn_ _) (by decide +kernel)
theorem bs_X11_countLeft_e_120 {P : Zt → Option Zv → Prop} (K : Int → Zl → List Zv → Zt → Prop) : sx_ K P [.ifCond .eq 127, .iconst 1, .goto 128] 127 = x_ifCond .eq 127 K (x_iconst 1 (x_goto 128 K)) := ((xe_ifCond .eq 127).trans (congrArg (x_ifCond .eq 127 K) ((xe_iconst 1).trans (congrArg (x_iconst 1) (xe_goto 128)))))
theorem bk_X11_countLeft_e_127 : ck_ fX11 none cX11_countLeft 127 [.iconst 0, .iadd, .iastore, .iinc 2 1, .goto 59] 136 = true := qck_r (nn_ _) (by decide +kernel)
theorem bs_X11_countLeft_e_127 {P : Zt → Option Zv → Prop} (K : Int → Zl → List Zv → Zt → Prop) : sx_ K P [.iconst 0, .iadd, .iastore, .iinc 2 1, .goto 59] 136 = x_iconst 0 (x_iadd (x_iastore (x_iinc 2 1 (x_goto 59 K)))) := ((xe_iconst 0).trans (congrArg (x_iconst 0) ((xe_iadd).trans (congrArg (x_iadd) ((xe_iastore).trans (congrArg (x_iastore) ((xe_iinc 2 1).trans (congrArg (x_iinc 2 1) (xe_goto 59)))))))))
theorem bk_X11_countLeft_e_128 : ck_ fX11 none cX11_countLeft 128 [.iadd, .iastore, .iinc 2 1, .goto 59] 136 = true := qck_r (nn_ _) (by decide +kernel)
theorem bs_X11_countLeft_e_128 {P : Zt → Option Zv → Prop} (K : Int → Zl → List Zv → Zt → Prop) : sx_ K P [.iadd, .iastore, .iinc 2 1, .goto 59] 136 = x_iadd (x_iastore (x_iinc 2 1 (x_goto 59 K))) := ((xe_iadd).trans (congrArg (x_iadd) ((xe_iastore).trans (congrArg (x_iastore) ((xe_iinc 2 1).trans (congrArg (x_iinc 2 1) (xe_goto 59)))))))
theorem bk_X11_countLeft_e_101 : ck_ fX11 none cX11_countLeft 101 [.iadd, .iastore, .aload 0, .tableswitch 0 11 92 #[], .aload 0, .tableswitch 0 11 33 #[], .iload 2, .iaload, .dup2, .iaload, .aload 0, .iload 2] 117 = true := qck_r (nn_ _) (by decide +kernel)
theorem bs_X11_countLeft_e_101 {P : Zt → Option Zv → Prop} (K : Int → Zl → List Zv → Zt → Prop) : sx_ K P [.iadd, .iastore, .aload 0, .tableswitch 0 11 92 #[], .aload 0, .tableswitch 0 11 33 #[], .iload 2, .iaload, .dup2, .iaload, .aload 0, .iload 2] 117 = x_iadd (x_iastore (x_aload 0 (x_g1 111 292 (x_aload 0 (x_g1 111 233 (x_iload 2 (x_iaload (x_dup2 (x_iaload (x_aload 0 (x_iload 2 (K 117)))))))))))) := ((xe_iadd).trans (congrArg (x_iadd) ((xe_iastore).trans (congrArg (x_iastore) ((xe_aload 0).trans (congrArg (x_aload 0) ((xe_g1 (kk := 111) rfl tl_11_92).trans (congrArg (x_g1 111 292) ((xe_aload 0).trans (congrArg (x_aload 0) ((xe_g1 (kk := 111) rfl tl_11_33).trans (congrArg (x_g1 111 233) ((xe_iload 2).trans (congrArg (x_iload 2) ((xe_iaload).trans (congrArg (x_iaload) ((xe_dup2).trans (congrArg (x_dup2) ((xe_iaload).trans (congrArg (x_iaload) ((xe_aload 0).trans (congrArg (x_aload 0) ((xe_iload 2).trans (congrArg (x_iload 2) xe_nil))))))))))))))))))))))))
theorem bk_X11_countLeft_e_15 : ck_ fX11 none cX11_countLeft 15 [.iload 2, .iconst 12, .if_icmp .ge 52, .aload 0, .tableswitch 0 11 91 #[], .iload 2, .aload 0, .tableswitch 0 11 76 #[], .iconst 9, .iload 2, .imul, .iconst 6, .iadd, .iaload, .iastore, .aload 0, .tableswitch 0 11 92 #[], .iload 2, .iconst 0, .iastore, .iinc 2 1, .goto 15] 52 = true := qck_r (nn_ _) (by decide +kernel)
theorem bs_X11_countLeft_e_15 {P : Zt → Option Zv → Prop} (K : Int → Zl → List Zv → Zt → Prop) : sx_ K P [.iload 2, .iconst 12, .if_icmp .ge 52, .aload 0, .tableswitch 0 11 91 #[], .iload 2, .aload 0, .tableswitch 0 11 76 #[], .iconst 9, .iload 2, .imul, .iconst 6, .iadd, .iaload, .iastore, .aload 0, .tableswitch 0 11 92 #[], .iload 2, .iconst 0, .iastore, .iinc 2 1, .goto 15] 52 = x_iload 2 (x_iconst 12 (x_if_icmp .ge 52 K (x_aload 0 (x_g1 111 291 (x_iload 2 (x_aload 0 (x_g1 111 276 (x_iconst 9 (x_iload 2 (x_imul (x_iconst 6 (x_iadd (x_iaload (x_iastore (x_aload 0 (x_g1 111 292 (x_iload 2 (x_iconst 0 (x_iastore (x_iinc 2 1 (x_goto 15 K))))))))))))))))))))) := ((xe_iload 2).trans (congrArg (x_iload 2) ((xe_iconst 12).trans (congrArg (x_iconst 12) ((xe_if_icmp .ge 52).trans (congrArg (x_if_icmp .ge 52 K) ((xe_aload 0).trans (congrArg (x_aload 0) ((xe_g1 (kk := 111) rfl tl_11_91).trans (congrArg (x_g1 111 291) ((xe_iload 2).trans (congrArg (x_iload 2) ((xe_aload 0).trans (congrArg (x_aload 0) ((xe_g1 (kk := 111) rfl tl_11_76).trans (congrArg (x_g1 111 276) ((xe_iconst 9).trans (congrArg (x_iconst 9) ((xe_iload 2).trans (congrArg (x_iload 2) ((xe_imul).trans (congrArg (x_imul) ((xe_iconst 6).trans (congrArg (x_iconst 6) ((xe_iadd).trans (congrArg (x_iadd) ((xe_iaload).trans (congrArg (x_iaload) ((xe_iastore).trans (congrArg (x_iastore) ((xe_aload 0).trans (congrArg (x_aload 0) ((xe_g1 (kk := 111) rfl tl_11_92).trans (congrArg (x_g1 111 292) ((xe_iload 2).trans (congrArg (x_iload 2) ((xe_iconst 0).trans (congrArg (x_iconst 0) ((xe_iastore).trans (congrArg (x_iastore) ((xe_iinc 2 1).trans (congrArg (x_iinc 2 1) (xe_goto 15)))))))))))))))))))))))))))))))))))))))))))
theorem bk_X11_countLeft_e_52 : ck_ fX11 none cX11_countLeft 52 [.aload 0, .tableswitch 0 11 10 #[], .iload 1, .iaload, .istore 2] 59 = true := qck_r (nn_ _) (by decide +kernel)
theorem bs_X11_countLeft_e_52 {P : Zt → Option Zv → Prop} (K : Int → Zl → List Zv → Zt → Prop) : sx_ K P [.aload 0, .tableswitch 0 11 10 #[], .iload 1, .iaload, .istore 2] 59 = x_aload 0 (x_g1 111 210 (x_iload 1 (x_iaload (x_istore 2 (K 59))))) := ((xe_aload 0).trans (congrArg (x_aload 0) ((xe_g1 (kk := 111) rfl tl_11_10).trans (congrArg (x_g1 111 210) ((xe_iload 1).trans (congrArg (x_iload 1) ((xe_iaload).trans (congrArg (x_iaload) ((xe_istore 2).trans (congrArg (x_istore 2) xe_nil))))))))))
theorem bk_X11_countLeft_e_0 : ck_ fX11 none cX11_countLeft 0 [.aload 0, .iconst 0, .tableswitch 1 11 80 #[], .aload 0, .iload 1, .iconst 999] 10 = true := qck_r (nn_ _) (by decide +kernel)
theorem bs_X11_countLeft_e_0 {P : Zt → Option Zv → Prop} (K : Int → Zl → List Zv → Zt → Prop) : sx_ K P [.aload 0, .iconst 0, .tableswitch 1 11 80 #[], .aload 0, .iload 1, .iconst 999] 10 = x_aload 0 (x_iconst 0 (x_p 111 80 0 1 (x_aload 0 (x_iload 1 (x_iconst 999 (K 10)))))) := ((xe_aload 0).trans (congrArg (x_aload 0) ((xe_iconst 0).trans (congrArg (x_iconst 0) ((xe_p (kk := 111) rfl tl_11_80).trans (congrArg (x_p 111 80 0 1) ((xe_aload 0).trans (congrArg (x_aload 0) ((xe_iload 1).trans (congrArg (x_iload 1) ((xe_iconst 999).trans (congrArg (x_iconst 999) xe_nil))))))))))))
theorem bk_X11_countLeft_e_13 : ck_ fX11 none cX11_countLeft 13 [.iconst 0, .istore 2] 15 = true := qck_r (nn_ _) (by decide +kernel)
theorem bs_X11_countLeft_e_13 {P : Zt → Option Zv → Prop} (K : Int → Zl → List Zv → Zt → Prop) : sx_ K P [.iconst 0, .istore 2] 15 = x_iconst 0 (x_istore 2 (K 15)) := ((xe_iconst 0).trans (congrArg (x_iconst 0) ((xe_istore 2).trans (congrArg (x_istore 2) xe_nil))))
abbrev po_X11_countLeft_e (T : Zt) (c : Int) : Zt → Option Zv → Prop := fun T' r => r = none ∧ fr_ [(276, []), (291, []), (292, []), (111, [80, 82, 83])] T T' ∧ (PB6_ T' ∧ LB_ T' 1000 ∧ T' 111 0 80 = 0)
set_option maxHeartbeats 4000000 in
theorem ct_X11_countLeft_e {T : Zt} {c : Int} (h1 : 0 ≤ c ∧ c < 4) (hml : ML_ T) (hsc : SC_ T) (hyb : YB_ T) : Ct_ yX11_countLeft zX11_countLeft T [vR 111 0, vI c] (po_X11_countLeft_e T c) := by
  refine ct_of pn_11 rfl rfl (Nat.le_of_ble_eq_true rfl) (fun hT hav => ?_)
  have hr_c : -2147483648 ≤ c ∧ c ≤ 2147483647 := hav (vI c) (List.mem_cons_of_mem _ List.mem_cons_self)
  have hz : zX11_countLeft.2.2.2.1 = some .boolean → ∀ (T' : Zt) (x : Int), po_X11_countLeft_e T c T' (some (vI x)) → 0 ≤ x ∧ x ≤ 1 := fun h => by cases h
  have hmc := hml c (by omega) (by omega)
  have hb_29 : 0 ≤ T 111 0 29 ∧ T 111 0 29 ≤ 400 := bd_f hT 111 29 tl_11_29 0
  have hfo : 0 ≤ T 210 0 c ∧ T 210 0 c ≤ 400 := bd_a hT 210 (by decide +kernel : ta_ 210 = some (1, some 4, 0, 400)) 0 (by omega)
  have hmo : 0 ≤ T 211 0 c ∧ T 211 0 c ≤ 400 := bd_a hT 211 (by decide +kernel : ta_ 211 = some (1, some 4, 0, 400)) 0 (by omega)
  show J_ zX11_countLeft T (po_X11_countLeft_e T c) 0 0 0 [some (vR 111 0), some (vI c), none] [] T
  have c_59 : ∀ (nn : Nat) (m : Int) (T2 : Zt), ((400 - m).toNat) ≤ nn → (fr_ [(276, []), (291, []), (292, []), (111, [80, 82, 83])] T T2) → (T 210 0 c ≤ m ∧ m ≤ T 210 0 c + T 211 0 c) → (PB6_ T2) → (LB_ T2 (2 * (m - T 210 0 c))) → (T2 111 0 80 = 0) → J_ zX11_countLeft T (po_X11_countLeft_e T c) 0 0 59 [some (vR 111 0), some (vI c), some (vI m)] [] T2 := by
    intro nn
    induction nn using Nat.strongRecOn with
    | _ nn ih_59 =>
      intro m T2 hm_59 hf_59 i2 pb2 lb2 su2
      replace hm_59 := fun (_ : Unit) => hm_59
      refine j_blx (F := fX11) tb_X11 (nn_ _) bk_X11_countLeft_e_59 bs_X11_countLeft_e_59 hz (fun K hK => ?_)
      refine ix_i (by omega) ?_
      intro b1 b1b
      have e2 : T2 210 0 c = T 210 0 c := hf_59 210 0 c rfl
      rw [e2] at b1 b1b ⊢
      refine ix_i (by omega) ?_
      intro b3 b3b
      have e4 : T2 211 0 c = T 211 0 c := hf_59 211 0 c rfl
      rw [e4] at b3 b3b ⊢
      refine rg_i (by omega) ?_
      refine And.intro (fun c5 => ?_) (fun c5 => ?_)
      · refine hK 136 _ [] T2 ?_
        refine j_blx (F := fX11) tb_X11 (nn_ _) bk_X11_countLeft_e_136 bs_X11_countLeft_e_136 hz (fun K hK => ?_)
        refine (show po_X11_countLeft_e T c T2 (none) from ?_)
        exact ⟨rfl, fr_t (fr_0 _ _) (fr_s hf_59 rfl), pb2, lb_m lb2 (by omega), su2⟩
      · refine ix_i (by omega) ?_
        intro b6 b6b
        have e7 : T2 232 0 m = T 232 0 m := hf_59 232 0 m rfl
        rw [e7] at b6 b6b ⊢
        refine ix_i (by omega) ?_
        intro b8 b8b
        have t9 : 0 ≤ T2 292 0 (T 232 0 m) ∧ T2 292 0 (T 232 0 m) ≤ 2 * (m - T 210 0 c) := (lb2) (T 232 0 m) (by omega) (by omega)
        refine hK 90 _ [vI m, vR 111 0, vI (T2 292 0 (T 232 0 m)), vI (T 232 0 m), vR 292 0] T2 ?_
        refine j_callV (y := yX11_isLeft) (Yc := zX11_isLeft) (rest := [vI (T2 292 0 (T 232 0 m)), vI (T 232 0 m), vR 292 0]) [vI m] (ct_X11_isLeft (T := T2) (by omega)) cl_X11_538 (qd_c (by decide +kernel)) (nn_ _) rfl (rf_of rfl) (Nat.le_of_ble_eq_true rfl) (Nat.le_of_ble_eq_true rfl) (Nat.le_of_ble_eq_true rfl) rfl ?_
        rintro _ _ ⟨rfl, x10, rfl, hx10⟩
        show J_ zX11_countLeft T (po_X11_countLeft_e T c) 0 0 93 _ [vI x10, vI (T2 292 0 (T 232 0 m)), vI (T 232 0 m), vR 292 0] T2
        refine j_blx (F := fX11) tb_X11 (nn_ _) bk_X11_countLeft_e_93 bs_X11_countLeft_e_93 hz (fun K hK => ?_)
        refine And.intro (fun c11 => ?_) (fun c11 => ?_)
        · replace hx10 := hx10.resolve_left (fun z => absurd (c11.symm.trans z.1) (by decide))
          clear c11
          refine hK 100 _ [vI (T2 292 0 (T 232 0 m)), vI (T 232 0 m), vR 292 0] T2 ?_
          refine j_blx (F := fX11) tb_X11 (nn_ _) bk_X11_countLeft_e_100 bs_X11_countLeft_e_100 hz (fun K hK => ?_)
          refine rg_i (by omega) ?_
          refine iy_i (by omega) (by omega) ?_
          refine x_nm (fun U12 hU12 => ?_)
          have e13 := up_f hU12
          refine ix_i (by omega) ?_
          intro b14 b14b
          have e15 : U12 233 0 m = T 233 0 m := (up_k hU12 (by exact Nat.ne_of_beq_eq_false rfl) 0 m).trans (hf_59 233 0 m rfl)
          rw [e15] at b14 b14b ⊢
          refine ix_i (by omega) ?_
          intro b16 b16b
          have t17 : 0 ≤ U12 292 0 (T 233 0 m) ∧ U12 292 0 (T 233 0 m) ≤ 2 * (m - T 210 0 c) + 1 := (lb_u (lb2) hU12 (by omega)) (T 233 0 m) (by omega) (by omega)
          refine hK 117 _ [vI m, vR 111 0, vI (U12 292 0 (T 233 0 m)), vI (T 233 0 m), vR 292 0] U12 ?_
          refine j_callV (y := yX11_isLeft) (Yc := zX11_isLeft) (rest := [vI (U12 292 0 (T 233 0 m)), vI (T 233 0 m), vR 292 0]) [vI m] (ct_X11_isLeft (T := U12) (by omega)) cl_X11_538 (qd_c (by decide +kernel)) (nn_ _) rfl (rf_of rfl) (Nat.le_of_ble_eq_true rfl) (Nat.le_of_ble_eq_true rfl) (Nat.le_of_ble_eq_true rfl) rfl ?_
          rintro _ _ ⟨rfl, x18, rfl, hx18⟩
          show J_ zX11_countLeft T (po_X11_countLeft_e T c) 0 0 120 _ [vI x18, vI (U12 292 0 (T 233 0 m)), vI (T 233 0 m), vR 292 0] U12
          refine j_blx (F := fX11) tb_X11 (nn_ _) bk_X11_countLeft_e_120 bs_X11_countLeft_e_120 hz (fun K hK => ?_)
          refine And.intro (fun c19 => ?_) (fun c19 => ?_)
          · replace hx18 := hx18.resolve_left (fun z => absurd (c19.symm.trans z.1) (by decide))
            clear c19
            refine hK 127 _ [vI (U12 292 0 (T 233 0 m)), vI (T 233 0 m), vR 292 0] U12 ?_
            refine j_blx (F := fX11) tb_X11 (nn_ _) bk_X11_countLeft_e_127 bs_X11_countLeft_e_127 hz (fun K hK => ?_)
            refine rg_i (by omega) ?_
            refine iy_i (by omega) (by omega) ?_
            refine x_nm (fun U20 hU20 => ?_)
            have e21 := up_f hU20
            refine rg_i (by omega) ?_
            refine hK 59 [some (vR 111 0), some (vI c), some (vI (m + 1))] [] U20 ?_
            have e22 : U20 111 0 80 = T2 111 0 80 := (up_k hU20 (by exact Nat.ne_of_beq_eq_false rfl) 0 80).trans (up_k hU12 (by exact Nat.ne_of_beq_eq_false rfl) 0 80)
            refine ih_59 _ ?_ (m + 1) U20 (Nat.le_refl _) ?_ ?_ ?_ ?_ ?_
            · have hm_59 := hm_59 (); omega
            · exact fr_u (fr_u (fr_t (fr_0 _ _) (fr_s hf_59 rfl)) hU12 rfl) hU20 rfl
            · omega
            · exact PB6__f (ws := [(292, [])]) pb2 (fr_u (fr_u (fr_0 _ _) hU12 rfl) hU20 rfl) ⟨fun _ => rfl, trivial⟩
            · exact lb_m (lb_u (lb_u (lb2) hU12 (by omega)) hU20 (by omega)) (by omega)
            · exact ((up_k hU20 (by exact Nat.ne_of_beq_eq_false rfl) 0 80).trans (up_k hU12 (by exact Nat.ne_of_beq_eq_false rfl) 0 80)).trans su2
          · replace hx18 := hx18.resolve_right (fun z => c19 z.1)
            clear c19
            refine hK 128 [some (vR 111 0), some (vI c), some (vI m)] [vI 1, vI (U12 292 0 (T 233 0 m)), vI (T 233 0 m), vR 292 0] U12 ?_
            refine j_blx (F := fX11) tb_X11 (nn_ _) bk_X11_countLeft_e_128 bs_X11_countLeft_e_128 hz (fun K hK => ?_)
            refine rg_i (by omega) ?_
            refine iy_i (by omega) (by omega) ?_
            refine x_nm (fun U23 hU23 => ?_)
            have e24 := up_f hU23
            refine rg_i (by omega) ?_
            refine hK 59 [some (vR 111 0), some (vI c), some (vI (m + 1))] [] U23 ?_
            have e25 : U23 111 0 80 = T2 111 0 80 := (up_k hU23 (by exact Nat.ne_of_beq_eq_false rfl) 0 80).trans (up_k hU12 (by exact Nat.ne_of_beq_eq_false rfl) 0 80)
            refine ih_59 _ ?_ (m + 1) U23 (Nat.le_refl _) ?_ ?_ ?_ ?_ ?_
            · have hm_59 := hm_59 (); omega
            · exact fr_u (fr_u (fr_t (fr_0 _ _) (fr_s hf_59 rfl)) hU12 rfl) hU23 rfl
            · omega
            · exact PB6__f (ws := [(292, [])]) pb2 (fr_u (fr_u (fr_0 _ _) hU12 rfl) hU23 rfl) ⟨fun _ => rfl, trivial⟩
            · exact lb_m (lb_u (lb_u (lb2) hU12 (by omega)) hU23 (by omega)) (by omega)
            · exact ((up_k hU23 (by exact Nat.ne_of_beq_eq_false rfl) 0 80).trans (up_k hU12 (by exact Nat.ne_of_beq_eq_false rfl) 0 80)).trans su2
        · replace hx10 := hx10.resolve_right (fun z => c11 z.1)
          clear c11
          refine hK 101 _ [vI 1, vI (T2 292 0 (T 232 0 m)), vI (T 232 0 m), vR 292 0] T2 ?_
          refine j_blx (F := fX11) tb_X11 (nn_ _) bk_X11_countLeft_e_101 bs_X11_countLeft_e_101 hz (fun K hK => ?_)
          refine rg_i (by omega) ?_
          refine iy_i (by omega) (by omega) ?_
          refine x_nm (fun U26 hU26 => ?_)
          have e27 := up_f hU26
          refine ix_i (by omega) ?_
          intro b28 b28b
          have e29 : U26 233 0 m = T 233 0 m := (up_k hU26 (by exact Nat.ne_of_beq_eq_false rfl) 0 m).trans (hf_59 233 0 m rfl)
          rw [e29] at b28 b28b ⊢
          refine ix_i (by omega) ?_
          intro b30 b30b
          have t31 : 0 ≤ U26 292 0 (T 233 0 m) ∧ U26 292 0 (T 233 0 m) ≤ 2 * (m - T 210 0 c) + 1 := (lb_u (lb2) hU26 (by omega)) (T 233 0 m) (by omega) (by omega)
          refine hK 117 _ [vI m, vR 111 0, vI (U26 292 0 (T 233 0 m)), vI (T 233 0 m), vR 292 0] U26 ?_
          refine j_callV (y := yX11_isLeft) (Yc := zX11_isLeft) (rest := [vI (U26 292 0 (T 233 0 m)), vI (T 233 0 m), vR 292 0]) [vI m] (ct_X11_isLeft (T := U26) (by omega)) cl_X11_538 (qd_c (by decide +kernel)) (nn_ _) rfl (rf_of rfl) (Nat.le_of_ble_eq_true rfl) (Nat.le_of_ble_eq_true rfl) (Nat.le_of_ble_eq_true rfl) rfl ?_
          rintro _ _ ⟨rfl, x32, rfl, hx32⟩
          show J_ zX11_countLeft T (po_X11_countLeft_e T c) 0 0 120 _ [vI x32, vI (U26 292 0 (T 233 0 m)), vI (T 233 0 m), vR 292 0] U26
          refine j_blx (F := fX11) tb_X11 (nn_ _) bk_X11_countLeft_e_120 bs_X11_countLeft_e_120 hz (fun K hK => ?_)
          refine And.intro (fun c33 => ?_) (fun c33 => ?_)
          · replace hx32 := hx32.resolve_left (fun z => absurd (c33.symm.trans z.1) (by decide))
            clear c33
            refine hK 127 _ [vI (U26 292 0 (T 233 0 m)), vI (T 233 0 m), vR 292 0] U26 ?_
            refine j_blx (F := fX11) tb_X11 (nn_ _) bk_X11_countLeft_e_127 bs_X11_countLeft_e_127 hz (fun K hK => ?_)
            refine rg_i (by omega) ?_
            refine iy_i (by omega) (by omega) ?_
            refine x_nm (fun U34 hU34 => ?_)
            have e35 := up_f hU34
            refine rg_i (by omega) ?_
            refine hK 59 [some (vR 111 0), some (vI c), some (vI (m + 1))] [] U34 ?_
            have e36 : U34 111 0 80 = T2 111 0 80 := (up_k hU34 (by exact Nat.ne_of_beq_eq_false rfl) 0 80).trans (up_k hU26 (by exact Nat.ne_of_beq_eq_false rfl) 0 80)
            refine ih_59 _ ?_ (m + 1) U34 (Nat.le_refl _) ?_ ?_ ?_ ?_ ?_
            · have hm_59 := hm_59 (); omega
            · exact fr_u (fr_u (fr_t (fr_0 _ _) (fr_s hf_59 rfl)) hU26 rfl) hU34 rfl
            · omega
            · exact PB6__f (ws := [(292, [])]) pb2 (fr_u (fr_u (fr_0 _ _) hU26 rfl) hU34 rfl) ⟨fun _ => rfl, trivial⟩
            · exact lb_m (lb_u (lb_u (lb2) hU26 (by omega)) hU34 (by omega)) (by omega)
            · exact ((up_k hU34 (by exact Nat.ne_of_beq_eq_false rfl) 0 80).trans (up_k hU26 (by exact Nat.ne_of_beq_eq_false rfl) 0 80)).trans su2
          · replace hx32 := hx32.resolve_right (fun z => c33 z.1)
            clear c33
            refine hK 128 [some (vR 111 0), some (vI c), some (vI m)] [vI 1, vI (U26 292 0 (T 233 0 m)), vI (T 233 0 m), vR 292 0] U26 ?_
            refine j_blx (F := fX11) tb_X11 (nn_ _) bk_X11_countLeft_e_128 bs_X11_countLeft_e_128 hz (fun K hK => ?_)
            refine rg_i (by omega) ?_
            refine iy_i (by omega) (by omega) ?_
            refine x_nm (fun U37 hU37 => ?_)
            have e38 := up_f hU37
            refine rg_i (by omega) ?_
            refine hK 59 [some (vR 111 0), some (vI c), some (vI (m + 1))] [] U37 ?_
            have e39 : U37 111 0 80 = T2 111 0 80 := (up_k hU37 (by exact Nat.ne_of_beq_eq_false rfl) 0 80).trans (up_k hU26 (by exact Nat.ne_of_beq_eq_false rfl) 0 80)
            refine ih_59 _ ?_ (m + 1) U37 (Nat.le_refl _) ?_ ?_ ?_ ?_ ?_
            · have hm_59 := hm_59 (); omega
            · exact fr_u (fr_u (fr_t (fr_0 _ _) (fr_s hf_59 rfl)) hU26 rfl) hU37 rfl
            · omega
            · exact PB6__f (ws := [(292, [])]) pb2 (fr_u (fr_u (fr_0 _ _) hU26 rfl) hU37 rfl) ⟨fun _ => rfl, trivial⟩
            · exact lb_m (lb_u (lb_u (lb2) hU26 (by omega)) hU37 (by omega)) (by omega)
            · exact ((up_k hU37 (by exact Nat.ne_of_beq_eq_false rfl) 0 80).trans (up_k hU26 (by exact Nat.ne_of_beq_eq_false rfl) 0 80)).trans su2
  have c_15 : ∀ (nn : Nat) (i : Int) (T1 : Zt), ((12 - i).toNat) ≤ nn → (fr_ [(276, []), (291, []), (292, []), (111, [80, 82, 83])] T T1) → (0 ≤ i ∧ i ≤ 12) → (TB_ T1 150000000) → (∀ k, 0 ≤ k → k < i → -7500000 ≤ T1 291 0 k ∧ T1 291 0 k ≤ 7500000) → (∀ k, 0 ≤ k → k < i → T1 292 0 k = 0) → (T1 111 0 80 = 0) → J_ zX11_countLeft T (po_X11_countLeft_e T c) 0 0 15 [some (vR 111 0), some (vI c), some (vI i)] [] T1 := by
    intro nn
    induction nn using Nat.strongRecOn with
    | _ nn ih_15 =>
      intro i T1 hm_15 hf_15 i1 tb1 p1 l1 su1
      replace hm_15 := fun (_ : Unit) => hm_15
      refine j_blx (F := fX11) tb_X11 (nn_ _) bk_X11_countLeft_e_15 bs_X11_countLeft_e_15 hz (fun K hK => ?_)
      refine And.intro (fun c40 => ?_) (fun c40 => ?_)
      · refine hK 52 _ [] T1 ?_
        refine j_blx (F := fX11) tb_X11 (nn_ _) bk_X11_countLeft_e_52 bs_X11_countLeft_e_52 hz (fun K hK => ?_)
        refine ix_i (by omega) ?_
        intro b41 b41b
        have e42 : T1 210 0 c = T 210 0 c := hf_15 210 0 c rfl
        rw [e42] at b41 b41b ⊢
        refine hK 59 [some (vR 111 0), some (vI c), some (vI (T 210 0 c))] [] T1 ?_
        refine c_59 _ (T 210 0 c) T1 (Nat.le_refl _) ?_ ?_ ?_ ?_ ?_
        · exact fr_t (fr_0 _ _) (fr_s hf_15 rfl)
        · omega
        · exact fun k a b => p1 k a (by omega)
        · exact fun k a b => by have := l1 k a (by omega); omega
        · exact su1
      · refine rg_i (by omega) ?_
        refine rg_i (by omega) ?_
        refine ix_i (by omega) ?_
        intro b43 b43b
        refine iy_i (by omega) (by omega) ?_
        refine x_nm (fun U44 hU44 => ?_)
        have e45 := up_f hU44
        refine iy_i (by omega) (by omega) ?_
        refine x_nm (fun U46 hU46 => ?_)
        have e47 := up_f hU46
        refine rg_i (by omega) ?_
        refine hK 15 [some (vR 111 0), some (vI c), some (vI (i + 1))] [] U46 ?_
        have e48 : U46 111 0 80 = T1 111 0 80 := (up_k hU46 (by exact Nat.ne_of_beq_eq_false rfl) 0 80).trans (up_k hU44 (by exact Nat.ne_of_beq_eq_false rfl) 0 80)
        refine ih_15 _ ?_ (i + 1) U46 (Nat.le_refl _) ?_ ?_ ?_ ?_ ?_ ?_
        · have hm_15 := hm_15 (); omega
        · exact fr_u (fr_u (fr_t (fr_0 _ _) (fr_s hf_15 rfl)) hU44 rfl) hU46 rfl
        · omega
        · exact tb_f tb1 (fun j => (up_k hU46 (by exact Nat.ne_of_beq_eq_false rfl) 0 j).trans (up_k hU44 (by exact Nat.ne_of_beq_eq_false rfl) 0 j))
        · intro j a b
          by_cases z : j = i
          · have e9 : U46 291 0 j = T1 276 0 ((9 * i) + 6) := by rw [z]; exact (up_k hU46 (by exact Nat.ne_of_beq_eq_false rfl) 0 i).trans (up_f hU44)
            have := tb1 (9 * i + 6) (by omega) (by omega)
            omega
          · rw [(up_k hU46 (by exact Nat.ne_of_beq_eq_false rfl) 0 j).trans (up_g hU44 (by omega))]; exact p1 j a (by omega)
        · intro j a b
          by_cases z : j = i
          · have e9 : U46 292 0 j = 0 := by rw [z]; exact (rfl).trans (up_f hU46)
            have := tb1 (9 * i + 6) (by omega) (by omega)
            omega
          · rw [(up_g hU46 (by omega)).trans (up_k hU44 (by exact Nat.ne_of_beq_eq_false rfl) 0 j)]; exact l1 j a (by omega)
        · exact ((up_k hU46 (by exact Nat.ne_of_beq_eq_false rfl) 0 80).trans (up_k hU44 (by exact Nat.ne_of_beq_eq_false rfl) 0 80)).trans su1
  refine j_blx (F := fX11) tb_X11 (nn_ _) bk_X11_countLeft_e_0 bs_X11_countLeft_e_0 hz (fun K hK => ?_)
  refine bd_i (by omega) ?_
  refine x_nm (fun U49 hU49 => ?_)
  have e50 := up_f hU49
  refine hK 10 _ [vI 999, vI c, vR 111 0] U49 ?_
  refine j_callV (y := yX11_tellAll) (Yc := zX11_tellAll) (rest := []) [vI c, vI 999] (ct_X11_tellAll (T := U49) (by omega) (ML__f (ws := [(111, [80])]) hml (fr_u (fr_0 _ _) hU49 rfl) ⟨fun _ => rfl, fun _ => rfl, rfl, trivial⟩) (SC__f (ws := [(111, [80])]) hsc (fr_u (fr_0 _ _) hU49 rfl) ⟨fun _ => rfl, fun _ => rfl, trivial⟩) (YB__f (ws := [(111, [80])]) hyb (fr_u (fr_0 _ _) hU49 rfl) ⟨fun _ => rfl, trivial⟩)) cl_X11_514 (qd_c (by decide +kernel)) (nn_ _) rfl (rf_of rfl) (Nat.le_of_ble_eq_true rfl) (Nat.le_of_ble_eq_true rfl) (Nat.le_of_ble_eq_true rfl) rfl ?_
  rintro U51 _ ⟨rfl, fU51, qU51⟩
  show J_ zX11_countLeft T (po_X11_countLeft_e T c) 0 0 13 _ [] U51
  refine j_blx (F := fX11) tb_X11 (nn_ _) bk_X11_countLeft_e_13 bs_X11_countLeft_e_13 hz (fun K hK => ?_)
  refine hK 15 [some (vR 111 0), some (vI c), some (vI 0)] [] U51 ?_
  have e52 : U51 111 0 80 = 0 := (fU51 111 0 80 rfl).trans (up_f hU49)
  refine c_15 _ 0 U51 (Nat.le_refl _) ?_ ?_ ?_ ?_ ?_ ?_
  · exact fr_t (fr_u (fr_0 _ _) hU49 rfl) (fr_s fU51 rfl)
  · omega
  · exact qU51
  · intro j a b; omega
  · intro j a b; omega
  · exact (fU51 111 0 80 rfl).trans (up_f hU49)
theorem bk_X11_can_e_48 : ck_ fX11 (some .int) cX11_can 48 [.iload 3, .aload 0, .tableswitch 0 11 29 #[], .if_icmp .ge 69, .aload 0, .tableswitch 0 11 89 #[], .iload 3, .iconst (-1), .iastore, .iinc 3 1, .goto 48] 69 = true := qck_r (nn_ _) (by decide +kernel)
theorem bs_X11_can_e_48 {P : Zt → Option Zv → Prop} (K : Int → Zl → List Zv → Zt → Prop) : sx_ K P [.iload 3, .aload 0, .tableswitch 0 11 29 #[], .if_icmp .ge 69, .aload 0, .tableswitch 0 11 89 #[], .iload 3, .iconst (-1), .iastore, .iinc 3 1, .goto 48] 69 = x_iload 3 (x_aload 0 (x_g0 111 29 0 400 (x_if_icmp .ge 69 K (x_aload 0 (x_g1 111 289 (x_iload 3 (x_iconst (-1) (x_iastore (x_iinc 3 1 (x_goto 48 K)))))))))) := ((xe_iload 3).trans (congrArg (x_iload 3) ((xe_aload 0).trans (congrArg (x_aload 0) ((xe_g0 (kk := 111) rfl tl_11_29).trans (congrArg (x_g0 111 29 0 400) ((xe_if_icmp .ge 69).trans (congrArg (x_if_icmp .ge 69 K) ((xe_aload 0).trans (congrArg (x_aload 0) ((xe_g1 (kk := 111) rfl tl_11_89).trans (congrArg (x_g1 111 289) ((xe_iload 3).trans (congrArg (x_iload 3) ((xe_iconst (-1)).trans (congrArg (x_iconst (-1)) ((xe_iastore).trans (congrArg (x_iastore) ((xe_iinc 3 1).trans (congrArg (x_iinc 3 1) (xe_goto 48)))))))))))))))))))))
theorem bk_X11_can_e_69 : ck_ fX11 (some .int) cX11_can 69 [.aload 0, .iconst 0, .tableswitch 1 11 90 #[], .aload 0, .iload 1] 76 = true := qck_r (nn_ _) (by decide +kernel)
theorem bs_X11_can_e_69 {P : Zt → Option Zv → Prop} (K : Int → Zl → List Zv → Zt → Prop) : sx_ K P [.aload 0, .iconst 0, .tableswitch 1 11 90 #[], .aload 0, .iload 1] 76 = x_aload 0 (x_iconst 0 (x_p 111 90 0 4095 (x_aload 0 (x_iload 1 (K 76))))) := ((xe_aload 0).trans (congrArg (x_aload 0) ((xe_iconst 0).trans (congrArg (x_iconst 0) ((xe_p (kk := 111) rfl tl_11_90).trans (congrArg (x_p 111 90 0 4095) ((xe_aload 0).trans (congrArg (x_aload 0) ((xe_iload 1).trans (congrArg (x_iload 1) xe_nil))))))))))
theorem bk_X11_can_e_79 : ck_ fX11 (some .int) cX11_can 79 [.aload 0, .aload 0, .tableswitch 0 11 91 #[], .iload 2, .iaload, .aload 0, .iload 1, .iconst 1] 89 = true := qck_r (nn_ _) (by decide +kernel)
theorem bs_X11_can_e_79 {P : Zt → Option Zv → Prop} (K : Int → Zl → List Zv → Zt → Prop) : sx_ K P [.aload 0, .aload 0, .tableswitch 0 11 91 #[], .iload 2, .iaload, .aload 0, .iload 1, .iconst 1] 89 = x_aload 0 (x_aload 0 (x_g1 111 291 (x_iload 2 (x_iaload (x_aload 0 (x_iload 1 (x_iconst 1 (K 89)))))))) := ((xe_aload 0).trans (congrArg (x_aload 0) ((xe_aload 0).trans (congrArg (x_aload 0) ((xe_g1 (kk := 111) rfl tl_11_91).trans (congrArg (x_g1 111 291) ((xe_iload 2).trans (congrArg (x_iload 2) ((xe_iaload).trans (congrArg (x_iaload) ((xe_aload 0).trans (congrArg (x_aload 0) ((xe_iload 1).trans (congrArg (x_iload 1) ((xe_iconst 1).trans (congrArg (x_iconst 1) xe_nil))))))))))))))))
theorem bk_X11_can_e_92 : ck_ fX11 (some .int) cX11_can 92 [.aload 0, .tableswitch 0 11 92 #[], .iload 2, .iaload, .imul, .iadd, .tableswitch 1 11 95 #[], .aload 0, .iload 1, .iconst 1] 106 = true := qck_r (nn_ _) (by decide +kernel)
theorem bs_X11_can_e_92 {P : Zt → Option Zv → Prop} (K : Int → Zl → List Zv → Zt → Prop) : sx_ K P [.aload 0, .tableswitch 0 11 92 #[], .iload 2, .iaload, .imul, .iadd, .tableswitch 1 11 95 #[], .aload 0, .iload 1, .iconst 1] 106 = x_aload 0 (x_g1 111 292 (x_iload 2 (x_iaload (x_imul (x_iadd (x_p 111 95 (-2147483648) 2147483647 (x_aload 0 (x_iload 1 (x_iconst 1 (K 106)))))))))) := ((xe_aload 0).trans (congrArg (x_aload 0) ((xe_g1 (kk := 111) rfl tl_11_92).trans (congrArg (x_g1 111 292) ((xe_iload 2).trans (congrArg (x_iload 2) ((xe_iaload).trans (congrArg (x_iaload) ((xe_imul).trans (congrArg (x_imul) ((xe_iadd).trans (congrArg (x_iadd) ((xe_p (kk := 111) rfl tl_11_95).trans (congrArg (x_p 111 95 (-2147483648) 2147483647) ((xe_aload 0).trans (congrArg (x_aload 0) ((xe_iload 1).trans (congrArg (x_iload 1) ((xe_iconst 1).trans (congrArg (x_iconst 1) xe_nil))))))))))))))))))))
theorem bk_X11_can_e_109 : ck_ fX11 (some .int) cX11_can 109 [.aload 0, .iload 1, .iconst 3] 112 = true := qck_r (nn_ _) (by decide +kernel)
theorem bs_X11_can_e_109 {P : Zt → Option Zv → Prop} (K : Int → Zl → List Zv → Zt → Prop) : sx_ K P [.aload 0, .iload 1, .iconst 3] 112 = x_aload 0 (x_iload 1 (x_iconst 3 (K 112))) := ((xe_aload 0).trans (congrArg (x_aload 0) ((xe_iload 1).trans (congrArg (x_iload 1) ((xe_iconst 3).trans (congrArg (x_iconst 3) xe_nil))))))
theorem bk_X11_can_e_115 : ck_ fX11 (some .int) cX11_can 115 [.iadd, .iconst 2, .aload 0, .iload 1, .iconst 2] 120 = true := qck_r (nn_ _) (by decide +kernel)
theorem bs_X11_can_e_115 {P : Zt → Option Zv → Prop} (K : Int → Zl → List Zv → Zt → Prop) : sx_ K P [.iadd, .iconst 2, .aload 0, .iload 1, .iconst 2] 120 = x_iadd (x_iconst 2 (x_aload 0 (x_iload 1 (x_iconst 2 (K 120))))) := ((xe_iadd).trans (congrArg (x_iadd) ((xe_iconst 2).trans (congrArg (x_iconst 2) ((xe_aload 0).trans (congrArg (x_aload 0) ((xe_iload 1).trans (congrArg (x_iload 1) ((xe_iconst 2).trans (congrArg (x_iconst 2) xe_nil))))))))))
theorem bk_X11_can_e_123 : ck_ fX11 (some .int) cX11_can 123 [.imul, .if_icmp .ne 131, .iconst 1, .goto 132] 131 = true := qck_r (nn_ _) (by decide +kernel)
theorem bs_X11_can_e_123 {P : Zt → Option Zv → Prop} (K : Int → Zl → List Zv → Zt → Prop) : sx_ K P [.imul, .if_icmp .ne 131, .iconst 1, .goto 132] 131 = x_imul (x_if_icmp .ne 131 K (x_iconst 1 (x_goto 132 K))) := ((xe_imul).trans (congrArg (x_imul) ((xe_if_icmp .ne 131).trans (congrArg (x_if_icmp .ne 131 K) ((xe_iconst 1).trans (congrArg (x_iconst 1) (xe_goto 132)))))))
theorem bk_X11_can_e_131 : ck_ fX11 (some .int) cX11_can 131 [.iconst 0, .istore 3, .iload 3, .ifCond .eq 152, .aload 0, .iload 1, .iload 2, .aload 0, .iload 1, .iload 2] 143 = true := qck_r (nn_ _) (by decide +kernel)
theorem bs_X11_can_e_131 {P : Zt → Option Zv → Prop} (K : Int → Zl → List Zv → Zt → Prop) : sx_ K P [.iconst 0, .istore 3, .iload 3, .ifCond .eq 152, .aload 0, .iload 1, .iload 2, .aload 0, .iload 1, .iload 2] 143 = x_iconst 0 (x_istore 3 (x_iload 3 (x_ifCond .eq 152 K (x_aload 0 (x_iload 1 (x_iload 2 (x_aload 0 (x_iload 1 (x_iload 2 (K 143)))))))))) := ((xe_iconst 0).trans (congrArg (x_iconst 0) ((xe_istore 3).trans (congrArg (x_istore 3) ((xe_iload 3).trans (congrArg (x_iload 3) ((xe_ifCond .eq 152).trans (congrArg (x_ifCond .eq 152 K) ((xe_aload 0).trans (congrArg (x_aload 0) ((xe_iload 1).trans (congrArg (x_iload 1) ((xe_iload 2).trans (congrArg (x_iload 2) ((xe_aload 0).trans (congrArg (x_aload 0) ((xe_iload 1).trans (congrArg (x_iload 1) ((xe_iload 2).trans (congrArg (x_iload 2) xe_nil))))))))))))))))))))
theorem bk_X11_can_e_152 : ck_ fX11 (some .int) cX11_can 152 [.aload 0, .iload 1, .iload 2] 155 = true := qck_r (nn_ _) (by decide +kernel)
theorem bs_X11_can_e_152 {P : Zt → Option Zv → Prop} (K : Int → Zl → List Zv → Zt → Prop) : sx_ K P [.aload 0, .iload 1, .iload 2] 155 = x_aload 0 (x_iload 1 (x_iload 2 (K 155))) := ((xe_aload 0).trans (congrArg (x_aload 0) ((xe_iload 1).trans (congrArg (x_iload 1) ((xe_iload 2).trans (congrArg (x_iload 2) xe_nil))))))
theorem bk_X11_can_e_158 : ck_ fX11 (some .int) cX11_can 158 [.istore 4, .aload 0, .iload 4, .iconst 1, .if_icmp .ne 171, .iload 1, .goto 172] 171 = true := qck_r (nn_ _) (by decide +kernel)
theorem bs_X11_can_e_158 {P : Zt → Option Zv → Prop} (K : Int → Zl → List Zv → Zt → Prop) : sx_ K P [.istore 4, .aload 0, .iload 4, .iconst 1, .if_icmp .ne 171, .iload 1, .goto 172] 171 = x_istore 4 (x_aload 0 (x_iload 4 (x_iconst 1 (x_if_icmp .ne 171 K (x_iload 1 (x_goto 172 K)))))) := ((xe_istore 4).trans (congrArg (x_istore 4) ((xe_aload 0).trans (congrArg (x_aload 0) ((xe_iload 4).trans (congrArg (x_iload 4) ((xe_iconst 1).trans (congrArg (x_iconst 1) ((xe_if_icmp .ne 171).trans (congrArg (x_if_icmp .ne 171 K) ((xe_iload 1).trans (congrArg (x_iload 1) (xe_goto 172)))))))))))))
theorem bk_X11_can_e_171 : ck_ fX11 (some .int) cX11_can 171 [.iconst (-1), .tableswitch 1 11 88 #[], .iload 4, .ireturn] 178 = true := qck_r (nn_ _) (by decide +kernel)
theorem bs_X11_can_e_171 {P : Zt → Option Zv → Prop} (K : Int → Zl → List Zv → Zt → Prop) : sx_ K P [.iconst (-1), .tableswitch 1 11 88 #[], .iload 4, .ireturn] 178 = x_iconst (-1) (x_p 111 88 (-1) 3 (x_iload 4 (x_ireturn P))) := ((xe_iconst (-1)).trans (congrArg (x_iconst (-1)) ((xe_p (kk := 111) rfl tl_11_88).trans (congrArg (x_p 111 88 (-1) 3) ((xe_iload 4).trans (congrArg (x_iload 4) (xe_ireturn)))))))
theorem bk_X11_can_e_172 : ck_ fX11 (some .int) cX11_can 172 [.tableswitch 1 11 88 #[], .iload 4, .ireturn] 178 = true := qck_r (nn_ _) (by decide +kernel)
theorem bs_X11_can_e_172 {P : Zt → Option Zv → Prop} (K : Int → Zl → List Zv → Zt → Prop) : sx_ K P [.tableswitch 1 11 88 #[], .iload 4, .ireturn] 178 = x_p 111 88 (-1) 3 (x_iload 4 (x_ireturn P)) := ((xe_p (kk := 111) rfl tl_11_88).trans (congrArg (x_p 111 88 (-1) 3) ((xe_iload 4).trans (congrArg (x_iload 4) (xe_ireturn)))))
theorem bk_X11_can_e_132 : ck_ fX11 (some .int) cX11_can 132 [.istore 3, .iload 3, .ifCond .eq 152, .aload 0, .iload 1, .iload 2, .aload 0, .iload 1, .iload 2] 143 = true := qck_r (nn_ _) (by decide +kernel)
theorem bs_X11_can_e_132 {P : Zt → Option Zv → Prop} (K : Int → Zl → List Zv → Zt → Prop) : sx_ K P [.istore 3, .iload 3, .ifCond .eq 152, .aload 0, .iload 1, .iload 2, .aload 0, .iload 1, .iload 2] 143 = x_istore 3 (x_iload 3 (x_ifCond .eq 152 K (x_aload 0 (x_iload 1 (x_iload 2 (x_aload 0 (x_iload 1 (x_iload 2 (K 143))))))))) := ((xe_istore 3).trans (congrArg (x_istore 3) ((xe_iload 3).trans (congrArg (x_iload 3) ((xe_ifCond .eq 152).trans (congrArg (x_ifCond .eq 152 K) ((xe_aload 0).trans (congrArg (x_aload 0) ((xe_iload 1).trans (congrArg (x_iload 1) ((xe_iload 2).trans (congrArg (x_iload 2) ((xe_aload 0).trans (congrArg (x_aload 0) ((xe_iload 1).trans (congrArg (x_iload 1) ((xe_iload 2).trans (congrArg (x_iload 2) xe_nil))))))))))))))))))
theorem bk_X11_can_e_149 : ck_ fX11 (some .int) cX11_can 149 [.goto 158] 152 = true := qck_r (nn_ _) (by decide +kernel)
theorem bs_X11_can_e_149 {P : Zt → Option Zv → Prop} (K : Int → Zl → List Zv → Zt → Prop) : sx_ K P [.goto 158] 152 = x_goto 158 K := (xe_goto 158)
theorem bk_X11_can_e_0 : ck_ fX11 (some .int) cX11_can 0 [.iload 1, .aload 0, .tableswitch 0 11 6 #[]] 5 = true := qck_r (nn_ _) (by decide +kernel)
theorem bs_X11_can_e_0 {P : Zt → Option Zv → Prop} (K : Int → Zl → List Zv → Zt → Prop) : sx_ K P [.iload 1, .aload 0, .tableswitch 0 11 6 #[]] 5 = x_iload 1 (x_aload 0 (x_g0 111 6 0 4 (K 5))) := ((xe_iload 1).trans (congrArg (x_iload 1) ((xe_aload 0).trans (congrArg (x_aload 0) ((xe_g0 (kk := 111) rfl tl_11_6).trans (congrArg (x_g0 111 6 0 4) xe_nil))))))
theorem bk_X11_can_e_8 : ck_ fX11 (some .int) cX11_can 8 [.ifCond .eq 22, .iload 2, .aload 0, .tableswitch 0 11 12 #[]] 16 = true := qck_r (nn_ _) (by decide +kernel)
theorem bs_X11_can_e_8 {P : Zt → Option Zv → Prop} (K : Int → Zl → List Zv → Zt → Prop) : sx_ K P [.ifCond .eq 22, .iload 2, .aload 0, .tableswitch 0 11 12 #[]] 16 = x_ifCond .eq 22 K (x_iload 2 (x_aload 0 (x_g0 111 12 0 12 (K 16)))) := ((xe_ifCond .eq 22).trans (congrArg (x_ifCond .eq 22 K) ((xe_iload 2).trans (congrArg (x_iload 2) ((xe_aload 0).trans (congrArg (x_aload 0) ((xe_g0 (kk := 111) rfl tl_11_12).trans (congrArg (x_g0 111 12 0 12) xe_nil))))))))
theorem bk_X11_can_e_22 : ck_ fX11 (some .int) cX11_can 22 [.iconst (-2), .ireturn] 25 = true := qck_r (nn_ _) (by decide +kernel)
theorem bs_X11_can_e_22 {P : Zt → Option Zv → Prop} (K : Int → Zl → List Zv → Zt → Prop) : sx_ K P [.iconst (-2), .ireturn] 25 = x_iconst (-2) (x_ireturn P) := ((xe_iconst (-2)).trans (congrArg (x_iconst (-2)) (xe_ireturn)))
theorem bk_X11_can_e_19 : ck_ fX11 (some .int) cX11_can 19 [.ifCond .ne 25, .iconst (-2), .ireturn] 25 = true := qck_r (nn_ _) (by decide +kernel)
theorem bs_X11_can_e_19 {P : Zt → Option Zv → Prop} (K : Int → Zl → List Zv → Zt → Prop) : sx_ K P [.ifCond .ne 25, .iconst (-2), .ireturn] 25 = x_ifCond .ne 25 K (x_iconst (-2) (x_ireturn P)) := ((xe_ifCond .ne 25).trans (congrArg (x_ifCond .ne 25 K) ((xe_iconst (-2)).trans (congrArg (x_iconst (-2)) (xe_ireturn)))))
theorem bk_X11_can_e_25 : ck_ fX11 (some .int) cX11_can 25 [.aload 0, .tableswitch 0 11 9 #[], .iload 1, .baload, .ifCond .eq 43, .aload 0, .iload 1, .iload 2] 37 = true := qck_r (nn_ _) (by decide +kernel)
theorem bs_X11_can_e_25 {P : Zt → Option Zv → Prop} (K : Int → Zl → List Zv → Zt → Prop) : sx_ K P [.aload 0, .tableswitch 0 11 9 #[], .iload 1, .baload, .ifCond .eq 43, .aload 0, .iload 1, .iload 2] 37 = x_aload 0 (x_g1 111 209 (x_iload 1 (x_baload (x_ifCond .eq 43 K (x_aload 0 (x_iload 1 (x_iload 2 (K 37)))))))) := ((xe_aload 0).trans (congrArg (x_aload 0) ((xe_g1 (kk := 111) rfl tl_11_9).trans (congrArg (x_g1 111 209) ((xe_iload 1).trans (congrArg (x_iload 1) ((xe_baload).trans (congrArg (x_baload) ((xe_ifCond .eq 43).trans (congrArg (x_ifCond .eq 43 K) ((xe_aload 0).trans (congrArg (x_aload 0) ((xe_iload 1).trans (congrArg (x_iload 1) ((xe_iload 2).trans (congrArg (x_iload 2) xe_nil))))))))))))))))
theorem bk_X11_can_e_43 : ck_ fX11 (some .int) cX11_can 43 [.iconst (-4), .ireturn] 46 = true := qck_r (nn_ _) (by decide +kernel)
theorem bs_X11_can_e_43 {P : Zt → Option Zv → Prop} (K : Int → Zl → List Zv → Zt → Prop) : sx_ K P [.iconst (-4), .ireturn] 46 = x_iconst (-4) (x_ireturn P) := ((xe_iconst (-4)).trans (congrArg (x_iconst (-4)) (xe_ireturn)))
theorem bk_X11_can_e_40 : ck_ fX11 (some .int) cX11_can 40 [.ifCond .ne 46, .iconst (-4), .ireturn] 46 = true := qck_r (nn_ _) (by decide +kernel)
theorem bs_X11_can_e_40 {P : Zt → Option Zv → Prop} (K : Int → Zl → List Zv → Zt → Prop) : sx_ K P [.ifCond .ne 46, .iconst (-4), .ireturn] 46 = x_ifCond .ne 46 K (x_iconst (-4) (x_ireturn P)) := ((xe_ifCond .ne 46).trans (congrArg (x_ifCond .ne 46 K) ((xe_iconst (-4)).trans (congrArg (x_iconst (-4)) (xe_ireturn)))))
theorem bk_X11_can_e_46 : ck_ fX11 (some .int) cX11_can 46 [.iconst 0, .istore 3] 48 = true := qck_r (nn_ _) (by decide +kernel)
theorem bs_X11_can_e_46 {P : Zt → Option Zv → Prop} (K : Int → Zl → List Zv → Zt → Prop) : sx_ K P [.iconst 0, .istore 3] 48 = x_iconst 0 (x_istore 3 (K 48)) := ((xe_iconst 0).trans (congrArg (x_iconst 0) ((xe_istore 3).trans (congrArg (x_istore 3) xe_nil))))
abbrev po_X11_can_e (T : Zt) (c cl : Int) : Zt → Option Zv → Prop := fun T' r => ∃ x : Int, r = some (vI x) ∧ fr_ [(276, []), (291, []), (292, []), (293, []), (294, []), (296, []), (289, []), (297, []), (111, [80, 82, 83, 90, 95, 88])] T T' ∧ (T 111 0 80 = 0 → T' 111 0 80 = 0)
set_option maxHeartbeats 4000000 in
theorem ct_X11_can_e {T : Zt} {c cl : Int} (hri : RI_ T) (hrw : RW_ T) (hml : ML_ T) (hsc : SC_ T) (hyb : YB_ T) : Ct_ yX11_can zX11_can T [vR 111 0, vI c, vI cl] (po_X11_can_e T c cl) := by
  refine ct_of pn_11 rfl rfl (Nat.le_of_ble_eq_true rfl) (fun hT hav => ?_)
  have hr_c : -2147483648 ≤ c ∧ c ≤ 2147483647 := hav (vI c) (List.mem_cons_of_mem _ List.mem_cons_self)
  have hr_cl : -2147483648 ≤ cl ∧ cl ≤ 2147483647 := hav (vI cl) (List.mem_cons_of_mem _ (List.mem_cons_of_mem _ List.mem_cons_self))
  have hz : zX11_can.2.2.2.1 = some .boolean → ∀ (T' : Zt) (x : Int), po_X11_can_e T c cl T' (some (vI x)) → 0 ≤ x ∧ x ≤ 1 := fun h => by cases h
  have hb_6 : 0 ≤ T 111 0 6 ∧ T 111 0 6 ≤ 4 := bd_f hT 111 6 tl_11_6 0
  have hb_12 : 0 ≤ T 111 0 12 ∧ T 111 0 12 ≤ 12 := bd_f hT 111 12 tl_11_12 0
  have hb_29 : 0 ≤ T 111 0 29 ∧ T 111 0 29 ≤ 400 := bd_f hT 111 29 tl_11_29 0
  show J_ zX11_can T (po_X11_can_e T c cl) 0 0 0 [some (vR 111 0), some (vI c), some (vI cl), none, none] [] T
  have c_48 : ∀ (nn : Nat) (i : Int) (T1 : Zt), ((400 - i).toNat) ≤ nn → (fr_ [(289, [])] T T1) → (0 ≤ i ∧ i ≤ 400 ∧ 0 ≤ c ∧ c < T 111 0 6 ∧ 0 ≤ cl ∧ cl < T 111 0 12) → J_ zX11_can T (po_X11_can_e T c cl) 0 0 48 [some (vR 111 0), some (vI c), some (vI cl), some (vI i), none] [] T1 := by
    intro nn
    induction nn using Nat.strongRecOn with
    | _ nn ih_48 =>
      intro i T1 hm_48 hf_48 i1
      replace hm_48 := fun (_ : Unit) => hm_48
      have hr1 : (0 : Int) ≤ T 205 0 (23 * c + 1) ∧ T 205 0 (23 * c + 1) ≤ (9 : Int) := hri c 1 (by omega) (by omega) (by omega) (by omega)
      have hr2 : (0 : Int) ≤ T 205 0 (23 * c + 2) ∧ T 205 0 (23 * c + 2) ≤ (9 : Int) := hri c 2 (by omega) (by omega) (by omega) (by omega)
      have hr3 : (0 : Int) ≤ T 205 0 (23 * c + 3) ∧ T 205 0 (23 * c + 3) ≤ (9 : Int) := hri c 3 (by omega) (by omega) (by omega) (by omega)
      refine j_blx (F := fX11) tb_X11 (nn_ _) bk_X11_can_e_48 bs_X11_can_e_48 hz (fun K hK => ?_)
      intro b1 b1b
      have e2 : T1 111 0 29 = T 111 0 29 := hf_48 111 0 29 rfl
      rw [e2] at b1 b1b ⊢
      refine And.intro (fun c3 => ?_) (fun c3 => ?_)
      · refine hK 69 _ [] T1 ?_
        refine j_blx (F := fX11) tb_X11 (nn_ _) bk_X11_can_e_69 bs_X11_can_e_69 hz (fun K hK => ?_)
        refine bd_i (by omega) ?_
        refine x_nm (fun U4 hU4 => ?_)
        have e5 := up_f hU4
        refine hK 76 _ [vI c, vR 111 0] U4 ?_
        refine j_callV (y := yX11_countLeft) (Yc := zX11_countLeft) (rest := []) [vI c] (ct_X11_countLeft_e (T := U4) (by omega) (ML__f (ws := [(111, [90]), (289, [])]) hml (fr_u (fr_t (fr_0 _ _) (fr_s hf_48 rfl)) hU4 rfl) ⟨fun _ => rfl, fun _ => rfl, rfl, trivial⟩) (SC__f (ws := [(111, [90]), (289, [])]) hsc (fr_u (fr_t (fr_0 _ _) (fr_s hf_48 rfl)) hU4 rfl) ⟨fun _ => rfl, fun _ => rfl, trivial⟩) (YB__f (ws := [(111, [90]), (289, [])]) hyb (fr_u (fr_t (fr_0 _ _) (fr_s hf_48 rfl)) hU4 rfl) ⟨fun _ => rfl, trivial⟩)) cl_X11_564 (qd_c (by decide +kernel)) (nn_ _) rfl (rf_of rfl) (Nat.le_of_ble_eq_true rfl) (Nat.le_of_ble_eq_true rfl) (Nat.le_of_ble_eq_true rfl) rfl ?_
        rintro U6 _ ⟨rfl, fU6, ⟨qU6a, qU6b, qU6c⟩⟩
        show J_ zX11_can T (po_X11_can_e T c cl) 0 0 79 _ [] U6
        refine j_blx (F := fX11) tb_X11 (nn_ _) bk_X11_can_e_79 bs_X11_can_e_79 hz (fun K hK => ?_)
        refine ix_i (by omega) ?_
        intro b7 b7b
        refine hK 89 _ [vI 1, vI c, vR 111 0, vI (U6 291 0 cl), vR 111 0] U6 ?_
        refine j_callV (y := yX11_rule0) (Yc := zX11_rule0) (rest := [vI (U6 291 0 cl), vR 111 0]) [vI c, vI 1] (ct_X11_rule0 (T := U6) (by omega) (by omega)) cl_X11_321 (qd_c (by decide +kernel)) (nn_ _) rfl (rf_of rfl) (Nat.le_of_ble_eq_true rfl) (Nat.le_of_ble_eq_true rfl) (Nat.le_of_ble_eq_true rfl) rfl ?_
        rintro _ _ ⟨rfl, rfl⟩
        have e8 : U6 205 0 (23 * c + 1) = T 205 0 (23 * c + 1) := (fU6 205 0 (23 * c + 1) rfl).trans ((up_k hU4 (by exact Nat.ne_of_beq_eq_false rfl) 0 (23 * c + 1)).trans (hf_48 205 0 (23 * c + 1) rfl))
        show J_ zX11_can T (po_X11_can_e T c cl) 0 0 92 _ [vI (U6 205 0 (23 * c + 1)), vI (U6 291 0 cl), vR 111 0] U6
        refine j_blx (F := fX11) tb_X11 (nn_ _) bk_X11_can_e_92 bs_X11_can_e_92 hz (fun K hK => ?_)
        refine ix_i (by omega) ?_
        intro b9 b9b
        have hlk := qU6b cl (by omega) (by omega)
        have hpk := qU6a cl (by omega) (by omega)
        have hmb := mul_b (x := U6 205 0 (23 * c + 1)) (y := U6 292 0 cl) (by omega) (by omega)
        refine rg_i (by omega) ?_
        refine rg_i (by omega) ?_
        refine bd_i (by omega) ?_
        refine x_nm (fun U10 hU10 => ?_)
        have e11 := up_f hU10
        refine hK 106 _ [vI 1, vI c, vR 111 0] U10 ?_
        refine j_callV (y := yX11_rule0) (Yc := zX11_rule0) (rest := []) [vI c, vI 1] (ct_X11_rule0 (T := U10) (by omega) (by omega)) cl_X11_321 (qd_c (by decide +kernel)) (nn_ _) rfl (rf_of rfl) (Nat.le_of_ble_eq_true rfl) (Nat.le_of_ble_eq_true rfl) (Nat.le_of_ble_eq_true rfl) rfl ?_
        rintro _ _ ⟨rfl, rfl⟩
        have e12 : U10 205 0 (23 * c + 1) = T 205 0 (23 * c + 1) := (up_k hU10 (by exact Nat.ne_of_beq_eq_false rfl) 0 (23 * c + 1)).trans ((fU6 205 0 (23 * c + 1) rfl).trans ((up_k hU4 (by exact Nat.ne_of_beq_eq_false rfl) 0 (23 * c + 1)).trans (hf_48 205 0 (23 * c + 1) rfl)))
        show J_ zX11_can T (po_X11_can_e T c cl) 0 0 109 _ [vI (U10 205 0 (23 * c + 1))] U10
        refine j_blx (F := fX11) tb_X11 (nn_ _) bk_X11_can_e_109 bs_X11_can_e_109 hz (fun K hK => ?_)
        refine hK 112 _ [vI 3, vI c, vR 111 0, vI (U10 205 0 (23 * c + 1))] U10 ?_
        refine j_callV (y := yX11_rule0) (Yc := zX11_rule0) (rest := [vI (U10 205 0 (23 * c + 1))]) [vI c, vI 3] (ct_X11_rule0 (T := U10) (by omega) (by omega)) cl_X11_321 (qd_c (by decide +kernel)) (nn_ _) rfl (rf_of rfl) (Nat.le_of_ble_eq_true rfl) (Nat.le_of_ble_eq_true rfl) (Nat.le_of_ble_eq_true rfl) rfl ?_
        rintro _ _ ⟨rfl, rfl⟩
        have e13 : U10 205 0 (23 * c + 3) = T 205 0 (23 * c + 3) := (up_k hU10 (by exact Nat.ne_of_beq_eq_false rfl) 0 (23 * c + 3)).trans ((fU6 205 0 (23 * c + 3) rfl).trans ((up_k hU4 (by exact Nat.ne_of_beq_eq_false rfl) 0 (23 * c + 3)).trans (hf_48 205 0 (23 * c + 3) rfl)))
        show J_ zX11_can T (po_X11_can_e T c cl) 0 0 115 _ [vI (U10 205 0 (23 * c + 3)), vI (U10 205 0 (23 * c + 1))] U10
        refine j_blx (F := fX11) tb_X11 (nn_ _) bk_X11_can_e_115 bs_X11_can_e_115 hz (fun K hK => ?_)
        refine rg_i (by omega) ?_
        refine hK 120 _ [vI 2, vI c, vR 111 0, vI 2, vI ((U10 205 0 (23 * c + 1)) + (U10 205 0 (23 * c + 3)))] U10 ?_
        refine j_callV (y := yX11_rule0) (Yc := zX11_rule0) (rest := [vI 2, vI ((U10 205 0 (23 * c + 1)) + (U10 205 0 (23 * c + 3)))]) [vI c, vI 2] (ct_X11_rule0 (T := U10) (by omega) (by omega)) cl_X11_321 (qd_c (by decide +kernel)) (nn_ _) rfl (rf_of rfl) (Nat.le_of_ble_eq_true rfl) (Nat.le_of_ble_eq_true rfl) (Nat.le_of_ble_eq_true rfl) rfl ?_
        rintro _ _ ⟨rfl, rfl⟩
        have e14 : U10 205 0 (23 * c + 2) = T 205 0 (23 * c + 2) := (up_k hU10 (by exact Nat.ne_of_beq_eq_false rfl) 0 (23 * c + 2)).trans ((fU6 205 0 (23 * c + 2) rfl).trans ((up_k hU4 (by exact Nat.ne_of_beq_eq_false rfl) 0 (23 * c + 2)).trans (hf_48 205 0 (23 * c + 2) rfl)))
        show J_ zX11_can T (po_X11_can_e T c cl) 0 0 123 _ [vI (U10 205 0 (23 * c + 2)), vI 2, vI ((U10 205 0 (23 * c + 1)) + (U10 205 0 (23 * c + 3)))] U10
        refine j_blx (F := fX11) tb_X11 (nn_ _) bk_X11_can_e_123 bs_X11_can_e_123 hz (fun K hK => ?_)
        refine rg_i (by omega) ?_
        refine And.intro (fun c15 => ?_) (fun c15 => ?_)
        · refine hK 131 _ [] U10 ?_
          refine j_blx (F := fX11) tb_X11 (nn_ _) bk_X11_can_e_131 bs_X11_can_e_131 hz (fun K hK => ?_)
          refine And.intro (fun c16 => ?_) (fun c16 => ?_)
          · refine hK 152 [some (vR 111 0), some (vI c), some (vI cl), some (vI 0), none] [] U10 ?_
            refine j_blx (F := fX11) tb_X11 (nn_ _) bk_X11_can_e_152 bs_X11_can_e_152 hz (fun K hK => ?_)
            refine hK 155 _ [vI cl, vI c, vR 111 0] U10 ?_
            refine j_callV (y := yX11_canTry) (Yc := zX11_canTry) (rest := []) [vI c, vI cl] (ct_X11_canTry (T := U10) (by omega) (ML__f (ws := [(111, [95, 80, 82, 83, 90]), (276, []), (291, []), (292, []), (289, [])]) hml (fr_u (fr_t (fr_u (fr_t (fr_0 _ _) (fr_s hf_48 rfl)) hU4 rfl) (fr_s fU6 rfl)) hU10 rfl) ⟨fun _ => rfl, fun _ => rfl, rfl, trivial⟩)) cl_X11_573 (qd_c (by decide +kernel)) (nn_ _) rfl (rf_of rfl) (Nat.le_of_ble_eq_true rfl) (Nat.le_of_ble_eq_true rfl) (Nat.le_of_ble_eq_true rfl) rfl ?_
            rintro U17 _ ⟨x18, rfl, fU17, qU17⟩
            show J_ zX11_can T (po_X11_can_e T c cl) 0 0 158 _ [vI x18] U17
            refine j_blx (F := fX11) tb_X11 (nn_ _) bk_X11_can_e_158 bs_X11_can_e_158 hz (fun K hK => ?_)
            refine And.intro (fun c19 => ?_) (fun c19 => ?_)
            · refine hK 171 [some (vR 111 0), some (vI c), some (vI cl), some (vI 0), some (vI x18)] [vR 111 0] U17 ?_
              refine j_blx (F := fX11) tb_X11 (nn_ _) bk_X11_can_e_171 bs_X11_can_e_171 hz (fun K hK => ?_)
              refine bd_i (by omega) ?_
              refine x_nm (fun U20 hU20 => ?_)
              have e21 := up_f hU20
              refine (show po_X11_can_e T c cl U20 (some (vI x18)) from ?_)
              have e22 : U20 111 0 80 = U6 111 0 80 := (up_j hU20 (by decide) 111 0).trans ((fU17 111 0 80 rfl).trans (up_j hU10 (by decide) 111 0))
              exact ⟨_, rfl, fr_u (fr_t (fr_u (fr_t (fr_u (fr_t (fr_0 _ _) (fr_s hf_48 rfl)) hU4 rfl) (fr_s fU6 rfl)) hU10 rfl) (fr_s fU17 rfl)) hU20 rfl, fun _ => ((up_g hU20 (by omega)).trans ((fU17 111 0 80 rfl).trans (up_g hU10 (by omega)))).trans qU6c⟩
            · refine hK 172 _ [vI c, vR 111 0] U17 ?_
              refine j_blx (F := fX11) tb_X11 (nn_ _) bk_X11_can_e_172 bs_X11_can_e_172 hz (fun K hK => ?_)
              refine bd_i (by omega) ?_
              refine x_nm (fun U23 hU23 => ?_)
              have e24 := up_f hU23
              refine (show po_X11_can_e T c cl U23 (some (vI x18)) from ?_)
              have e25 : U23 111 0 80 = U6 111 0 80 := (up_j hU23 (by decide) 111 0).trans ((fU17 111 0 80 rfl).trans (up_j hU10 (by decide) 111 0))
              exact ⟨_, rfl, fr_u (fr_t (fr_u (fr_t (fr_u (fr_t (fr_0 _ _) (fr_s hf_48 rfl)) hU4 rfl) (fr_s fU6 rfl)) hU10 rfl) (fr_s fU17 rfl)) hU23 rfl, fun _ => ((up_g hU23 (by omega)).trans ((fU17 111 0 80 rfl).trans (up_g hU10 (by omega)))).trans qU6c⟩
          · exact absurd c16 (by decide)
        · refine hK 132 _ [vI 1] U10 ?_
          refine j_blx (F := fX11) tb_X11 (nn_ _) bk_X11_can_e_132 bs_X11_can_e_132 hz (fun K hK => ?_)
          refine And.intro (fun c26 => ?_) (fun c26 => ?_)
          · exact absurd c26 (by decide)
          · refine hK 143 [some (vR 111 0), some (vI c), some (vI cl), some (vI 1), none] [vI cl, vI c, vR 111 0, vI cl, vI c, vR 111 0] U10 ?_
            refine j_callV (y := yX11_othersOf) (Yc := zX11_othersOf) (rest := [vI cl, vI c, vR 111 0]) [vI c, vI cl] (ct_X11_othersOf (T := U10) (by omega)) cl_X11_567 (qd_c (by decide +kernel)) (nn_ _) rfl (rf_of rfl) (Nat.le_of_ble_eq_true rfl) (Nat.le_of_ble_eq_true rfl) (Nat.le_of_ble_eq_true rfl) rfl ?_
            rintro _ _ ⟨rfl, x27, rfl, hx27⟩
            show J_ zX11_can T (po_X11_can_e T c cl) 0 0 146 _ [vI x27, vI cl, vI c, vR 111 0] U10
            have e28 : U10 111 0 6 = T 111 0 6 := (up_j hU10 (by decide) 111 0).trans ((fU6 111 0 6 rfl).trans ((up_j hU4 (by decide) 111 0).trans (hf_48 111 0 6 rfl)))
            have e29 : U10 111 0 95 = (U6 291 0 cl) + ((U6 205 0 (23 * c + 1)) * (U6 292 0 cl)) := up_f hU10
            refine j_callV (y := yX11_canEven) (Yc := zX11_canEven) (rest := []) [vI c, vI cl, vI x27] (ct_X11_canEven (T := U10) (by omega) (by exact RI__f (ws := [(111, [95, 80, 82, 83, 90]), (276, []), (291, []), (292, []), (289, [])]) hri (fr_u (fr_t (fr_u (fr_t (fr_0 _ _) (fr_s hf_48 rfl)) hU4 rfl) (fr_s fU6 rfl)) hU10 rfl) ⟨fun _ => rfl, rfl, trivial⟩) (by exact RW__f (ws := [(111, [95, 80, 82, 83, 90]), (276, []), (291, []), (292, []), (289, [])]) hrw (fr_u (fr_t (fr_u (fr_t (fr_0 _ _) (fr_s hf_48 rfl)) hU4 rfl) (fr_s fU6 rfl)) hU10 rfl) ⟨fun _ => rfl, rfl, trivial⟩) (by exact ML__f (ws := [(111, [95, 80, 82, 83, 90]), (276, []), (291, []), (292, []), (289, [])]) hml (fr_u (fr_t (fr_u (fr_t (fr_0 _ _) (fr_s hf_48 rfl)) hU4 rfl) (fr_s fU6 rfl)) hU10 rfl) ⟨fun _ => rfl, fun _ => rfl, rfl, trivial⟩) (by omega) (by exact PB6__f (ws := [(111, [95])]) qU6a (fr_u (fr_0 _ _) hU10 rfl) ⟨fun _ => rfl, trivial⟩) (by exact fun k a b => by rw [up_k hU10 (by exact Nat.ne_of_beq_eq_false rfl) 0 k]; exact qU6b k a b) (by omega)) cl_X11_570 (qd_c (by decide +kernel)) (nn_ _) rfl (rf_of rfl) (Nat.le_of_ble_eq_true rfl) (Nat.le_of_ble_eq_true rfl) (Nat.le_of_ble_eq_true rfl) rfl ?_
            rintro U30 _ ⟨x31, rfl, fU30, qU30⟩
            show J_ zX11_can T (po_X11_can_e T c cl) 0 0 149 _ [vI x31] U30
            refine j_blx (F := fX11) tb_X11 (nn_ _) bk_X11_can_e_149 bs_X11_can_e_149 hz (fun K hK => ?_)
            refine hK 158 _ [vI x31] U30 ?_
            refine j_blx (F := fX11) tb_X11 (nn_ _) bk_X11_can_e_158 bs_X11_can_e_158 hz (fun K hK => ?_)
            refine And.intro (fun c32 => ?_) (fun c32 => ?_)
            · refine hK 171 [some (vR 111 0), some (vI c), some (vI cl), some (vI 1), some (vI x31)] [vR 111 0] U30 ?_
              refine j_blx (F := fX11) tb_X11 (nn_ _) bk_X11_can_e_171 bs_X11_can_e_171 hz (fun K hK => ?_)
              refine bd_i (by omega) ?_
              refine x_nm (fun U33 hU33 => ?_)
              have e34 := up_f hU33
              refine (show po_X11_can_e T c cl U33 (some (vI x31)) from ?_)
              have e35 : U33 111 0 80 = U6 111 0 80 := (up_j hU33 (by decide) 111 0).trans ((fU30 111 0 80 rfl).trans (up_j hU10 (by decide) 111 0))
              exact ⟨_, rfl, fr_u (fr_t (fr_u (fr_t (fr_u (fr_t (fr_0 _ _) (fr_s hf_48 rfl)) hU4 rfl) (fr_s fU6 rfl)) hU10 rfl) (fr_s fU30 rfl)) hU33 rfl, fun _ => ((up_g hU33 (by omega)).trans ((fU30 111 0 80 rfl).trans (up_g hU10 (by omega)))).trans qU6c⟩
            · refine hK 172 _ [vI c, vR 111 0] U30 ?_
              refine j_blx (F := fX11) tb_X11 (nn_ _) bk_X11_can_e_172 bs_X11_can_e_172 hz (fun K hK => ?_)
              refine bd_i (by omega) ?_
              refine x_nm (fun U36 hU36 => ?_)
              have e37 := up_f hU36
              refine (show po_X11_can_e T c cl U36 (some (vI x31)) from ?_)
              have e38 : U36 111 0 80 = U6 111 0 80 := (up_j hU36 (by decide) 111 0).trans ((fU30 111 0 80 rfl).trans (up_j hU10 (by decide) 111 0))
              exact ⟨_, rfl, fr_u (fr_t (fr_u (fr_t (fr_u (fr_t (fr_0 _ _) (fr_s hf_48 rfl)) hU4 rfl) (fr_s fU6 rfl)) hU10 rfl) (fr_s fU30 rfl)) hU36 rfl, fun _ => ((up_g hU36 (by omega)).trans ((fU30 111 0 80 rfl).trans (up_g hU10 (by omega)))).trans qU6c⟩
      · refine iy_i (by omega) (by omega) ?_
        refine x_nm (fun U39 hU39 => ?_)
        have e40 := up_f hU39
        refine rg_i (by omega) ?_
        refine hK 48 [some (vR 111 0), some (vI c), some (vI cl), some (vI (i + 1)), none] [] U39 ?_
        refine ih_48 _ ?_ (i + 1) U39 (Nat.le_refl _) ?_ ?_
        · have hm_48 := hm_48 (); omega
        · exact fr_u (fr_t (fr_0 _ _) (fr_s hf_48 rfl)) hU39 rfl
        · omega
  refine j_blx (F := fX11) tb_X11 (nn_ _) bk_X11_can_e_0 bs_X11_can_e_0 hz (fun K hK => ?_)
  intro b41 b41b
  refine hK 5 _ [vI (T 111 0 6), vI c] T ?_
  refine j_callS (y := yX11_isOf) (Yc := zX11_isOf) (rest := []) [vI c, vI (T 111 0 6)] (ct_X11_isOf (T := T) (by omega)) cl_X11_317 (qd_c (by decide +kernel)) (nn_ _) rfl (rf_of rfl) (Nat.le_of_ble_eq_true rfl) (Nat.le_of_ble_eq_true rfl) (Nat.le_of_ble_eq_true rfl) rfl ?_
  rintro _ _ ⟨rfl, x42, rfl, hx42⟩
  show J_ zX11_can T (po_X11_can_e T c cl) 0 0 8 _ [vI x42] T
  refine j_blx (F := fX11) tb_X11 (nn_ _) bk_X11_can_e_8 bs_X11_can_e_8 hz (fun K hK => ?_)
  refine And.intro (fun c43 => ?_) (fun c43 => ?_)
  · replace hx42 := hx42.resolve_left (fun z => absurd (c43.symm.trans z.1) (by decide))
    clear c43
    refine hK 22 _ [] T ?_
    refine j_blx (F := fX11) tb_X11 (nn_ _) bk_X11_can_e_22 bs_X11_can_e_22 hz (fun K hK => ?_)
    refine (show po_X11_can_e T c cl T (some (vI (-2))) from ?_)
    exact ⟨_, rfl, fr_0 _ _, fun z => z⟩
  · replace hx42 := hx42.resolve_right (fun z => c43 z.1)
    clear c43
    intro b44 b44b
    refine hK 16 _ [vI (T 111 0 12), vI cl] T ?_
    refine j_callS (y := yX11_isOf) (Yc := zX11_isOf) (rest := []) [vI cl, vI (T 111 0 12)] (ct_X11_isOf (T := T) (by omega)) cl_X11_317 (qd_c (by decide +kernel)) (nn_ _) rfl (rf_of rfl) (Nat.le_of_ble_eq_true rfl) (Nat.le_of_ble_eq_true rfl) (Nat.le_of_ble_eq_true rfl) rfl ?_
    rintro _ _ ⟨rfl, x45, rfl, hx45⟩
    show J_ zX11_can T (po_X11_can_e T c cl) 0 0 19 _ [vI x45] T
    refine j_blx (F := fX11) tb_X11 (nn_ _) bk_X11_can_e_19 bs_X11_can_e_19 hz (fun K hK => ?_)
    refine And.intro (fun c46 => ?_) (fun c46 => ?_)
    · replace hx45 := hx45.resolve_right (fun z => c46 z.1)
      clear c46
      refine hK 25 _ [] T ?_
      refine j_blx (F := fX11) tb_X11 (nn_ _) bk_X11_can_e_25 bs_X11_can_e_25 hz (fun K hK => ?_)
      refine ix_i (by omega) ?_
      intro b47 b47b
      refine And.intro (fun c48 => ?_) (fun c48 => ?_)
      · refine hK 43 _ [] T ?_
        refine j_blx (F := fX11) tb_X11 (nn_ _) bk_X11_can_e_43 bs_X11_can_e_43 hz (fun K hK => ?_)
        refine (show po_X11_can_e T c cl T (some (vI (-4))) from ?_)
        exact ⟨_, rfl, fr_0 _ _, fun z => z⟩
      · refine hK 37 _ [vI cl, vI c, vR 111 0] T ?_
        refine j_callV (y := yX11_hasEntered) (Yc := zX11_hasEntered) (rest := []) [vI c, vI cl] (ct_X11_hasEntered (T := T) (by omega)) cl_X11_340 (qd_c (by decide +kernel)) (nn_ _) rfl (rf_of rfl) (Nat.le_of_ble_eq_true rfl) (Nat.le_of_ble_eq_true rfl) (Nat.le_of_ble_eq_true rfl) rfl ?_
        rintro _ _ ⟨rfl, x49, rfl, hx49⟩
        show J_ zX11_can T (po_X11_can_e T c cl) 0 0 40 _ [vI x49] T
        refine j_blx (F := fX11) tb_X11 (nn_ _) bk_X11_can_e_40 bs_X11_can_e_40 hz (fun K hK => ?_)
        refine And.intro (fun c50 => ?_) (fun c50 => ?_)
        · replace hx49 := hx49.resolve_right (fun z => c50 z.1)
          clear c50
          refine hK 46 _ [] T ?_
          refine j_blx (F := fX11) tb_X11 (nn_ _) bk_X11_can_e_46 bs_X11_can_e_46 hz (fun K hK => ?_)
          refine hK 48 [some (vR 111 0), some (vI c), some (vI cl), some (vI 0), none] [] T ?_
          refine c_48 _ 0 T (Nat.le_refl _) ?_ ?_
          · exact fr_0 _ _
          · omega
        · replace hx49 := hx49.resolve_left (fun z => absurd (c50.symm.trans z.1) (by decide))
          clear c50
          refine (show po_X11_can_e T c cl T (some (vI (-4))) from ?_)
          exact ⟨_, rfl, fr_0 _ _, fun z => z⟩
    · replace hx45 := hx45.resolve_left (fun z => absurd (c46.symm.trans z.1) (by decide))
      clear c46
      refine (show po_X11_can_e T c cl T (some (vI (-2))) from ?_)
      exact ⟨_, rfl, fr_0 _ _, fun z => z⟩
theorem bk_X11_firsts_e_151 : ck_ fX11 (some .int) cX11_firsts 151 [.iload 8, .iload 3, .if_icmp .ge 185, .aload 0, .tableswitch 0 11 81 #[], .aload 0, .tableswitch 0 11 97 #[], .iload 8, .iaload, .iload 7, .iconst 3, .irem, .iastore, .iload 7, .iconst 3, .idiv, .istore 7, .iinc 8 1, .goto 151] 185 = true := qck_r (nn_ _) (by decide +kernel)
theorem bs_X11_firsts_e_151 {P : Zt → Option Zv → Prop} (K : Int → Zl → List Zv → Zt → Prop) : sx_ K P [.iload 8, .iload 3, .if_icmp .ge 185, .aload 0, .tableswitch 0 11 81 #[], .aload 0, .tableswitch 0 11 97 #[], .iload 8, .iaload, .iload 7, .iconst 3, .irem, .iastore, .iload 7, .iconst 3, .idiv, .istore 7, .iinc 8 1, .goto 151] 185 = x_iload 8 (x_iload 3 (x_if_icmp .ge 185 K (x_aload 0 (x_g1 111 281 (x_aload 0 (x_g1 111 297 (x_iload 8 (x_iaload (x_iload 7 (x_iconst 3 (x_irem (x_iastore (x_iload 7 (x_iconst 3 (x_idiv (x_istore 7 (x_iinc 8 1 (x_goto 151 K)))))))))))))))))) := ((xe_iload 8).trans (congrArg (x_iload 8) ((xe_iload 3).trans (congrArg (x_iload 3) ((xe_if_icmp .ge 185).trans (congrArg (x_if_icmp .ge 185 K) ((xe_aload 0).trans (congrArg (x_aload 0) ((xe_g1 (kk := 111) rfl tl_11_81).trans (congrArg (x_g1 111 281) ((xe_aload 0).trans (congrArg (x_aload 0) ((xe_g1 (kk := 111) rfl tl_11_97).trans (congrArg (x_g1 111 297) ((xe_iload 8).trans (congrArg (x_iload 8) ((xe_iaload).trans (congrArg (x_iaload) ((xe_iload 7).trans (congrArg (x_iload 7) ((xe_iconst 3).trans (congrArg (x_iconst 3) ((xe_irem).trans (congrArg (x_irem) ((xe_iastore).trans (congrArg (x_iastore) ((xe_iload 7).trans (congrArg (x_iload 7) ((xe_iconst 3).trans (congrArg (x_iconst 3) ((xe_idiv).trans (congrArg (x_idiv) ((xe_istore 7).trans (congrArg (x_istore 7) ((xe_iinc 8 1).trans (congrArg (x_iinc 8 1) (xe_goto 151)))))))))))))))))))))))))))))))))))))
theorem bk_X11_firsts_e_185 : ck_ fX11 (some .int) cX11_firsts 185 [.aload 0, .iload 1, .iconst 999] 190 = true := qck_r (nn_ _) (by decide +kernel)
theorem bs_X11_firsts_e_185 {P : Zt → Option Zv → Prop} (K : Int → Zl → List Zv → Zt → Prop) : sx_ K P [.aload 0, .iload 1, .iconst 999] 190 = x_aload 0 (x_iload 1 (x_iconst 999 (K 190))) := ((xe_aload 0).trans (congrArg (x_aload 0) ((xe_iload 1).trans (congrArg (x_iload 1) ((xe_iconst 999).trans (congrArg (x_iconst 999) xe_nil))))))
theorem bk_X11_firsts_e_193 : ck_ fX11 (some .int) cX11_firsts 193 [.iload 5, .aload 0, .iload 2] 197 = true := qck_r (nn_ _) (by decide +kernel)
theorem bs_X11_firsts_e_193 {P : Zt → Option Zv → Prop} (K : Int → Zl → List Zv → Zt → Prop) : sx_ K P [.iload 5, .aload 0, .iload 2] 197 = x_iload 5 (x_aload 0 (x_iload 2 (K 197))) := ((xe_iload 5).trans (congrArg (x_iload 5) ((xe_aload 0).trans (congrArg (x_aload 0) ((xe_iload 2).trans (congrArg (x_iload 2) xe_nil))))))
theorem bk_X11_firsts_e_200 : ck_ fX11 (some .int) cX11_firsts 200 [.iconst 1, .if_icmp .ne 208, .iconst 1, .goto 209] 208 = true := qck_r (nn_ _) (by decide +kernel)
theorem bs_X11_firsts_e_200 {P : Zt → Option Zv → Prop} (K : Int → Zl → List Zv → Zt → Prop) : sx_ K P [.iconst 1, .if_icmp .ne 208, .iconst 1, .goto 209] 208 = x_iconst 1 (x_if_icmp .ne 208 K (x_iconst 1 (x_goto 209 K))) := ((xe_iconst 1).trans (congrArg (x_iconst 1) ((xe_if_icmp .ne 208).trans (congrArg (x_if_icmp .ne 208 K) ((xe_iconst 1).trans (congrArg (x_iconst 1) (xe_goto 209)))))))
theorem bk_X11_firsts_e_208 : ck_ fX11 (some .int) cX11_firsts 208 [.iconst 0, .fadd, .istore 5, .iinc 6 1, .goto 137] 218 = true := qck_r (nn_ _) (by decide +kernel)
theorem bs_X11_firsts_e_208 {P : Zt → Option Zv → Prop} (K : Int → Zl → List Zv → Zt → Prop) : sx_ K P [.iconst 0, .fadd, .istore 5, .iinc 6 1, .goto 137] 218 = x_iconst 0 (x_fadd (x_istore 5 (x_iinc 6 1 (x_goto 137 K)))) := ((xe_iconst 0).trans (congrArg (x_iconst 0) ((xe_fadd).trans (congrArg (x_fadd) ((xe_istore 5).trans (congrArg (x_istore 5) ((xe_iinc 6 1).trans (congrArg (x_iinc 6 1) (xe_goto 137)))))))))
theorem bk_X11_firsts_e_209 : ck_ fX11 (some .int) cX11_firsts 209 [.fadd, .istore 5, .iinc 6 1, .goto 137] 218 = true := qck_r (nn_ _) (by decide +kernel)
theorem bs_X11_firsts_e_209 {P : Zt → Option Zv → Prop} (K : Int → Zl → List Zv → Zt → Prop) : sx_ K P [.fadd, .istore 5, .iinc 6 1, .goto 137] 218 = x_fadd (x_istore 5 (x_iinc 6 1 (x_goto 137 K))) := ((xe_fadd).trans (congrArg (x_fadd) ((xe_istore 5).trans (congrArg (x_istore 5) ((xe_iinc 6 1).trans (congrArg (x_iinc 6 1) (xe_goto 137)))))))
theorem bk_X11_firsts_e_137 : ck_ fX11 (some .int) cX11_firsts 137 [.iload 6, .iload 4, .if_icmp .ge 218, .iload 6, .istore 7, .iconst 0, .istore 8] 151 = true := qck_r (nn_ _) (by decide +kernel)
theorem bs_X11_firsts_e_137 {P : Zt → Option Zv → Prop} (K : Int → Zl → List Zv → Zt → Prop) : sx_ K P [.iload 6, .iload 4, .if_icmp .ge 218, .iload 6, .istore 7, .iconst 0, .istore 8] 151 = x_iload 6 (x_iload 4 (x_if_icmp .ge 218 K (x_iload 6 (x_istore 7 (x_iconst 0 (x_istore 8 (K 151))))))) := ((xe_iload 6).trans (congrArg (x_iload 6) ((xe_iload 4).trans (congrArg (x_iload 4) ((xe_if_icmp .ge 218).trans (congrArg (x_if_icmp .ge 218 K) ((xe_iload 6).trans (congrArg (x_iload 6) ((xe_istore 7).trans (congrArg (x_istore 7) ((xe_iconst 0).trans (congrArg (x_iconst 0) ((xe_istore 8).trans (congrArg (x_istore 8) xe_nil))))))))))))))
theorem bk_X11_firsts_e_218 : ck_ fX11 (some .int) cX11_firsts 218 [.aload 0, .iconst 0, .tableswitch 1 11 80 #[], .iload 5, .ireturn] 226 = true := qck_r (nn_ _) (by decide +kernel)
theorem bs_X11_firsts_e_218 {P : Zt → Option Zv → Prop} (K : Int → Zl → List Zv → Zt → Prop) : sx_ K P [.aload 0, .iconst 0, .tableswitch 1 11 80 #[], .iload 5, .ireturn] 226 = x_aload 0 (x_iconst 0 (x_p 111 80 0 1 (x_iload 5 (x_ireturn P)))) := ((xe_aload 0).trans (congrArg (x_aload 0) ((xe_iconst 0).trans (congrArg (x_iconst 0) ((xe_p (kk := 111) rfl tl_11_80).trans (congrArg (x_p 111 80 0 1) ((xe_iload 5).trans (congrArg (x_iload 5) (xe_ireturn)))))))))
theorem bk_X11_firsts_e_59 : ck_ fX11 (some .int) cX11_firsts 59 [.iload 5, .aload 0, .tableswitch 0 11 10 #[], .iload 1, .iaload, .aload 0, .tableswitch 0 11 11 #[], .iload 1, .iaload, .iadd, .if_icmp .ge 119, .aload 0, .iload 5] 80 = true := qck_r (nn_ _) (by decide +kernel)
theorem bs_X11_firsts_e_59 {P : Zt → Option Zv → Prop} (K : Int → Zl → List Zv → Zt → Prop) : sx_ K P [.iload 5, .aload 0, .tableswitch 0 11 10 #[], .iload 1, .iaload, .aload 0, .tableswitch 0 11 11 #[], .iload 1, .iaload, .iadd, .if_icmp .ge 119, .aload 0, .iload 5] 80 = x_iload 5 (x_aload 0 (x_g1 111 210 (x_iload 1 (x_iaload (x_aload 0 (x_g1 111 211 (x_iload 1 (x_iaload (x_iadd (x_if_icmp .ge 119 K (x_aload 0 (x_iload 5 (K 80))))))))))))) := ((xe_iload 5).trans (congrArg (x_iload 5) ((xe_aload 0).trans (congrArg (x_aload 0) ((xe_g1 (kk := 111) rfl tl_11_10).trans (congrArg (x_g1 111 210) ((xe_iload 1).trans (congrArg (x_iload 1) ((xe_iaload).trans (congrArg (x_iaload) ((xe_aload 0).trans (congrArg (x_aload 0) ((xe_g1 (kk := 111) rfl tl_11_11).trans (congrArg (x_g1 111 211) ((xe_iload 1).trans (congrArg (x_iload 1) ((xe_iaload).trans (congrArg (x_iaload) ((xe_iadd).trans (congrArg (x_iadd) ((xe_if_icmp .ge 119).trans (congrArg (x_if_icmp .ge 119 K) ((xe_aload 0).trans (congrArg (x_aload 0) ((xe_iload 5).trans (congrArg (x_iload 5) xe_nil))))))))))))))))))))))))))
theorem bk_X11_firsts_e_119 : ck_ fX11 (some .int) cX11_firsts 119 [.iload 3, .iconst 3, .if_icmp .le 126, .iconst (-1), .ireturn] 126 = true := qck_r (nn_ _) (by decide +kernel)
theorem bs_X11_firsts_e_119 {P : Zt → Option Zv → Prop} (K : Int → Zl → List Zv → Zt → Prop) : sx_ K P [.iload 3, .iconst 3, .if_icmp .le 126, .iconst (-1), .ireturn] 126 = x_iload 3 (x_iconst 3 (x_if_icmp .le 126 K (x_iconst (-1) (x_ireturn P)))) := ((xe_iload 3).trans (congrArg (x_iload 3) ((xe_iconst 3).trans (congrArg (x_iconst 3) ((xe_if_icmp .le 126).trans (congrArg (x_if_icmp .le 126 K) ((xe_iconst (-1)).trans (congrArg (x_iconst (-1)) (xe_ireturn)))))))))
theorem bk_X11_firsts_e_126 : ck_ fX11 (some .int) cX11_firsts 126 [.iconst 0, .istore 5, .aload 0, .iconst 1, .tableswitch 1 11 80 #[], .iconst 0, .istore 6] 137 = true := qck_r (nn_ _) (by decide +kernel)
theorem bs_X11_firsts_e_126 {P : Zt → Option Zv → Prop} (K : Int → Zl → List Zv → Zt → Prop) : sx_ K P [.iconst 0, .istore 5, .aload 0, .iconst 1, .tableswitch 1 11 80 #[], .iconst 0, .istore 6] 137 = x_iconst 0 (x_istore 5 (x_aload 0 (x_iconst 1 (x_p 111 80 0 1 (x_iconst 0 (x_istore 6 (K 137))))))) := ((xe_iconst 0).trans (congrArg (x_iconst 0) ((xe_istore 5).trans (congrArg (x_istore 5) ((xe_aload 0).trans (congrArg (x_aload 0) ((xe_iconst 1).trans (congrArg (x_iconst 1) ((xe_p (kk := 111) rfl tl_11_80).trans (congrArg (x_p 111 80 0 1) ((xe_iconst 0).trans (congrArg (x_iconst 0) ((xe_istore 6).trans (congrArg (x_istore 6) xe_nil))))))))))))))
theorem bk_X11_firsts_e_83 : ck_ fX11 (some .int) cX11_firsts 83 [.ifCond .eq 113, .aload 0, .tableswitch 0 11 97 #[], .iload 3, .iload 5, .iastore, .iinc 3 1, .iload 3, .iconst 3, .if_icmp .le 107, .iload 4, .goto 111] 107 = true := qck_r (nn_ _) (by decide +kernel)
theorem bs_X11_firsts_e_83 {P : Zt → Option Zv → Prop} (K : Int → Zl → List Zv → Zt → Prop) : sx_ K P [.ifCond .eq 113, .aload 0, .tableswitch 0 11 97 #[], .iload 3, .iload 5, .iastore, .iinc 3 1, .iload 3, .iconst 3, .if_icmp .le 107, .iload 4, .goto 111] 107 = x_ifCond .eq 113 K (x_aload 0 (x_g1 111 297 (x_iload 3 (x_iload 5 (x_iastore (x_iinc 3 1 (x_iload 3 (x_iconst 3 (x_if_icmp .le 107 K (x_iload 4 (x_goto 111 K))))))))))) := ((xe_ifCond .eq 113).trans (congrArg (x_ifCond .eq 113 K) ((xe_aload 0).trans (congrArg (x_aload 0) ((xe_g1 (kk := 111) rfl tl_11_97).trans (congrArg (x_g1 111 297) ((xe_iload 3).trans (congrArg (x_iload 3) ((xe_iload 5).trans (congrArg (x_iload 5) ((xe_iastore).trans (congrArg (x_iastore) ((xe_iinc 3 1).trans (congrArg (x_iinc 3 1) ((xe_iload 3).trans (congrArg (x_iload 3) ((xe_iconst 3).trans (congrArg (x_iconst 3) ((xe_if_icmp .le 107).trans (congrArg (x_if_icmp .le 107 K) ((xe_iload 4).trans (congrArg (x_iload 4) (xe_goto 111)))))))))))))))))))))))
theorem bk_X11_firsts_e_113 : ck_ fX11 (some .int) cX11_firsts 113 [.iinc 5 1, .goto 59] 119 = true := qck_r (nn_ _) (by decide +kernel)
theorem bs_X11_firsts_e_113 {P : Zt → Option Zv → Prop} (K : Int → Zl → List Zv → Zt → Prop) : sx_ K P [.iinc 5 1, .goto 59] 119 = x_iinc 5 1 (x_goto 59 K) := ((xe_iinc 5 1).trans (congrArg (x_iinc 5 1) (xe_goto 59)))
theorem bk_X11_firsts_e_107 : ck_ fX11 (some .int) cX11_firsts 107 [.iconst 3, .iload 4, .fmul, .istore 4, .iinc 5 1, .goto 59] 119 = true := qck_r (nn_ _) (by decide +kernel)
theorem bs_X11_firsts_e_107 {P : Zt → Option Zv → Prop} (K : Int → Zl → List Zv → Zt → Prop) : sx_ K P [.iconst 3, .iload 4, .fmul, .istore 4, .iinc 5 1, .goto 59] 119 = x_iconst 3 (x_iload 4 (x_fmul (x_istore 4 (x_iinc 5 1 (x_goto 59 K))))) := ((xe_iconst 3).trans (congrArg (x_iconst 3) ((xe_iload 4).trans (congrArg (x_iload 4) ((xe_fmul).trans (congrArg (x_fmul) ((xe_istore 4).trans (congrArg (x_istore 4) ((xe_iinc 5 1).trans (congrArg (x_iinc 5 1) (xe_goto 59)))))))))))
theorem bk_X11_firsts_e_111 : ck_ fX11 (some .int) cX11_firsts 111 [.istore 4, .iinc 5 1, .goto 59] 119 = true := qck_r (nn_ _) (by decide +kernel)
theorem bs_X11_firsts_e_111 {P : Zt → Option Zv → Prop} (K : Int → Zl → List Zv → Zt → Prop) : sx_ K P [.istore 4, .iinc 5 1, .goto 59] 119 = x_istore 4 (x_iinc 5 1 (x_goto 59 K)) := ((xe_istore 4).trans (congrArg (x_istore 4) ((xe_iinc 5 1).trans (congrArg (x_iinc 5 1) (xe_goto 59)))))
theorem bk_X11_firsts_e_0 : ck_ fX11 (some .int) cX11_firsts 0 [.iload 1, .aload 0, .tableswitch 0 11 6 #[]] 5 = true := qck_r (nn_ _) (by decide +kernel)
theorem bs_X11_firsts_e_0 {P : Zt → Option Zv → Prop} (K : Int → Zl → List Zv → Zt → Prop) : sx_ K P [.iload 1, .aload 0, .tableswitch 0 11 6 #[]] 5 = x_iload 1 (x_aload 0 (x_g0 111 6 0 4 (K 5))) := ((xe_iload 1).trans (congrArg (x_iload 1) ((xe_aload 0).trans (congrArg (x_aload 0) ((xe_g0 (kk := 111) rfl tl_11_6).trans (congrArg (x_g0 111 6 0 4) xe_nil))))))
theorem bk_X11_firsts_e_8 : ck_ fX11 (some .int) cX11_firsts 8 [.ifCond .eq 22, .iload 2, .aload 0, .tableswitch 0 11 12 #[]] 16 = true := qck_r (nn_ _) (by decide +kernel)
theorem bs_X11_firsts_e_8 {P : Zt → Option Zv → Prop} (K : Int → Zl → List Zv → Zt → Prop) : sx_ K P [.ifCond .eq 22, .iload 2, .aload 0, .tableswitch 0 11 12 #[]] 16 = x_ifCond .eq 22 K (x_iload 2 (x_aload 0 (x_g0 111 12 0 12 (K 16)))) := ((xe_ifCond .eq 22).trans (congrArg (x_ifCond .eq 22 K) ((xe_iload 2).trans (congrArg (x_iload 2) ((xe_aload 0).trans (congrArg (x_aload 0) ((xe_g0 (kk := 111) rfl tl_11_12).trans (congrArg (x_g0 111 12 0 12) xe_nil))))))))
theorem bk_X11_firsts_e_22 : ck_ fX11 (some .int) cX11_firsts 22 [.iconst (-2), .ireturn] 25 = true := qck_r (nn_ _) (by decide +kernel)
theorem bs_X11_firsts_e_22 {P : Zt → Option Zv → Prop} (K : Int → Zl → List Zv → Zt → Prop) : sx_ K P [.iconst (-2), .ireturn] 25 = x_iconst (-2) (x_ireturn P) := ((xe_iconst (-2)).trans (congrArg (x_iconst (-2)) (xe_ireturn)))
theorem bk_X11_firsts_e_19 : ck_ fX11 (some .int) cX11_firsts 19 [.ifCond .ne 25, .iconst (-2), .ireturn] 25 = true := qck_r (nn_ _) (by decide +kernel)
theorem bs_X11_firsts_e_19 {P : Zt → Option Zv → Prop} (K : Int → Zl → List Zv → Zt → Prop) : sx_ K P [.ifCond .ne 25, .iconst (-2), .ireturn] 25 = x_ifCond .ne 25 K (x_iconst (-2) (x_ireturn P)) := ((xe_ifCond .ne 25).trans (congrArg (x_ifCond .ne 25 K) ((xe_iconst (-2)).trans (congrArg (x_iconst (-2)) (xe_ireturn)))))
theorem bk_X11_firsts_e_25 : ck_ fX11 (some .int) cX11_firsts 25 [.aload 0, .tableswitch 0 11 9 #[], .iload 1, .baload, .ifCond .eq 43, .aload 0, .iload 1, .iload 2] 37 = true := qck_r (nn_ _) (by decide +kernel)
theorem bs_X11_firsts_e_25 {P : Zt → Option Zv → Prop} (K : Int → Zl → List Zv → Zt → Prop) : sx_ K P [.aload 0, .tableswitch 0 11 9 #[], .iload 1, .baload, .ifCond .eq 43, .aload 0, .iload 1, .iload 2] 37 = x_aload 0 (x_g1 111 209 (x_iload 1 (x_baload (x_ifCond .eq 43 K (x_aload 0 (x_iload 1 (x_iload 2 (K 37)))))))) := ((xe_aload 0).trans (congrArg (x_aload 0) ((xe_g1 (kk := 111) rfl tl_11_9).trans (congrArg (x_g1 111 209) ((xe_iload 1).trans (congrArg (x_iload 1) ((xe_baload).trans (congrArg (x_baload) ((xe_ifCond .eq 43).trans (congrArg (x_ifCond .eq 43 K) ((xe_aload 0).trans (congrArg (x_aload 0) ((xe_iload 1).trans (congrArg (x_iload 1) ((xe_iload 2).trans (congrArg (x_iload 2) xe_nil))))))))))))))))
theorem bk_X11_firsts_e_43 : ck_ fX11 (some .int) cX11_firsts 43 [.iconst (-4), .ireturn] 46 = true := qck_r (nn_ _) (by decide +kernel)
theorem bs_X11_firsts_e_43 {P : Zt → Option Zv → Prop} (K : Int → Zl → List Zv → Zt → Prop) : sx_ K P [.iconst (-4), .ireturn] 46 = x_iconst (-4) (x_ireturn P) := ((xe_iconst (-4)).trans (congrArg (x_iconst (-4)) (xe_ireturn)))
theorem bk_X11_firsts_e_40 : ck_ fX11 (some .int) cX11_firsts 40 [.ifCond .ne 46, .iconst (-4), .ireturn] 46 = true := qck_r (nn_ _) (by decide +kernel)
theorem bs_X11_firsts_e_40 {P : Zt → Option Zv → Prop} (K : Int → Zl → List Zv → Zt → Prop) : sx_ K P [.ifCond .ne 46, .iconst (-4), .ireturn] 46 = x_ifCond .ne 46 K (x_iconst (-4) (x_ireturn P)) := ((xe_ifCond .ne 46).trans (congrArg (x_ifCond .ne 46 K) ((xe_iconst (-4)).trans (congrArg (x_iconst (-4)) (xe_ireturn)))))
theorem bk_X11_firsts_e_46 : ck_ fX11 (some .int) cX11_firsts 46 [.iconst 0, .istore 3, .iconst 1, .istore 4, .aload 0, .tableswitch 0 11 10 #[], .iload 1, .iaload, .istore 5] 59 = true := qck_r (nn_ _) (by decide +kernel)
theorem bs_X11_firsts_e_46 {P : Zt → Option Zv → Prop} (K : Int → Zl → List Zv → Zt → Prop) : sx_ K P [.iconst 0, .istore 3, .iconst 1, .istore 4, .aload 0, .tableswitch 0 11 10 #[], .iload 1, .iaload, .istore 5] 59 = x_iconst 0 (x_istore 3 (x_iconst 1 (x_istore 4 (x_aload 0 (x_g1 111 210 (x_iload 1 (x_iaload (x_istore 5 (K 59))))))))) := ((xe_iconst 0).trans (congrArg (x_iconst 0) ((xe_istore 3).trans (congrArg (x_istore 3) ((xe_iconst 1).trans (congrArg (x_iconst 1) ((xe_istore 4).trans (congrArg (x_istore 4) ((xe_aload 0).trans (congrArg (x_aload 0) ((xe_g1 (kk := 111) rfl tl_11_10).trans (congrArg (x_g1 111 210) ((xe_iload 1).trans (congrArg (x_iload 1) ((xe_iaload).trans (congrArg (x_iaload) ((xe_istore 5).trans (congrArg (x_istore 5) xe_nil))))))))))))))))))
abbrev po_X11_firsts_e (T : Zt) (c cl : Int) : Zt → Option Zv → Prop := fun T' r => ∃ x : Int, r = some (vI x) ∧ fr_ [(276, []), (284, []), (277, []), (286, []), (278, []), (297, []), (281, []), (111, [82, 83, 85, 87, 79, 80])] T T' ∧ (T 111 0 80 = 0 → T' 111 0 80 = 0)
set_option maxHeartbeats 4000000 in
theorem ct_X11_firsts_e {T : Zt} {c cl : Int} (hri : RI_ T) (hml : ML_ T) (hsc : SC_ T) (hyb : YB_ T) : Ct_ yX11_firsts zX11_firsts T [vR 111 0, vI c, vI cl] (po_X11_firsts_e T c cl) := by
  refine ct_of pn_11 rfl rfl (Nat.le_of_ble_eq_true rfl) (fun hT hav => ?_)
  have hr_c : -2147483648 ≤ c ∧ c ≤ 2147483647 := hav (vI c) (List.mem_cons_of_mem _ List.mem_cons_self)
  have hr_cl : -2147483648 ≤ cl ∧ cl ≤ 2147483647 := hav (vI cl) (List.mem_cons_of_mem _ (List.mem_cons_of_mem _ List.mem_cons_self))
  have hz : zX11_firsts.2.2.2.1 = some .boolean → ∀ (T' : Zt) (x : Int), po_X11_firsts_e T c cl T' (some (vI x)) → 0 ≤ x ∧ x ≤ 1 := fun h => by cases h
  have hb_6 : 0 ≤ T 111 0 6 ∧ T 111 0 6 ≤ 4 := bd_f hT 111 6 tl_11_6 0
  have hb_12 : 0 ≤ T 111 0 12 ∧ T 111 0 12 ≤ 12 := bd_f hT 111 12 tl_11_12 0
  have hb_29 : 0 ≤ T 111 0 29 ∧ T 111 0 29 ≤ 400 := bd_f hT 111 29 tl_11_29 0
  show J_ zX11_firsts T (po_X11_firsts_e T c cl) 0 0 0 [some (vR 111 0), some (vI c), some (vI cl), none, none, none, none, none, none] [] T
  have c_137 : ∀ (nn : Nat) (mn : Int) (al : Int) (fi : Int) (r : Int) (T2 : Zt), ((al - r).toNat) ≤ nn → (fr_ [(276, []), (284, []), (277, []), (286, []), (278, []), (297, []), (281, []), (111, [82, 83, 85, 87, 79, 80])] T T2) → (HE_ T c cl) → (0 ≤ c ∧ c < T 111 0 6) → (0 ≤ mn ∧ mn ≤ 3 ∧ 0 ≤ r ∧ al ≤ 2147483647) → J_ zX11_firsts T (po_X11_firsts_e T c cl) 0 0 137 [some (vR 111 0), some (vI c), some (vI cl), some (vI mn), some (vI al), some (vI fi), some (vI r), none, none] [] T2 := by
    intro nn
    induction nn using Nat.strongRecOn with
    | _ nn ih_137 =>
      intro mn al fi r T2 hm_137 hf_137 he cc i2
      replace hm_137 := fun (_ : Unit) => hm_137
      have c_151 : ∀ (nn : Nat) (re : Int) (k : Int) (T3 : Zt), ((mn - k).toNat) ≤ nn → (fr_ [(276, []), (284, []), (277, []), (286, []), (278, []), (297, []), (281, []), (111, [82, 83, 85, 87, 79, 80])] T T3) → (0 ≤ re ∧ 0 ≤ k ∧ k ≤ mn ∧ r < al) → J_ zX11_firsts T (po_X11_firsts_e T c cl) 0 0 151 [some (vR 111 0), some (vI c), some (vI cl), some (vI mn), some (vI al), some (vI fi), some (vI r), some (vI re), some (vI k)] [] T3 := by
        intro nn
        induction nn using Nat.strongRecOn with
        | _ nn ih_151 =>
          intro re k T3 hm_151 hf_151 i3
          replace hm_151 := fun (_ : Unit) => hm_151
          refine j_blx (F := fX11) tb_X11 (nn_ _) bk_X11_firsts_e_151 bs_X11_firsts_e_151 hz (fun K hK => ?_)
          refine And.intro (fun c1 => ?_) (fun c1 => ?_)
          · refine hK 185 _ [] T3 ?_
            refine j_blx (F := fX11) tb_X11 (nn_ _) bk_X11_firsts_e_185 bs_X11_firsts_e_185 hz (fun K hK => ?_)
            refine hK 190 _ [vI 999, vI c, vR 111 0] T3 ?_
            have e2 : T3 111 0 6 = T 111 0 6 := hf_151 111 0 6 rfl
            refine j_callV (y := yX11_orderAll) (Yc := zX11_orderAll) (rest := []) [vI c, vI 999] (ct_X11_orderAll (T := T3) (by omega) (RI__f (ws := [(276, []), (284, []), (277, []), (286, []), (278, []), (297, []), (281, []), (111, [82, 83, 85, 87, 79, 80])]) hri (fr_t (fr_0 _ _) (fr_s hf_151 rfl)) ⟨fun _ => rfl, rfl, trivial⟩) (ML__f (ws := [(276, []), (284, []), (277, []), (286, []), (278, []), (297, []), (281, []), (111, [82, 83, 85, 87, 79, 80])]) hml (fr_t (fr_0 _ _) (fr_s hf_151 rfl)) ⟨fun _ => rfl, fun _ => rfl, rfl, trivial⟩) (SC__f (ws := [(276, []), (284, []), (277, []), (286, []), (278, []), (297, []), (281, []), (111, [82, 83, 85, 87, 79, 80])]) hsc (fr_t (fr_0 _ _) (fr_s hf_151 rfl)) ⟨fun _ => rfl, fun _ => rfl, trivial⟩) (YB__f (ws := [(276, []), (284, []), (277, []), (286, []), (278, []), (297, []), (281, []), (111, [82, 83, 85, 87, 79, 80])]) hyb (fr_t (fr_0 _ _) (fr_s hf_151 rfl)) ⟨fun _ => rfl, trivial⟩)) cl_X11_532 (qd_c (by decide +kernel)) (nn_ _) rfl (rf_of rfl) (Nat.le_of_ble_eq_true rfl) (Nat.le_of_ble_eq_true rfl) (Nat.le_of_ble_eq_true rfl) rfl ?_
            rintro U3 _ ⟨rfl, fU3, ⟨qU3a, qU3b⟩⟩
            show J_ zX11_firsts T (po_X11_firsts_e T c cl) 0 0 193 _ [] U3
            refine j_blx (F := fX11) tb_X11 (nn_ _) bk_X11_firsts_e_193 bs_X11_firsts_e_193 hz (fun K hK => ?_)
            refine hK 197 _ [vI cl, vR 111 0, vI fi] U3 ?_
            refine j_callV (y := yX11_placeOf) (Yc := zX11_placeOf) (rest := [vI fi]) [vI cl] (ct_X11_placeOf (T := U3) (by exact qU3b cl (he_f he (fun j => hf_151 208 0 j rfl) (fun j => hf_151 207 0 j rfl)))) cl_X11_535 (qd_c (by decide +kernel)) (nn_ _) rfl (rf_of rfl) (Nat.le_of_ble_eq_true rfl) (Nat.le_of_ble_eq_true rfl) (Nat.le_of_ble_eq_true rfl) rfl ?_
            rintro _ _ ⟨rfl, x4, rfl, hx4⟩
            show J_ zX11_firsts T (po_X11_firsts_e T c cl) 0 0 200 _ [vI x4, vI fi] U3
            refine j_blx (F := fX11) tb_X11 (nn_ _) bk_X11_firsts_e_200 bs_X11_firsts_e_200 hz (fun K hK => ?_)
            refine And.intro (fun c5 => ?_) (fun c5 => ?_)
            · refine hK 208 _ [vI fi] U3 ?_
              refine j_blx (F := fX11) tb_X11 (nn_ _) bk_X11_firsts_e_208 bs_X11_firsts_e_208 hz (fun K hK => ?_)
              intro w6 w6b
              refine rg_i (by omega) ?_
              refine hK 137 [some (vR 111 0), some (vI c), some (vI cl), some (vI mn), some (vI al), some (vI (wr_ (fi + 0))), some (vI (r + 1)), some (vI re), some (vI k)] [] U3 ?_
              refine j_drq [some (vR 111 0), some (vI c), some (vI cl), some (vI mn), some (vI al), some (vI (wr_ (fi + 0))), some (vI (r + 1)), none, none] (drq_s (drq_s (drq_s (drq_s (drq_s (drq_s (drq_s (drq_n (drq_n drq_0))))))))) ?_
              refine ih_137 _ ?_ mn al (wr_ (fi + 0)) (r + 1) U3 (Nat.le_refl _) ?_ ?_ ?_ ?_
              · have hm_137 := hm_137 (); omega
              · exact fr_t (fr_t (fr_0 _ _) (fr_s hf_151 rfl)) (fr_s fU3 rfl)
              · exact he
              · omega
              · omega
            · refine hK 209 [some (vR 111 0), some (vI c), some (vI cl), some (vI mn), some (vI al), some (vI fi), some (vI r), some (vI re), some (vI k)] [vI 1, vI fi] U3 ?_
              refine j_blx (F := fX11) tb_X11 (nn_ _) bk_X11_firsts_e_209 bs_X11_firsts_e_209 hz (fun K hK => ?_)
              intro w7 w7b
              refine rg_i (by omega) ?_
              refine hK 137 [some (vR 111 0), some (vI c), some (vI cl), some (vI mn), some (vI al), some (vI (wr_ (fi + 1))), some (vI (r + 1)), some (vI re), some (vI k)] [] U3 ?_
              refine j_drq [some (vR 111 0), some (vI c), some (vI cl), some (vI mn), some (vI al), some (vI (wr_ (fi + 1))), some (vI (r + 1)), none, none] (drq_s (drq_s (drq_s (drq_s (drq_s (drq_s (drq_s (drq_n (drq_n drq_0))))))))) ?_
              refine ih_137 _ ?_ mn al (wr_ (fi + 1)) (r + 1) U3 (Nat.le_refl _) ?_ ?_ ?_ ?_
              · have hm_137 := hm_137 (); omega
              · exact fr_t (fr_t (fr_0 _ _) (fr_s hf_151 rfl)) (fr_s fU3 rfl)
              · exact he
              · omega
              · omega
          · refine ix_i (by omega) ?_
            intro b8 b8b
            refine dv_i (by omega) ?_
            refine iy_i (by omega) (by omega) ?_
            refine x_nm (fun U9 hU9 => ?_)
            have e10 := up_f hU9
            refine dv_i (by omega) ?_
            refine rg_i (by omega) ?_
            refine hK 151 [some (vR 111 0), some (vI c), some (vI cl), some (vI mn), some (vI al), some (vI fi), some (vI r), some (vI (re / 3)), some (vI (k + 1))] [] U9 ?_
            refine ih_151 _ ?_ (re / 3) (k + 1) U9 (Nat.le_refl _) ?_ ?_
            · have hm_151 := hm_151 (); omega
            · exact fr_u (fr_t (fr_0 _ _) (fr_s hf_151 rfl)) hU9 rfl
            · omega
      refine j_blx (F := fX11) tb_X11 (nn_ _) bk_X11_firsts_e_137 bs_X11_firsts_e_137 hz (fun K hK => ?_)
      refine And.intro (fun c11 => ?_) (fun c11 => ?_)
      · refine hK 218 _ [] T2 ?_
        refine j_blx (F := fX11) tb_X11 (nn_ _) bk_X11_firsts_e_218 bs_X11_firsts_e_218 hz (fun K hK => ?_)
        refine bd_i (by omega) ?_
        refine x_nm (fun U12 hU12 => ?_)
        have e13 := up_f hU12
        refine (show po_X11_firsts_e T c cl U12 (some (vI fi)) from ?_)
        have e14 : U12 111 0 80 = 0 := up_f hU12
        exact ⟨_, rfl, fr_u (fr_t (fr_0 _ _) (fr_s hf_137 rfl)) hU12 rfl, fun _ => up_f hU12⟩
      · refine hK 151 [some (vR 111 0), some (vI c), some (vI cl), some (vI mn), some (vI al), some (vI fi), some (vI r), some (vI r), some (vI 0)] [] T2 ?_
        refine c_151 _ r 0 T2 (Nat.le_refl _) ?_ ?_
        · exact fr_t (fr_0 _ _) (fr_s hf_137 rfl)
        · omega
  have c_59 : ∀ (nn : Nat) (mn : Int) (al : Int) (m : Int) (T1 : Zt), ((400 - m).toNat) ≤ nn → (fr_ [(297, [])] T T1) → (HE_ T c cl) → (0 ≤ c ∧ c < T 111 0 6) → (T 210 0 c ≤ m ∧ m ≤ T 210 0 c + T 211 0 c ∧ 0 ≤ mn ∧ mn ≤ m - T 210 0 c ∧ al ≤ 2147483647) → J_ zX11_firsts T (po_X11_firsts_e T c cl) 0 0 59 [some (vR 111 0), some (vI c), some (vI cl), some (vI mn), some (vI al), some (vI m), none, none, none] [] T1 := by
    intro nn
    induction nn using Nat.strongRecOn with
    | _ nn ih_59 =>
      intro mn al m T1 hm_59 hf_59 he cc i1
      replace hm_59 := fun (_ : Unit) => hm_59
      have hmc := hml c (by omega) (by omega)
      have hb_29 : 0 ≤ T 111 0 29 ∧ T 111 0 29 ≤ 400 := bd_f hT 111 29 tl_11_29 0
      have hfo : 0 ≤ T 210 0 c ∧ T 210 0 c ≤ 400 := bd_a hT 210 (by decide +kernel : ta_ 210 = some (1, some 4, 0, 400)) 0 (by omega)
      have hmo : 0 ≤ T 211 0 c ∧ T 211 0 c ≤ 400 := bd_a hT 211 (by decide +kernel : ta_ 211 = some (1, some 4, 0, 400)) 0 (by omega)
      refine j_blx (F := fX11) tb_X11 (nn_ _) bk_X11_firsts_e_59 bs_X11_firsts_e_59 hz (fun K hK => ?_)
      refine ix_i (by omega) ?_
      intro b15 b15b
      have e16 : T1 210 0 c = T 210 0 c := hf_59 210 0 c rfl
      rw [e16] at b15 b15b ⊢
      refine ix_i (by omega) ?_
      intro b17 b17b
      have e18 : T1 211 0 c = T 211 0 c := hf_59 211 0 c rfl
      rw [e18] at b17 b17b ⊢
      refine rg_i (by omega) ?_
      refine And.intro (fun c19 => ?_) (fun c19 => ?_)
      · refine hK 119 _ [] T1 ?_
        refine j_blx (F := fX11) tb_X11 (nn_ _) bk_X11_firsts_e_119 bs_X11_firsts_e_119 hz (fun K hK => ?_)
        refine And.intro (fun c20 => ?_) (fun c20 => ?_)
        · refine hK 126 _ [] T1 ?_
          refine j_blx (F := fX11) tb_X11 (nn_ _) bk_X11_firsts_e_126 bs_X11_firsts_e_126 hz (fun K hK => ?_)
          refine bd_i (by omega) ?_
          refine x_nm (fun U21 hU21 => ?_)
          have e22 := up_f hU21
          refine hK 137 [some (vR 111 0), some (vI c), some (vI cl), some (vI mn), some (vI al), some (vI 0), some (vI 0), none, none] [] U21 ?_
          refine c_137 _ mn al 0 0 U21 (Nat.le_refl _) ?_ ?_ ?_ ?_
          · exact fr_u (fr_t (fr_0 _ _) (fr_s hf_59 rfl)) hU21 rfl
          · exact he
          · omega
          · omega
        · refine (show po_X11_firsts_e T c cl T1 (some (vI (-1))) from ?_)
          have e23 : T1 111 0 80 = T 111 0 80 := hf_59 111 0 80 rfl
          exact ⟨_, rfl, fr_t (fr_0 _ _) (fr_s hf_59 rfl), fun z => (hf_59 111 0 80 rfl).trans z⟩
      · refine hK 80 _ [vI m, vR 111 0] T1 ?_
        refine j_callV (y := yX11_isLeft) (Yc := zX11_isLeft) (rest := []) [vI m] (ct_X11_isLeft (T := T1) (by omega)) cl_X11_538 (qd_c (by decide +kernel)) (nn_ _) rfl (rf_of rfl) (Nat.le_of_ble_eq_true rfl) (Nat.le_of_ble_eq_true rfl) (Nat.le_of_ble_eq_true rfl) rfl ?_
        rintro _ _ ⟨rfl, x24, rfl, hx24⟩
        show J_ zX11_firsts T (po_X11_firsts_e T c cl) 0 0 83 _ [vI x24] T1
        refine j_blx (F := fX11) tb_X11 (nn_ _) bk_X11_firsts_e_83 bs_X11_firsts_e_83 hz (fun K hK => ?_)
        refine And.intro (fun c25 => ?_) (fun c25 => ?_)
        · replace hx24 := hx24.resolve_left (fun z => absurd (c25.symm.trans z.1) (by decide))
          clear c25
          refine hK 113 _ [] T1 ?_
          refine j_blx (F := fX11) tb_X11 (nn_ _) bk_X11_firsts_e_113 bs_X11_firsts_e_113 hz (fun K hK => ?_)
          refine rg_i (by omega) ?_
          refine hK 59 [some (vR 111 0), some (vI c), some (vI cl), some (vI mn), some (vI al), some (vI (m + 1)), none, none, none] [] T1 ?_
          refine ih_59 _ ?_ mn al (m + 1) T1 (Nat.le_refl _) ?_ ?_ ?_ ?_
          · have hm_59 := hm_59 (); omega
          · exact fr_t (fr_0 _ _) (fr_s hf_59 rfl)
          · exact he
          · omega
          · omega
        · replace hx24 := hx24.resolve_right (fun z => c25 z.1)
          clear c25
          refine iy_i (by omega) (by omega) ?_
          refine x_nm (fun U26 hU26 => ?_)
          have e27 := up_f hU26
          refine rg_i (by omega) ?_
          refine And.intro (fun c28 => ?_) (fun c28 => ?_)
          · refine hK 107 [some (vR 111 0), some (vI c), some (vI cl), some (vI (mn + 1)), some (vI al), some (vI m), none, none, none] [] U26 ?_
            refine j_blx (F := fX11) tb_X11 (nn_ _) bk_X11_firsts_e_107 bs_X11_firsts_e_107 hz (fun K hK => ?_)
            intro w29 w29b
            refine rg_i (by omega) ?_
            refine hK 59 [some (vR 111 0), some (vI c), some (vI cl), some (vI (mn + 1)), some (vI (wr_ (3 * al))), some (vI (m + 1)), none, none, none] [] U26 ?_
            refine ih_59 _ ?_ (mn + 1) (wr_ (3 * al)) (m + 1) U26 (Nat.le_refl _) ?_ ?_ ?_ ?_
            · have hm_59 := hm_59 (); omega
            · exact fr_u (fr_t (fr_0 _ _) (fr_s hf_59 rfl)) hU26 rfl
            · exact he
            · omega
            · omega
          · refine hK 111 [some (vR 111 0), some (vI c), some (vI cl), some (vI (mn + 1)), some (vI al), some (vI m), none, none, none] [vI al] U26 ?_
            refine j_blx (F := fX11) tb_X11 (nn_ _) bk_X11_firsts_e_111 bs_X11_firsts_e_111 hz (fun K hK => ?_)
            refine rg_i (by omega) ?_
            refine hK 59 [some (vR 111 0), some (vI c), some (vI cl), some (vI (mn + 1)), some (vI al), some (vI (m + 1)), none, none, none] [] U26 ?_
            refine ih_59 _ ?_ (mn + 1) al (m + 1) U26 (Nat.le_refl _) ?_ ?_ ?_ ?_
            · have hm_59 := hm_59 (); omega
            · exact fr_u (fr_t (fr_0 _ _) (fr_s hf_59 rfl)) hU26 rfl
            · exact he
            · omega
            · omega
  refine j_blx (F := fX11) tb_X11 (nn_ _) bk_X11_firsts_e_0 bs_X11_firsts_e_0 hz (fun K hK => ?_)
  intro b30 b30b
  refine hK 5 _ [vI (T 111 0 6), vI c] T ?_
  refine j_callS (y := yX11_isOf) (Yc := zX11_isOf) (rest := []) [vI c, vI (T 111 0 6)] (ct_X11_isOf (T := T) (by omega)) cl_X11_317 (qd_c (by decide +kernel)) (nn_ _) rfl (rf_of rfl) (Nat.le_of_ble_eq_true rfl) (Nat.le_of_ble_eq_true rfl) (Nat.le_of_ble_eq_true rfl) rfl ?_
  rintro _ _ ⟨rfl, x31, rfl, hx31⟩
  show J_ zX11_firsts T (po_X11_firsts_e T c cl) 0 0 8 _ [vI x31] T
  refine j_blx (F := fX11) tb_X11 (nn_ _) bk_X11_firsts_e_8 bs_X11_firsts_e_8 hz (fun K hK => ?_)
  refine And.intro (fun c32 => ?_) (fun c32 => ?_)
  · replace hx31 := hx31.resolve_left (fun z => absurd (c32.symm.trans z.1) (by decide))
    clear c32
    refine hK 22 _ [] T ?_
    refine j_blx (F := fX11) tb_X11 (nn_ _) bk_X11_firsts_e_22 bs_X11_firsts_e_22 hz (fun K hK => ?_)
    refine (show po_X11_firsts_e T c cl T (some (vI (-2))) from ?_)
    exact ⟨_, rfl, fr_0 _ _, fun z => z⟩
  · replace hx31 := hx31.resolve_right (fun z => c32 z.1)
    clear c32
    intro b33 b33b
    refine hK 16 _ [vI (T 111 0 12), vI cl] T ?_
    refine j_callS (y := yX11_isOf) (Yc := zX11_isOf) (rest := []) [vI cl, vI (T 111 0 12)] (ct_X11_isOf (T := T) (by omega)) cl_X11_317 (qd_c (by decide +kernel)) (nn_ _) rfl (rf_of rfl) (Nat.le_of_ble_eq_true rfl) (Nat.le_of_ble_eq_true rfl) (Nat.le_of_ble_eq_true rfl) rfl ?_
    rintro _ _ ⟨rfl, x34, rfl, hx34⟩
    show J_ zX11_firsts T (po_X11_firsts_e T c cl) 0 0 19 _ [vI x34] T
    refine j_blx (F := fX11) tb_X11 (nn_ _) bk_X11_firsts_e_19 bs_X11_firsts_e_19 hz (fun K hK => ?_)
    refine And.intro (fun c35 => ?_) (fun c35 => ?_)
    · replace hx34 := hx34.resolve_right (fun z => c35 z.1)
      clear c35
      refine hK 25 _ [] T ?_
      refine j_blx (F := fX11) tb_X11 (nn_ _) bk_X11_firsts_e_25 bs_X11_firsts_e_25 hz (fun K hK => ?_)
      refine ix_i (by omega) ?_
      intro b36 b36b
      refine And.intro (fun c37 => ?_) (fun c37 => ?_)
      · refine hK 43 _ [] T ?_
        refine j_blx (F := fX11) tb_X11 (nn_ _) bk_X11_firsts_e_43 bs_X11_firsts_e_43 hz (fun K hK => ?_)
        refine (show po_X11_firsts_e T c cl T (some (vI (-4))) from ?_)
        exact ⟨_, rfl, fr_0 _ _, fun z => z⟩
      · refine hK 37 _ [vI cl, vI c, vR 111 0] T ?_
        refine j_callV (y := yX11_hasEntered) (Yc := zX11_hasEntered) (rest := []) [vI c, vI cl] (ct_X11_hasEntered (T := T) (by omega)) cl_X11_340 (qd_c (by decide +kernel)) (nn_ _) rfl (rf_of rfl) (Nat.le_of_ble_eq_true rfl) (Nat.le_of_ble_eq_true rfl) (Nat.le_of_ble_eq_true rfl) rfl ?_
        rintro _ _ ⟨rfl, x38, rfl, hx38⟩
        show J_ zX11_firsts T (po_X11_firsts_e T c cl) 0 0 40 _ [vI x38] T
        refine j_blx (F := fX11) tb_X11 (nn_ _) bk_X11_firsts_e_40 bs_X11_firsts_e_40 hz (fun K hK => ?_)
        refine And.intro (fun c39 => ?_) (fun c39 => ?_)
        · have he : HE_ T c cl := (hx38.resolve_right (fun z => absurd z.1 (by omega))).2
          refine hK 46 _ [] T ?_
          have hmc := hml c (by omega) (by omega)
          have hb_29 : 0 ≤ T 111 0 29 ∧ T 111 0 29 ≤ 400 := bd_f hT 111 29 tl_11_29 0
          have hfo : 0 ≤ T 210 0 c ∧ T 210 0 c ≤ 400 := bd_a hT 210 (by decide +kernel : ta_ 210 = some (1, some 4, 0, 400)) 0 (by omega)
          have hmo : 0 ≤ T 211 0 c ∧ T 211 0 c ≤ 400 := bd_a hT 211 (by decide +kernel : ta_ 211 = some (1, some 4, 0, 400)) 0 (by omega)
          refine j_blx (F := fX11) tb_X11 (nn_ _) bk_X11_firsts_e_46 bs_X11_firsts_e_46 hz (fun K hK => ?_)
          refine ix_i (by omega) ?_
          intro b40 b40b
          refine hK 59 [some (vR 111 0), some (vI c), some (vI cl), some (vI 0), some (vI 1), some (vI (T 210 0 c)), none, none, none] [] T ?_
          refine c_59 _ 0 1 (T 210 0 c) T (Nat.le_refl _) ?_ ?_ ?_ ?_
          · exact fr_0 _ _
          · exact he
          · omega
          · omega
        · replace hx38 := hx38.resolve_left (fun z => absurd (c39.symm.trans z.1) (by decide))
          clear c39
          refine (show po_X11_firsts_e T c cl T (some (vI (-4))) from ?_)
          exact ⟨_, rfl, fr_0 _ _, fun z => z⟩
    · replace hx34 := hx34.resolve_left (fun z => absurd (c35.symm.trans z.1) (by decide))
      clear c35
      refine (show po_X11_firsts_e T c cl T (some (vI (-2))) from ?_)
      exact ⟨_, rfl, fr_0 _ _, fun z => z⟩
-- the list of those that are D, words
/-- the matches that are D, in their order: how many, which -/
noncomputable def dl9_ (D : Int → Prop) : Nat → Int × (Int → Int)
  | 0 => (0, fun _ => 0)
  | m + 1 => cz_ (D (m : Int)) ((dl9_ D m).1 + 1, fu_ (dl9_ D m).2 (dl9_ D m).1 (m : Int)) (dl9_ D m)
theorem dl_t {D : Int → Prop} {m : Int} (hm : 0 ≤ m) (h : D m) : dl9_ D (m + 1).toNat = ((dl9_ D m.toNat).1 + 1, fu_ (dl9_ D m.toNat).2 (dl9_ D m.toNat).1 m) := by
  rw [show (m + 1).toNat = m.toNat + 1 by omega]
  have e : ((m.toNat : Nat) : Int) = m := by omega
  show cz_ (D ((m.toNat : Nat) : Int)) ((dl9_ D m.toNat).1 + 1, fu_ (dl9_ D m.toNat).2 (dl9_ D m.toNat).1 ((m.toNat : Nat) : Int)) (dl9_ D m.toNat) = _
  rw [e]
  exact cz_t h
theorem dl_f {D : Int → Prop} {m : Int} (hm : 0 ≤ m) (h : ¬ D m) : dl9_ D (m + 1).toNat = dl9_ D m.toNat := by
  rw [show (m + 1).toNat = m.toNat + 1 by omega]
  have e : ((m.toNat : Nat) : Int) = m := by omega
  show cz_ (D ((m.toNat : Nat) : Int)) ((dl9_ D m.toNat).1 + 1, fu_ (dl9_ D m.toNat).2 (dl9_ D m.toNat).1 ((m.toNat : Nat) : Int)) (dl9_ D m.toNat) = _
  rw [e]
  exact cz_f h
theorem dl_b {D : Int → Prop} : ∀ m : Nat, (0 ≤ (dl9_ D m).1 ∧ (dl9_ D m).1 ≤ (m : Int)) ∧ ∀ j, 0 ≤ j → j < (dl9_ D m).1 → 0 ≤ (dl9_ D m).2 j ∧ (dl9_ D m).2 j < (m : Int)
  | 0 => ⟨⟨Int.le_refl _, Int.le_refl _⟩, fun j a b => by
      have b' : j < 0 := b
      omega⟩
  | m + 1 => by
    have ih := dl_b (D := D) m
    show (0 ≤ (cz_ (D (m : Int)) ((dl9_ D m).1 + 1, fu_ (dl9_ D m).2 (dl9_ D m).1 (m : Int)) (dl9_ D m)).1 ∧ (cz_ (D (m : Int)) ((dl9_ D m).1 + 1, fu_ (dl9_ D m).2 (dl9_ D m).1 (m : Int)) (dl9_ D m)).1 ≤ ((m + 1 : Nat) : Int)) ∧ ∀ j, 0 ≤ j → j < (cz_ (D (m : Int)) ((dl9_ D m).1 + 1, fu_ (dl9_ D m).2 (dl9_ D m).1 (m : Int)) (dl9_ D m)).1 → 0 ≤ (cz_ (D (m : Int)) ((dl9_ D m).1 + 1, fu_ (dl9_ D m).2 (dl9_ D m).1 (m : Int)) (dl9_ D m)).2 j ∧ (cz_ (D (m : Int)) ((dl9_ D m).1 + 1, fu_ (dl9_ D m).2 (dl9_ D m).1 (m : Int)) (dl9_ D m)).2 j < ((m + 1 : Nat) : Int)
    by_cases z : D (m : Int)
    · rw [cz_t z]
      refine ⟨⟨show 0 ≤ (dl9_ D m).1 + 1 by omega, show (dl9_ D m).1 + 1 ≤ ((m + 1 : Nat) : Int) by omega⟩, fun j a b => ?_⟩
      have b' : j < (dl9_ D m).1 + 1 := b
      show 0 ≤ fu_ (dl9_ D m).2 (dl9_ D m).1 (m : Int) j ∧ fu_ (dl9_ D m).2 (dl9_ D m).1 (m : Int) j < ((m + 1 : Nat) : Int)
      by_cases y : j = (dl9_ D m).1
      · rw [y, fu_s]
        omega
      · rw [fu_n y]
        have := ih.2 j a (by omega)
        omega
    · rw [cz_f z]
      refine ⟨⟨ih.1.1, by omega⟩, fun j a b => ?_⟩
      have := ih.2 j a b
      omega
theorem dl_c {D D' : Int → Prop} : ∀ m : Nat, (∀ i : Int, 0 ≤ i → i < (m : Int) → (D i ↔ D' i)) → dl9_ D m = dl9_ D' m
  | 0, _ => rfl
  | m + 1, h => by
    show cz_ (D (m : Int)) ((dl9_ D m).1 + 1, fu_ (dl9_ D m).2 (dl9_ D m).1 (m : Int)) (dl9_ D m) = cz_ (D' (m : Int)) ((dl9_ D' m).1 + 1, fu_ (dl9_ D' m).2 (dl9_ D' m).1 (m : Int)) (dl9_ D' m)
    rw [dl_c m (fun i a b => h i a (by omega))]
    have e := h (m : Int) (by omega) (by omega)
    by_cases z : D (m : Int)
    · rw [cz_t z, cz_t (e.mp z)]
    · rw [cz_f z, cz_f (fun y => z (e.mpr y))]
/-- a match is decided on both sides or on none -/
theorem dc_e {T : Zt} {m : Int} (pm : PM_ T m) : (T 102 m 6 ≠ -1 ∨ (T 102 m 10 ≠ 0 ∧ T 103 m 3 ≠ 0)) ↔ (T 235 0 m = 2 ∨ T 235 0 m = 3) := by
  rcases pm with h | h | h
  · unfold PAA_ at h
    omega
  · unfold PBB_ at h
    omega
  · obtain ⟨h1, h2, h3, ⟨n, hn, hs⟩, -⟩ := h
    have e := hs.1.2.2.1.2.2
    rw [rp_35, rs_d (T := T) (p := m) (k := 103) (j := 3) rfl] at e
    omega
-- the list of those that are left
/-- the list holds such alone, in their order, and all of them -/
theorem dl_a {D : Int → Prop} : ∀ m : Nat, (∀ j, 0 ≤ j → j < (dl9_ D m).1 → D ((dl9_ D m).2 j)) ∧ (∀ i j, 0 ≤ i → i < j → j < (dl9_ D m).1 → (dl9_ D m).2 i < (dl9_ D m).2 j) ∧ (∀ i, 0 ≤ i → i < (m : Int) → D i → ∃ j, 0 ≤ j ∧ j < (dl9_ D m).1 ∧ (dl9_ D m).2 j = i)
  | 0 => ⟨fun j a b => by
      have b' : j < 0 := b
      omega, fun i j a b e => by
      have e' : j < 0 := e
      omega, fun i a b => by omega⟩
  | m + 1 => by
    have ih := dl_a (D := D) m
    have bd := dl_b (D := D) m
    by_cases z : D (m : Int)
    · have e : dl9_ D (m + 1) = ((dl9_ D m).1 + 1, fu_ (dl9_ D m).2 (dl9_ D m).1 (m : Int)) := cz_t z
      rw [e]
      refine ⟨fun j a b => ?_, fun i j a b q => ?_, fun i a b q => ?_⟩
      · have b' : j < (dl9_ D m).1 + 1 := b
        show D (fu_ (dl9_ D m).2 (dl9_ D m).1 (m : Int) j)
        by_cases y : j = (dl9_ D m).1
        · rw [y, fu_s]
          exact z
        · rw [fu_n y]
          exact ih.1 j a (by omega)
      · have q' : j < (dl9_ D m).1 + 1 := q
        show fu_ (dl9_ D m).2 (dl9_ D m).1 (m : Int) i < fu_ (dl9_ D m).2 (dl9_ D m).1 (m : Int) j
        rw [fu_n (show i ≠ (dl9_ D m).1 by omega)]
        by_cases y : j = (dl9_ D m).1
        · rw [y, fu_s]
          exact (bd.2 i a (by omega)).2
        · rw [fu_n y]
          exact ih.2.1 i j a b (by omega)
      · by_cases y : i = (m : Int)
        · exact ⟨(dl9_ D m).1, bd.1.1, show (dl9_ D m).1 < (dl9_ D m).1 + 1 by omega, by
            show fu_ (dl9_ D m).2 (dl9_ D m).1 (m : Int) (dl9_ D m).1 = i
            rw [fu_s, y]⟩
        · obtain ⟨j, j0, j1, j2⟩ := ih.2.2 i a (by omega) q
          exact ⟨j, j0, show j < (dl9_ D m).1 + 1 by omega, by
            show fu_ (dl9_ D m).2 (dl9_ D m).1 (m : Int) j = i
            rw [fu_n (show j ≠ (dl9_ D m).1 by omega)]
            exact j2⟩
    · have e : dl9_ D (m + 1) = dl9_ D m := cz_f z
      rw [e]
      refine ⟨ih.1, ih.2.1, fun i a b q => ?_⟩
      by_cases y : i = (m : Int)
      · exact absurd (y ▸ q) z
      · exact ih.2.2 i a (by omega) q
-- officials: matchings of least cost, words
/-- a sum over n numbers from f on -/
def sf9_ (h : Int → Int) (f : Int) : Nat → Int
  | 0 => 0
  | n + 1 => sf9_ h f n + h (f + (n : Int))
theorem sf_e {h h' : Int → Int} {f : Int} : ∀ n : Nat, (∀ i, f ≤ i → i < f + (n : Int) → h i = h' i) → sf9_ h f n = sf9_ h' f n
  | 0, _ => rfl
  | n + 1, g => by
    show sf9_ h f n + h (f + (n : Int)) = sf9_ h' f n + h' (f + (n : Int))
    rw [sf_e n (fun i a b => g i a (by omega)), g (f + (n : Int)) (by omega) (by omega)]
/-- the first of the sum -/
theorem sf_h {h : Int → Int} {f : Int} : ∀ n : Nat, sf9_ h f (n + 1) = h f + sf9_ h (f + 1) n
  | 0 => by
    show 0 + h (f + ((0 : Nat) : Int)) = h f + 0
    rw [show f + ((0 : Nat) : Int) = f by omega]
    omega
  | n + 1 => by
    show sf9_ h f (n + 1) + h (f + ((n + 1 : Nat) : Int)) = h f + (sf9_ h (f + 1) n + h (f + 1 + (n : Int)))
    rw [sf_h n, show f + ((n + 1 : Nat) : Int) = f + 1 + (n : Int) by omega]
    omega
/-- one of the sum is another -/
theorem sf_u {h h' : Int → Int} {f j : Int} : ∀ n : Nat, f ≤ j → j < f + (n : Int) → (∀ i, i ≠ j → h' i = h i) → sf9_ h' f n = sf9_ h f n - h j + h' j
  | 0, a, b, _ => by omega
  | n + 1, a, b, g => by
    show sf9_ h' f n + h' (f + (n : Int)) = sf9_ h f n + h (f + (n : Int)) - h j + h' j
    by_cases z : j = f + (n : Int)
    · rw [sf_e (h := h') (h' := h) n (fun i p q => g i (by omega)), ← z]
      omega
    · rw [sf_u n a (by omega) g, g (f + (n : Int)) (fun q => z q.symm)]
      omega
