-- the reference's says, its comparing and sorting, exactly: words
def lx9_ (x : Int) : Nat → Int
  | 0 => x
  | n + 1 => if (n : Int) < 2 then wr_ (xo_ (lx9_ x n) (us_ (lx9_ x n) 16) * 73244475) else xo_ (lx9_ x n) (us_ (lx9_ x n) 16)
theorem lx_t {x v : Int} {n : Nat} (h : v = lx9_ x n) (hn : (n : Int) < 2) : wr_ (xo_ v (us_ v 16) * 73244475) = lx9_ x (n + 1) := by
  rw [h]
  exact (if_pos hn).symm
theorem lx_f {x v : Int} {n : Nat} (h : v = lx9_ x n) (hn : ¬ (n : Int) < 2) : xo_ v (us_ v 16) = lx9_ x (n + 1) := by
  rw [h]
  exact (if_neg hn).symm
def lo9_ (a b c : Int) : Int := an_ (lx9_ (wr_ (wr_ (wr_ (wr_ (a * 1000003) + b) * 31) + c)) 3) 2147483647
/-- told less, by the first of three that differs -/
def LIm_ (T : Zt) (a b : Int) : Prop := ∃ i, 0 ≤ i ∧ i < 3 ∧ EQ_ T a b i ∧ T 284 0 (3 * a + i) < T 284 0 (3 * b + i)
theorem eq_y {T : Zt} {a b i : Int} (h : EQ_ T a b i) : EQ_ T b a i := fun j p q => (h j p q).symm
theorem li_k {T T1 : Zt} {a b : Int} (e : ∀ j, T1 284 0 j = T 284 0 j) (h : LIm_ T1 a b) : LIm_ T a b := by
  obtain ⟨i, i0, i1, i2, i3⟩ := h
  rw [e, e] at i3
  exact ⟨i, i0, i1, fun j p q => by have := i2 j p q; rw [e, e] at this; exact this, i3⟩
theorem eq_k {T T1 : Zt} {a b i : Int} (e : ∀ j, T1 284 0 j = T 284 0 j) (h : EQ_ T1 a b i) : EQ_ T a b i := fun j p q => by
  have := h j p q
  rw [e, e] at this
  exact this
theorem li_x {T : Zt} {a b : Int} (h : LIm_ T a b) : T 284 0 (3 * a) < T 284 0 (3 * b) ∨ (T 284 0 (3 * a) = T 284 0 (3 * b) ∧ (T 284 0 (3 * a + 1) < T 284 0 (3 * b + 1) ∨ (T 284 0 (3 * a + 1) = T 284 0 (3 * b + 1) ∧ T 284 0 (3 * a + 2) < T 284 0 (3 * b + 2)))) := by
  obtain ⟨i, i0, i1, i2, i3⟩ := h
  have e0 : 0 < i → T 284 0 (3 * a) = T 284 0 (3 * b) := fun q => by
    have := i2 0 (by omega) q
    rw [show 3 * a + 0 = 3 * a by omega, show 3 * b + 0 = 3 * b by omega] at this
    exact this
  have e1 : 1 < i → T 284 0 (3 * a + 1) = T 284 0 (3 * b + 1) := fun q => i2 1 (by omega) q
  rcases (by omega : i = 0 ∨ i = 1 ∨ i = 2) with z | z | z
  · rw [z, show 3 * a + 0 = 3 * a by omega, show 3 * b + 0 = 3 * b by omega] at i3
    exact Or.inl i3
  · rw [z] at i3
    exact Or.inr ⟨e0 (by omega), Or.inl i3⟩
  · rw [z] at i3
    exact Or.inr ⟨e0 (by omega), Or.inr ⟨e1 (by omega), i3⟩⟩
theorem eq_x {T : Zt} {a b : Int} (h : EQ_ T a b 3) : T 284 0 (3 * a) = T 284 0 (3 * b) ∧ T 284 0 (3 * a + 1) = T 284 0 (3 * b + 1) ∧ T 284 0 (3 * a + 2) = T 284 0 (3 * b + 2) := by
  have e0 := h 0 (by decide) (by decide)
  rw [show 3 * a + 0 = 3 * a by omega, show 3 * b + 0 = 3 * b by omega] at e0
  exact ⟨e0, h 1 (by decide) (by decide), h 2 (by decide) (by decide)⟩
/-- what is said orders those of a group as W does -/
def WX_ (T : Zt) (W : Int → Int) (g : Int) : Prop := ∀ a b : Int, 0 ≤ a → a < 12 → 0 ≤ b → b < 12 → mb9_ g a → mb9_ g b → (LIm_ T a b → W a < W b) ∧ (EQ_ T a b 3 → W a = W b)
theorem wx_k {T T1 : Zt} {W : Int → Int} {g : Int} (h : WX_ T W g) (e : ∀ j, T1 284 0 j = T 284 0 j) : WX_ T1 W g := fun a b a0 a1 b0 b1 ma mb => ⟨fun q => (h a b a0 a1 b0 b1 ma mb).1 (li_k e q), fun q => (h a b a0 a1 b0 b1 ma mb).2 (eq_k e q)⟩
-- inserting, by places
theorem ud_r {T T1 : Zt} {k : Nat} {j v : Int} (e : T1 = up_ T k 0 j v) : (fun x => T1 k 0 x) = ud9_ (fun x => T k 0 x) j v := by
  funext x
  by_cases z : x = j
  · rw [z, ud_s]
    exact up_f e
  · rw [ud_n z]
    exact up_g e (fun q => z q.2.2)
theorem in_s {W o o' : Int → Int} {f x j : Int} (hj : f < j) (h : W (o (j - 1)) < W x) (e : o' = ud9_ o j (o (j - 1))) : in9_ W f x (j - 1 - f).toNat o' = in9_ W f x (j - f).toNat o := by
  have e1 : (j - f).toNat = (j - 1 - f).toNat + 1 := by omega
  have e2 : f + (((j - 1 - f).toNat : Nat) : Int) = j - 1 := by omega
  have e3 : j - 1 + 1 = j := by omega
  rw [e1, in_t (by rw [e2]; exact h), e2, e3, e]
theorem in_x {W o : Int → Int} {f x j : Int} (hj : f ≤ j) (h : j = f ∨ ¬ W (o (j - 1)) < W x) : in9_ W f x (j - f).toNat o = ud9_ o j x := by
  by_cases z : j = f
  · rw [z, show (f - f).toNat = 0 by omega]
    rfl
  · have e1 : (j - f).toNat = (j - 1 - f).toNat + 1 := by omega
    have e2 : f + (((j - 1 - f).toNat : Nat) : Int) = j - 1 := by omega
    have e3 : j - 1 + 1 = j := by omega
    rw [e1, in_f (by rw [e2]; exact h.resolve_left z), e2, e3]
theorem so_s {W o r : Int → Int} {f i : Int} (hi : f < i) (h : r = som9_ W f (i - f - 1).toNat o) : in9_ W f (r i) (i - f).toNat r = som9_ W f (i + 1 - f - 1).toNat o := by
  have e1 : (i + 1 - f - 1).toNat = (i - f - 1).toNat + 1 := by omega
  have e2 : (i - f).toNat = (i - f - 1).toNat + 1 := by omega
  have e3 : f + (((i - f - 1).toNat : Nat) : Int) + 1 = i := by omega
  rw [e1, e2]
  show _ = in9_ W f (som9_ W f (i - f - 1).toNat o (f + (((i - f - 1).toNat : Nat) : Int) + 1)) ((i - f - 1).toNat + 1) (som9_ W f (i - f - 1).toNat o)
  rw [← h, e3]
/-- the place by who is parted -/
def pc9_ (p : Int → Int) : Nat → Int
  | 0 => 1
  | n + 1 => if p (n : Int) = -1 then pc9_ p n else (n : Int) + 2
theorem pc_t {p : Int → Int} {i : Int} (hi : 0 < i) (h : p (i - 1) = -1) : pc9_ p (i - 1).toNat = pc9_ p i.toNat := by
  have e1 : i.toNat = (i - 1).toNat + 1 := by omega
  have e2 : (((i - 1).toNat : Nat) : Int) = i - 1 := by omega
  rw [e1]
  show _ = (if p (((i - 1).toNat : Nat) : Int) = -1 then pc9_ p (i - 1).toNat else _)
  rw [e2, if_pos h]
theorem pc_f {p : Int → Int} {i : Int} (hi : 0 ≤ i) (h : i = 0 ∨ p (i - 1) ≠ -1) : i + 1 = pc9_ p i.toNat := by
  by_cases z : i = 0
  · rw [z]
    rfl
  · have e1 : i.toNat = (i - 1).toNat + 1 := by omega
    have e2 : (((i - 1).toNat : Nat) : Int) = i - 1 := by omega
    rw [e1]
    show _ = (if p (((i - 1).toNat : Nat) : Int) = -1 then pc9_ p (i - 1).toNat else (((i - 1).toNat : Nat) : Int) + 2)
    rw [e2, if_neg (h.resolve_left z)]
    omega
-- what is said
def SVm_ (T U : Zt) (D : Int → Int → Int) : Prop := ∀ x i : Int, 0 ≤ x → x < 12 → 0 ≤ i → i ≤ 2 → U 284 0 (3 * x + i) = T 284 0 (3 * x + i) + D x i
theorem sv_0 {T : Zt} : SVm_ T T (fun _ _ => 0) := fun x i _ _ _ _ => by
  show T 284 0 (3 * x + i) = T 284 0 (3 * x + i) + 0
  omega
theorem sv_u {T U U2 : Zt} {D : Int → Int → Int} {j v y c q : Int} (h : SVm_ T U D) (e : U2 = up_ U 284 0 j v) (hj : j = 3 * c + q) (hq : 0 ≤ q ∧ q ≤ 2) (hv : v = U 284 0 j + y) : SVm_ T U2 (fun x i => D x i + cz_ (x = c ∧ i = q) y 0) := fun x i x0 x1 i0 i1 => by
  show U2 284 0 (3 * x + i) = T 284 0 (3 * x + i) + (D x i + cz_ (x = c ∧ i = q) y 0)
  have g := h x i x0 x1 i0 i1
  by_cases z : x = c ∧ i = q
  · have e9 : 3 * x + i = j := by omega
    rw [cz_t z, e9, up_f e, hv]
    rw [e9] at g
    omega
  · rw [cz_f z, up_g e (fun p => z (by omega)), g]
    omega
theorem pt_v {ru : Int → Int} {v a b : Int} (h : (v = 1 ∧ b < a) ∨ (v = 2 ∧ a = b) ∨ (v = 3 ∧ a < b)) : ru v = ptm9_ ru a b ∧ ru (4 - v) = ptm9_ ru b a := by
  rcases h with ⟨rfl, h⟩ | ⟨rfl, h⟩ | ⟨rfl, h⟩
  · exact ⟨(pt_1 h).symm, (pt_3 h).symm⟩
  · exact ⟨(pt_2 h).symm, (pt_2 h.symm).symm⟩
  · exact ⟨(pt_3 h).symm, (pt_1 h).symm⟩
theorem gh_d {ru : Int → Int} {v : Mv_} {g x i k H A a b p p' : Int} (h0 : v k 0 = 1) (g1 : v k 1 = H) (g2 : v k 2 = A) (g3 : v k 3 = a) (g4 : v k 4 = b) (m1 : mb9_ g H) (m2 : mb9_ g A) (i0 : 0 ≤ i) (i1 : i ≤ 2) (e1 : p = ptm9_ ru a b) (e2 : p' = ptm9_ ru b a) :
    0 + cz_ (x = H ∧ i = 0) p 0 + cz_ (x = A ∧ i = 0) p' 0 + cz_ (x = H ∧ i = 1) (a - b) 0 + cz_ (x = A ∧ i = 1) (b - a) 0 + cz_ (x = H ∧ i = 2) a 0 + cz_ (x = A ∧ i = 2) b 0 = gh9_ ru v g x i k := by
  have N : ∀ (P : Prop) (y : Int), ¬ P → cz_ P y 0 = 0 := fun _ _ q => cz_f q
  have S : ∀ (c y : Int), cz_ (x = c ∧ i = i) y 0 = cz_ (c = x) y 0 := fun c y => cz_g ⟨fun q => q.1.symm, fun q => ⟨q.symm, rfl⟩⟩
  unfold gh9_
  rw [g1, g2, g3, g4, cz_t (P := v k 0 = 1 ∧ mb9_ g H ∧ mb9_ g A) ⟨h0, m1, m2⟩]
  rcases (by omega : i = 0 ∨ i = 1 ∨ i = 2) with z | z | z
  · have w0 : gv9_ ru i a b = p := by rw [z, e1]; rfl
    have w1 : gv9_ ru i b a = p' := by rw [z, e2]; rfl
    rw [w0, w1, N (x = H ∧ i = 1) _ (fun q => by omega), N (x = A ∧ i = 1) _ (fun q => by omega), N (x = H ∧ i = 2) _ (fun q => by omega), N (x = A ∧ i = 2) _ (fun q => by omega), ← S H p, ← S A p']
    rw [z]
    omega
  · have w0 : gv9_ ru i a b = a - b := by rw [z]; rfl
    have w1 : gv9_ ru i b a = b - a := by rw [z]; rfl
    rw [w0, w1, N (x = H ∧ i = 0) _ (fun q => by omega), N (x = A ∧ i = 0) _ (fun q => by omega), N (x = H ∧ i = 2) _ (fun q => by omega), N (x = A ∧ i = 2) _ (fun q => by omega), ← S H (a - b), ← S A (b - a)]
    rw [z]
    omega
  · have w0 : gv9_ ru i a b = a := by rw [z]; rfl
    have w1 : gv9_ ru i b a = b := by rw [z]; rfl
    rw [w0, w1, N (x = H ∧ i = 0) _ (fun q => by omega), N (x = A ∧ i = 0) _ (fun q => by omega), N (x = H ∧ i = 1) _ (fun q => by omega), N (x = A ∧ i = 1) _ (fun q => by omega), ← S H a, ← S A b]
    rw [z]
    omega
def GN_ (T U : Zt) (ru : Int → Int) (v : Mv_) (g : Int) (n : Nat) : Prop := ∀ x i : Int, 0 ≤ x → x < 12 → 0 ≤ i → i ≤ 2 → U 284 0 (3 * x + i) = T 284 0 (3 * x + i) + gn9_ ru v g x i n
theorem gn_0 {T : Zt} {ru : Int → Int} {v : Mv_} {g : Int} : GN_ T T ru v g 0 := fun x i _ _ _ _ => by
  show T 284 0 (3 * x + i) = T 284 0 (3 * x + i) + 0
  omega
theorem gn_z {T U U2 : Zt} {ru : Int → Int} {v : Mv_} {g : Int} {n : Nat} (h : GN_ T U ru v g n) (z : ¬ (v (n : Int) 0 = 1 ∧ mb9_ g (v (n : Int) 1) ∧ mb9_ g (v (n : Int) 2))) (e : ∀ j, U2 284 0 j = U 284 0 j) : GN_ T U2 ru v g (n + 1) := fun x i a b c d => by
  rw [e, h x i a b c d]
  show T 284 0 (3 * x + i) + gn9_ ru v g x i n = T 284 0 (3 * x + i) + (gn9_ ru v g x i n + gh9_ ru v g x i (n : Int))
  rw [show gh9_ ru v g x i (n : Int) = 0 from cz_f z]
  omega
theorem gn_s {T U U2 : Zt} {ru : Int → Int} {v : Mv_} {g : Int} {n : Nat} {D : Int → Int → Int} (h : GN_ T U ru v g n) (s : SVm_ U U2 D) (e : ∀ x i, 0 ≤ i → i ≤ 2 → D x i = gh9_ ru v g x i (n : Int)) : GN_ T U2 ru v g (n + 1) := fun x i a b c d => by
  rw [s x i a b c d, h x i a b c d, e x i c d]
  show T 284 0 (3 * x + i) + gn9_ ru v g x i n + gh9_ ru v g x i (n : Int) = T 284 0 (3 * x + i) + (gn9_ ru v g x i n + gh9_ ru v g x i (n : Int))
  omega
def kv9_ (ru : Int → Int) (k : Int) : Int := if k = 0 then -1 else ru (15 + k)
noncomputable def sv9_ (kv : Int) (L : Int → Int → Int) (sd g x : Int) : Int := if kv = -1 then L x 6 else if kv = 0 then L x 4 - L x 5 else if kv = 1 then L x 4 else if kv = 2 then L x 1 else if kv = 3 then L x 7 else if kv = 5 then - L x 8 else lo9_ sd g x
theorem sv_v {kv : Int} {L : Int → Int → Int} {sd g x : Int} : (kv = -1 → sv9_ kv L sd g x = L x 6) ∧ (kv = 0 → sv9_ kv L sd g x = L x 4 - L x 5) ∧ (kv = 1 → sv9_ kv L sd g x = L x 4) ∧ (kv = 2 → sv9_ kv L sd g x = L x 1) ∧ (kv = 3 → sv9_ kv L sd g x = L x 7) ∧ (kv = 5 → sv9_ kv L sd g x = - L x 8) ∧ (¬ (-1 ≤ kv ∧ kv ≤ 3) → kv ≠ 5 → sv9_ kv L sd g x = lo9_ sd g x) := by
  refine ⟨fun h => ?_, fun h => ?_, fun h => ?_, fun h => ?_, fun h => ?_, fun h => ?_, fun h h' => ?_⟩ <;> unfold sv9_
  · rw [if_pos h]
  · rw [if_neg (by omega), if_pos h]
  · rw [if_neg (by omega), if_neg (by omega), if_pos h]
  · rw [if_neg (by omega), if_neg (by omega), if_neg (by omega), if_pos h]
  · rw [if_neg (by omega), if_neg (by omega), if_neg (by omega), if_neg (by omega), if_pos h]
  · rw [if_neg (by omega), if_neg (by omega), if_neg (by omega), if_neg (by omega), if_neg (by omega), if_pos h]
  · rw [if_neg (by omega), if_neg (by omega), if_neg (by omega), if_neg (by omega), if_neg (by omega), if_neg (by omega)]
/-- what a club is worth by a key -/
noncomputable def ww9_ (ru : Int → Int) (L : Int → Int → Int) (P : Int → Int → Int → Int) (k g x : Int) : Int := if kv9_ ru k = 4 then (P g x 0 * 1000000 + P g x 1) * 1000000 + P g x 2 else sv9_ (kv9_ ru k) L (ru 15) g x
theorem ww_4 {ru : Int → Int} {L : Int → Int → Int} {P : Int → Int → Int → Int} {k g x : Int} (h : kv9_ ru k = 4) : ww9_ ru L P k g x = (P g x 0 * 1000000 + P g x 1) * 1000000 + P g x 2 := if_pos h
theorem ww_n {ru : Int → Int} {L : Int → Int → Int} {P : Int → Int → Int → Int} {k g x : Int} (h : kv9_ ru k ≠ 4) : ww9_ ru L P k g x = sv9_ (kv9_ ru k) L (ru 15) g x := if_neg h
/-- one number for three -/
theorem wx_4 {T : Zt} {ru : Int → Int} {L : Int → Int → Int} {P : Int → Int → Int → Int} {k g : Int} (h : kv9_ ru k = 4) (e : ∀ x i : Int, 0 ≤ x → x < 12 → 0 ≤ i → i ≤ 2 → T 284 0 (3 * x + i) = P g x i) (b : ∀ x : Int, 0 ≤ x → x < 12 → (-499000 ≤ P g x 1 ∧ P g x 1 ≤ 499000) ∧ (0 ≤ P g x 2 ∧ P g x 2 ≤ 999000)) : WX_ T (ww9_ ru L P k g) g := fun x y x0 x1 y0 y1 _ _ => by
  have ex0 := e x 0 x0 x1 (by decide) (by decide)
  have ey0 := e y 0 y0 y1 (by decide) (by decide)
  rw [show 3 * x + 0 = 3 * x by omega] at ex0
  rw [show 3 * y + 0 = 3 * y by omega] at ey0
  have ex1 := e x 1 x0 x1 (by decide) (by decide)
  have ey1 := e y 1 y0 y1 (by decide) (by decide)
  have ex2 := e x 2 x0 x1 (by decide) (by decide)
  have ey2 := e y 2 y0 y1 (by decide) (by decide)
  have bx := b x x0 x1
  have bz := b y y0 y1
  rw [ww_4 h, ww_4 h]
  refine ⟨fun q => ?_, fun q => ?_⟩
  · have w := li_x q
    rw [ex0, ey0, ex1, ey1, ex2, ey2] at w
    omega
  · have w := eq_x q
    rw [ex0, ey0, ex1, ey1, ex2, ey2] at w
    obtain ⟨w0, w1, w2⟩ := w
    rw [w0, w1, w2]
theorem wx_n {T : Zt} {ru : Int → Int} {L : Int → Int → Int} {P : Int → Int → Int → Int} {k g n : Int} (h : kv9_ ru k ≠ 4) (e : ∀ x : Int, 0 ≤ x → x < n → T 284 0 (3 * x) = sv9_ (kv9_ ru k) L (ru 15) g x ∧ T 284 0 (3 * x + 1) = 0 ∧ T 284 0 (3 * x + 2) = 0) (m : ∀ x : Int, 0 ≤ x → x < 12 → mb9_ g x → x < n) : WX_ T (ww9_ ru L P k g) g := fun x y x0 x1 y0 y1 mx my => by
  have ex := e x x0 (m x x0 x1 mx)
  have ey := e y y0 (m y y0 y1 my)
  rw [ww_n h, ww_n h, ← ex.1, ← ey.1]
  refine ⟨fun q => ?_, fun q => (eq_x q).1⟩
  have w := li_x q
  omega
/-- the head of a group doesn't hang on what is written meanwhile -/
theorem gn_f {ws : List (Nat × List Int)} {T T1 U : Zt} {c d : Int} (h : GN_ T1 U (fun w => T1 205 0 (23 * c + w)) (fun k => vR_ T1 d (T1 210 0 c + k)) (T1 111 0 85) (T1 211 0 c).toNat) (f : fr_ ws T T1) (w5 : ∀ j, fw_ ws 205 j = false) (w10 : ∀ j, fw_ ws 210 j = false) (w11 : ∀ j, fw_ ws 211 j = false) (w85 : fw_ ws 111 85 = false) (w : ∀ (k : Nat) (j : Int), k = 232 ∨ k = 233 ∨ k = 234 ∨ k = 235 ∨ k = 236 ∨ k = 237 ∨ k = 239 ∨ k = 242 ∨ k = 243 ∨ k = 281 → fw_ ws k j = false) (w8 : fw_ ws 111 80 = false) : GN_ T1 U (fun w => T 205 0 (23 * c + w)) (fun k => vR_ T d (T 210 0 c + k)) (T 111 0 85) (T 211 0 c).toNat := by
  have e1 : (fun w => T1 205 0 (23 * c + w)) = (fun w => T 205 0 (23 * c + w)) := funext (fun w => f 205 0 _ (w5 _))
  have e2 : (fun k => vR_ T1 d (T1 210 0 c + k)) = (fun k => vR_ T d (T 210 0 c + k)) := funext (fun k => by rw [f 210 0 c (w10 c), vr_g f w w8])
  rw [e1, e2, f 111 0 85 w85, f 211 0 c (w11 c)] at h
  exact h
/-- what was said, by the key -/
def SD_ (T U : Zt) (c d k : Int) : Prop := (kv9_ (fun w => T 205 0 (23 * c + w)) k ≠ 4 → ∀ x : Int, 0 ≤ x → x < T 111 0 12 → U 284 0 (3 * x) = sv9_ (kv9_ (fun w => T 205 0 (23 * c + w)) k) (fun x w => T 276 0 (9 * x + w)) (T 205 0 (23 * c + 15)) (T 111 0 85) x ∧ U 284 0 (3 * x + 1) = 0 ∧ U 284 0 (3 * x + 2) = 0) ∧
  (kv9_ (fun w => T 205 0 (23 * c + w)) k = 4 → ∀ x i : Int, 0 ≤ x → x < 12 → 0 ≤ i → i ≤ 2 → U 284 0 (3 * x + i) = gn9_ (fun w => T 205 0 (23 * c + w)) (fun k => vR_ T d (T 210 0 c + k)) (T 111 0 85) x i (T 211 0 c).toNat)
/-- the lines of clubs that there can be -/
def lm_ (L : Int → Int → Int) : Int → Int → Int := fun x w => if 0 ≤ x ∧ x < 12 ∧ 0 ≤ w ∧ w ≤ 8 then L x w else 0
theorem lm_v {L : Int → Int → Int} {x w : Int} (h : 0 ≤ x ∧ x < 12 ∧ 0 ≤ w ∧ w ≤ 8) : lm_ L x w = L x w := if_pos h
theorem lm_e {L L' : Int → Int → Int} (h : ∀ x w, 0 ≤ x → x < 12 → 0 ≤ w → w ≤ 8 → L x w = L' x w) : lm_ L = lm_ L' := by
  funext x w
  unfold lm_
  by_cases z : 0 ≤ x ∧ x < 12 ∧ 0 ≤ w ∧ w ≤ 8
  · rw [if_pos z, if_pos z, h x w z.1 z.2.1 z.2.2.1 z.2.2.2]
  · rw [if_neg z, if_neg z]
theorem sv_m {kv : Int} {L : Int → Int → Int} {sd g x : Int} (hx : 0 ≤ x ∧ x < 12) : sv9_ kv (lm_ L) sd g x = sv9_ kv L sd g x := by
  unfold sv9_
  rw [lm_v (L := L) (w := 6) (by omega), lm_v (L := L) (w := 4) (by omega), lm_v (L := L) (w := 5) (by omega), lm_v (L := L) (w := 1) (by omega), lm_v (L := L) (w := 7) (by omega), lm_v (L := L) (w := 8) (by omega)]
theorem bk_X11_lot_e_16 : ck_ fX11 (some .int) cX11_lot 16 [.iload 4, .iconst 3, .if_icmp .ge 51, .iload 3, .iload 3, .iconst 16, .iushr, .ixor, .istore 3, .iload 4, .iconst 2, .if_icmp .ge 43, .iload 3, .iconst 73244475, .fmul, .goto 44] 43 = true := qck_r (nn_ _) (by decide +kernel)
theorem bs_X11_lot_e_16 {P : Zt → Option Zv → Prop} (K : Int → Zl → List Zv → Zt → Prop) : sx_ K P [.iload 4, .iconst 3, .if_icmp .ge 51, .iload 3, .iload 3, .iconst 16, .iushr, .ixor, .istore 3, .iload 4, .iconst 2, .if_icmp .ge 43, .iload 3, .iconst 73244475, .fmul, .goto 44] 43 = x_iload 4 (x_iconst 3 (x_if_icmp .ge 51 K (x_iload 3 (x_iload 3 (x_iconst 16 (x_iushr (x_ixor (x_istore 3 (x_iload 4 (x_iconst 2 (x_if_icmp .ge 43 K (x_iload 3 (x_iconst 73244475 (x_fmul (x_goto 44 K))))))))))))))) := ((xe_iload 4).trans (congrArg (x_iload 4) ((xe_iconst 3).trans (congrArg (x_iconst 3) ((xe_if_icmp .ge 51).trans (congrArg (x_if_icmp .ge 51 K) ((xe_iload 3).trans (congrArg (x_iload 3) ((xe_iload 3).trans (congrArg (x_iload 3) ((xe_iconst 16).trans (congrArg (x_iconst 16) ((xe_iushr).trans (congrArg (x_iushr) ((xe_ixor).trans (congrArg (x_ixor) ((xe_istore 3).trans (congrArg (x_istore 3) ((xe_iload 4).trans (congrArg (x_iload 4) ((xe_iconst 2).trans (congrArg (x_iconst 2) ((xe_if_icmp .ge 43).trans (congrArg (x_if_icmp .ge 43 K) ((xe_iload 3).trans (congrArg (x_iload 3) ((xe_iconst 73244475).trans (congrArg (x_iconst 73244475) ((xe_fmul).trans (congrArg (x_fmul) (xe_goto 44)))))))))))))))))))))))))))))))
theorem bk_X11_lot_e_51 : ck_ fX11 (some .int) cX11_lot 51 [.iload 3, .iconst 2147483647, .iand, .ireturn] 57 = true := qck_r (nn_ _) (by decide +kernel)
theorem bs_X11_lot_e_51 {P : Zt → Option Zv → Prop} (K : Int → Zl → List Zv → Zt → Prop) : sx_ K P [.iload 3, .iconst 2147483647, .iand, .ireturn] 57 = x_iload 3 (x_iconst 2147483647 (x_iand (x_ireturn P))) := ((xe_iload 3).trans (congrArg (x_iload 3) ((xe_iconst 2147483647).trans (congrArg (x_iconst 2147483647) ((xe_iand).trans (congrArg (x_iand) (xe_ireturn)))))))
theorem bk_X11_lot_e_43 : ck_ fX11 (some .int) cX11_lot 43 [.iload 3, .istore 3, .iinc 4 1, .goto 16] 51 = true := qck_r (nn_ _) (by decide +kernel)
theorem bs_X11_lot_e_43 {P : Zt → Option Zv → Prop} (K : Int → Zl → List Zv → Zt → Prop) : sx_ K P [.iload 3, .istore 3, .iinc 4 1, .goto 16] 51 = x_iload 3 (x_istore 3 (x_iinc 4 1 (x_goto 16 K))) := ((xe_iload 3).trans (congrArg (x_iload 3) ((xe_istore 3).trans (congrArg (x_istore 3) ((xe_iinc 4 1).trans (congrArg (x_iinc 4 1) (xe_goto 16)))))))
theorem bk_X11_lot_e_44 : ck_ fX11 (some .int) cX11_lot 44 [.istore 3, .iinc 4 1, .goto 16] 51 = true := qck_r (nn_ _) (by decide +kernel)
theorem bs_X11_lot_e_44 {P : Zt → Option Zv → Prop} (K : Int → Zl → List Zv → Zt → Prop) : sx_ K P [.istore 3, .iinc 4 1, .goto 16] 51 = x_istore 3 (x_iinc 4 1 (x_goto 16 K)) := ((xe_istore 3).trans (congrArg (x_istore 3) ((xe_iinc 4 1).trans (congrArg (x_iinc 4 1) (xe_goto 16)))))
theorem bk_X11_lot_e_0 : ck_ fX11 (some .int) cX11_lot 0 [.iload 0, .iconst 1000003, .fmul, .iload 1, .fadd, .iconst 31, .fmul, .iload 2, .fadd, .istore 3, .iconst 0, .istore 4] 16 = true := qck_r (nn_ _) (by decide +kernel)
theorem bs_X11_lot_e_0 {P : Zt → Option Zv → Prop} (K : Int → Zl → List Zv → Zt → Prop) : sx_ K P [.iload 0, .iconst 1000003, .fmul, .iload 1, .fadd, .iconst 31, .fmul, .iload 2, .fadd, .istore 3, .iconst 0, .istore 4] 16 = x_iload 0 (x_iconst 1000003 (x_fmul (x_iload 1 (x_fadd (x_iconst 31 (x_fmul (x_iload 2 (x_fadd (x_istore 3 (x_iconst 0 (x_istore 4 (K 16)))))))))))) := ((xe_iload 0).trans (congrArg (x_iload 0) ((xe_iconst 1000003).trans (congrArg (x_iconst 1000003) ((xe_fmul).trans (congrArg (x_fmul) ((xe_iload 1).trans (congrArg (x_iload 1) ((xe_fadd).trans (congrArg (x_fadd) ((xe_iconst 31).trans (congrArg (x_iconst 31) ((xe_fmul).trans (congrArg (x_fmul) ((xe_iload 2).trans (congrArg (x_iload 2) ((xe_fadd).trans (congrArg (x_fadd) ((xe_istore 3).trans (congrArg (x_istore 3) ((xe_iconst 0).trans (congrArg (x_iconst 0) ((xe_istore 4).trans (congrArg (x_istore 4) xe_nil))))))))))))))))))))))))
abbrev po_X11_lot_e (T : Zt) (a b c : Int) : Zt → Option Zv → Prop := fun T' r => T = T' ∧ ∃ x : Int, r = some (vI x) ∧ ((0 ≤ x ∧ x ≤ 2147483647) ∧ x = lo9_ a b c)
set_option maxHeartbeats 4000000 in
theorem ct_X11_lot_e {T : Zt} {a b c : Int} : Ct_ yX11_lot zX11_lot T [vI a, vI b, vI c] (po_X11_lot_e T a b c) := by
  refine ct_of pn_11 rfl rfl (Nat.le_of_ble_eq_true rfl) (fun hT hav => ?_)
  have hr_a : -2147483648 ≤ a ∧ a ≤ 2147483647 := hav (vI a) List.mem_cons_self
  have hr_b : -2147483648 ≤ b ∧ b ≤ 2147483647 := hav (vI b) (List.mem_cons_of_mem _ List.mem_cons_self)
  have hr_c : -2147483648 ≤ c ∧ c ≤ 2147483647 := hav (vI c) (List.mem_cons_of_mem _ (List.mem_cons_of_mem _ List.mem_cons_self))
  have hz : zX11_lot.2.2.2.1 = some .boolean → ∀ (T' : Zt) (x : Int), po_X11_lot_e T a b c T' (some (vI x)) → 0 ≤ x ∧ x ≤ 1 := fun h => by cases h
  show J_ zX11_lot T (po_X11_lot_e T a b c) 0 0 0 [some (vI a), some (vI b), some (vI c), none, none] [] T
  have c_16 : ∀ (nn : Nat) (v : Int) (i : Int), ((3 - i).toNat) ≤ nn → (0 ≤ i ∧ i ≤ 3) → (v = lx9_ (wr_ (wr_ (wr_ (wr_ (a * 1000003) + b) * 31) + c)) i.toNat) → J_ zX11_lot T (po_X11_lot_e T a b c) 0 0 16 [some (vI a), some (vI b), some (vI c), some (vI v), some (vI i)] [] T := by
    intro nn
    induction nn using Nat.strongRecOn with
    | _ nn ih_16 =>
      intro v i hm_16 i1 v2
      replace hm_16 := fun (_ : Unit) => hm_16
      refine j_blx (F := fX11) tb_X11 (nn_ _) bk_X11_lot_e_16 bs_X11_lot_e_16 hz (fun K hK => ?_)
      refine And.intro (fun c1 => ?_) (fun c1 => ?_)
      · refine hK 51 _ [] T ?_
        refine j_blx (F := fX11) tb_X11 (nn_ _) bk_X11_lot_e_51 bs_X11_lot_e_51 hz (fun K hK => ?_)
        intro w2 w2b
        refine (show po_X11_lot_e T a b c T (some (vI (an_ v 2147483647))) from ?_)
        refine ⟨rfl, _, rfl, ⟨an_nn _, by omega⟩, ?_⟩
        rw [show i.toNat = 3 by omega] at v2
        rw [v2]
        rfl
      · intro w3 w3b
        intro w4 w4b
        refine And.intro (fun c5 => ?_) (fun c5 => ?_)
        · refine hK 43 [some (vI a), some (vI b), some (vI c), some (vI (xo_ v (us_ v 16))), some (vI i)] [] T ?_
          refine j_blx (F := fX11) tb_X11 (nn_ _) bk_X11_lot_e_43 bs_X11_lot_e_43 hz (fun K hK => ?_)
          refine rg_i (by omega) ?_
          refine hK 16 [some (vI a), some (vI b), some (vI c), some (vI (xo_ v (us_ v 16))), some (vI (i + 1))] [] T ?_
          refine ih_16 _ ?_ (xo_ v (us_ v 16)) (i + 1) (Nat.le_refl _) ?_ ?_
          · have hm_16 := hm_16 (); omega
          · omega
          · rw [show (i + 1).toNat = i.toNat + 1 by omega]
            first
            | exact lx_t v2 (by omega)
            | exact lx_f v2 (by omega)
        · intro w6 w6b
          refine hK 44 [some (vI a), some (vI b), some (vI c), some (vI (xo_ v (us_ v 16))), some (vI i)] [vI (wr_ ((xo_ v (us_ v 16)) * 73244475))] T ?_
          refine j_blx (F := fX11) tb_X11 (nn_ _) bk_X11_lot_e_44 bs_X11_lot_e_44 hz (fun K hK => ?_)
          refine rg_i (by omega) ?_
          refine hK 16 [some (vI a), some (vI b), some (vI c), some (vI (wr_ ((xo_ v (us_ v 16)) * 73244475))), some (vI (i + 1))] [] T ?_
          refine ih_16 _ ?_ (wr_ ((xo_ v (us_ v 16)) * 73244475)) (i + 1) (Nat.le_refl _) ?_ ?_
          · have hm_16 := hm_16 (); omega
          · omega
          · rw [show (i + 1).toNat = i.toNat + 1 by omega]
            first
            | exact lx_t v2 (by omega)
            | exact lx_f v2 (by omega)
  refine j_blx (F := fX11) tb_X11 (nn_ _) bk_X11_lot_e_0 bs_X11_lot_e_0 hz (fun K hK => ?_)
  intro w7 w7b
  intro w8 w8b
  intro w9 w9b
  intro w10 w10b
  refine hK 16 [some (vI a), some (vI b), some (vI c), some (vI (wr_ ((wr_ ((wr_ ((wr_ (a * 1000003)) + b)) * 31)) + c))), some (vI 0)] [] T ?_
  refine c_16 _ (wr_ ((wr_ ((wr_ ((wr_ (a * 1000003)) + b)) * 31)) + c)) 0 (Nat.le_refl _) ?_ ?_
  · omega
  · rfl
theorem bk_X11_compareClubs_e_75 : ck_ fX11 (some .int) cX11_compareClubs 75 [.istore 3, .iinc 4 1, .goto 5] 82 = true := qck_r (nn_ _) (by decide +kernel)
theorem bs_X11_compareClubs_e_75 {P : Zt → Option Zv → Prop} (K : Int → Zl → List Zv → Zt → Prop) : sx_ K P [.istore 3, .iinc 4 1, .goto 5] 82 = x_istore 3 (x_iinc 4 1 (x_goto 5 K)) := ((xe_istore 3).trans (congrArg (x_istore 3) ((xe_iinc 4 1).trans (congrArg (x_iinc 4 1) (xe_goto 5)))))
theorem bk_X11_compareClubs_e_5 : ck_ fX11 (some .int) cX11_compareClubs 5 [.iload 4, .iconst 3, .if_icmp .ge 82, .iload 3, .ifCond .ne 82, .aload 0, .tableswitch 0 11 84 #[], .iconst 3, .iload 1, .imul, .iload 4, .iadd, .iaload, .aload 0, .tableswitch 0 11 84 #[], .iconst 3, .iload 2, .imul, .iload 4, .iadd, .iaload, .isub, .ifCond .le 45, .iconst 1, .goto 75] 45 = true := qck_r (nn_ _) (by decide +kernel)
theorem bs_X11_compareClubs_e_5 {P : Zt → Option Zv → Prop} (K : Int → Zl → List Zv → Zt → Prop) : sx_ K P [.iload 4, .iconst 3, .if_icmp .ge 82, .iload 3, .ifCond .ne 82, .aload 0, .tableswitch 0 11 84 #[], .iconst 3, .iload 1, .imul, .iload 4, .iadd, .iaload, .aload 0, .tableswitch 0 11 84 #[], .iconst 3, .iload 2, .imul, .iload 4, .iadd, .iaload, .isub, .ifCond .le 45, .iconst 1, .goto 75] 45 = x_iload 4 (x_iconst 3 (x_if_icmp .ge 82 K (x_iload 3 (x_ifCond .ne 82 K (x_aload 0 (x_g1 111 284 (x_iconst 3 (x_iload 1 (x_imul (x_iload 4 (x_iadd (x_iaload (x_aload 0 (x_g1 111 284 (x_iconst 3 (x_iload 2 (x_imul (x_iload 4 (x_iadd (x_iaload (x_isub (x_ifCond .le 45 K (x_iconst 1 (x_goto 75 K)))))))))))))))))))))))) := ((xe_iload 4).trans (congrArg (x_iload 4) ((xe_iconst 3).trans (congrArg (x_iconst 3) ((xe_if_icmp .ge 82).trans (congrArg (x_if_icmp .ge 82 K) ((xe_iload 3).trans (congrArg (x_iload 3) ((xe_ifCond .ne 82).trans (congrArg (x_ifCond .ne 82 K) ((xe_aload 0).trans (congrArg (x_aload 0) ((xe_g1 (kk := 111) rfl tl_11_84).trans (congrArg (x_g1 111 284) ((xe_iconst 3).trans (congrArg (x_iconst 3) ((xe_iload 1).trans (congrArg (x_iload 1) ((xe_imul).trans (congrArg (x_imul) ((xe_iload 4).trans (congrArg (x_iload 4) ((xe_iadd).trans (congrArg (x_iadd) ((xe_iaload).trans (congrArg (x_iaload) ((xe_aload 0).trans (congrArg (x_aload 0) ((xe_g1 (kk := 111) rfl tl_11_84).trans (congrArg (x_g1 111 284) ((xe_iconst 3).trans (congrArg (x_iconst 3) ((xe_iload 2).trans (congrArg (x_iload 2) ((xe_imul).trans (congrArg (x_imul) ((xe_iload 4).trans (congrArg (x_iload 4) ((xe_iadd).trans (congrArg (x_iadd) ((xe_iaload).trans (congrArg (x_iaload) ((xe_isub).trans (congrArg (x_isub) ((xe_ifCond .le 45).trans (congrArg (x_ifCond .le 45 K) ((xe_iconst 1).trans (congrArg (x_iconst 1) (xe_goto 75)))))))))))))))))))))))))))))))))))))))))))))))))
theorem bk_X11_compareClubs_e_82 : ck_ fX11 (some .int) cX11_compareClubs 82 [.iload 3, .ireturn] 84 = true := qck_r (nn_ _) (by decide +kernel)
theorem bs_X11_compareClubs_e_82 {P : Zt → Option Zv → Prop} (K : Int → Zl → List Zv → Zt → Prop) : sx_ K P [.iload 3, .ireturn] 84 = x_iload 3 (x_ireturn P) := ((xe_iload 3).trans (congrArg (x_iload 3) (xe_ireturn)))
theorem bk_X11_compareClubs_e_45 : ck_ fX11 (some .int) cX11_compareClubs 45 [.aload 0, .tableswitch 0 11 84 #[], .iconst 3, .iload 1, .imul, .iload 4, .iadd, .iaload, .aload 0, .tableswitch 0 11 84 #[], .iconst 3, .iload 2, .imul, .iload 4, .iadd, .iaload, .if_icmp .ge 74, .iconst (-1), .goto 75] 74 = true := qck_r (nn_ _) (by decide +kernel)
theorem bs_X11_compareClubs_e_45 {P : Zt → Option Zv → Prop} (K : Int → Zl → List Zv → Zt → Prop) : sx_ K P [.aload 0, .tableswitch 0 11 84 #[], .iconst 3, .iload 1, .imul, .iload 4, .iadd, .iaload, .aload 0, .tableswitch 0 11 84 #[], .iconst 3, .iload 2, .imul, .iload 4, .iadd, .iaload, .if_icmp .ge 74, .iconst (-1), .goto 75] 74 = x_aload 0 (x_g1 111 284 (x_iconst 3 (x_iload 1 (x_imul (x_iload 4 (x_iadd (x_iaload (x_aload 0 (x_g1 111 284 (x_iconst 3 (x_iload 2 (x_imul (x_iload 4 (x_iadd (x_iaload (x_if_icmp .ge 74 K (x_iconst (-1) (x_goto 75 K)))))))))))))))))) := ((xe_aload 0).trans (congrArg (x_aload 0) ((xe_g1 (kk := 111) rfl tl_11_84).trans (congrArg (x_g1 111 284) ((xe_iconst 3).trans (congrArg (x_iconst 3) ((xe_iload 1).trans (congrArg (x_iload 1) ((xe_imul).trans (congrArg (x_imul) ((xe_iload 4).trans (congrArg (x_iload 4) ((xe_iadd).trans (congrArg (x_iadd) ((xe_iaload).trans (congrArg (x_iaload) ((xe_aload 0).trans (congrArg (x_aload 0) ((xe_g1 (kk := 111) rfl tl_11_84).trans (congrArg (x_g1 111 284) ((xe_iconst 3).trans (congrArg (x_iconst 3) ((xe_iload 2).trans (congrArg (x_iload 2) ((xe_imul).trans (congrArg (x_imul) ((xe_iload 4).trans (congrArg (x_iload 4) ((xe_iadd).trans (congrArg (x_iadd) ((xe_iaload).trans (congrArg (x_iaload) ((xe_if_icmp .ge 74).trans (congrArg (x_if_icmp .ge 74 K) ((xe_iconst (-1)).trans (congrArg (x_iconst (-1)) (xe_goto 75)))))))))))))))))))))))))))))))))))))
theorem bk_X11_compareClubs_e_74 : ck_ fX11 (some .int) cX11_compareClubs 74 [.iconst 0] 75 = true := qck_r (nn_ _) (by decide +kernel)
theorem bs_X11_compareClubs_e_74 {P : Zt → Option Zv → Prop} (K : Int → Zl → List Zv → Zt → Prop) : sx_ K P [.iconst 0] 75 = x_iconst 0 (K 75) := ((xe_iconst 0).trans (congrArg (x_iconst 0) xe_nil))
theorem bk_X11_compareClubs_e_0 : ck_ fX11 (some .int) cX11_compareClubs 0 [.iconst 0, .istore 3, .iconst 0, .istore 4] 5 = true := qck_r (nn_ _) (by decide +kernel)
theorem bs_X11_compareClubs_e_0 {P : Zt → Option Zv → Prop} (K : Int → Zl → List Zv → Zt → Prop) : sx_ K P [.iconst 0, .istore 3, .iconst 0, .istore 4] 5 = x_iconst 0 (x_istore 3 (x_iconst 0 (x_istore 4 (K 5)))) := ((xe_iconst 0).trans (congrArg (x_iconst 0) ((xe_istore 3).trans (congrArg (x_istore 3) ((xe_iconst 0).trans (congrArg (x_iconst 0) ((xe_istore 4).trans (congrArg (x_istore 4) xe_nil))))))))
abbrev po_X11_compareClubs_e (T : Zt) (a b : Int) : Zt → Option Zv → Prop := fun T' r => T = T' ∧ ∃ x : Int, r = some (vI x) ∧ ((-1 ≤ x ∧ x ≤ 1) ∧ ((x = 0 ∧ EQ_ T a b 3) ∨ (x ≠ 0 ∧ ¬ EQ_ T a b 3)) ∧ ((x = 1 → LIm_ T b a) ∧ (x = -1 → LIm_ T a b)))
set_option maxHeartbeats 4000000 in
theorem ct_X11_compareClubs_e {T : Zt} {a b : Int} (h1 : 0 ≤ a ∧ a < 12) (h2 : 0 ≤ b ∧ b < 12) (hsb : SB_ T) : Ct_ yX11_compareClubs zX11_compareClubs T [vR 111 0, vI a, vI b] (po_X11_compareClubs_e T a b) := by
  refine ct_of pn_11 rfl rfl (Nat.le_of_ble_eq_true rfl) (fun hT hav => ?_)
  have hr_a : -2147483648 ≤ a ∧ a ≤ 2147483647 := hav (vI a) (List.mem_cons_of_mem _ List.mem_cons_self)
  have hr_b : -2147483648 ≤ b ∧ b ≤ 2147483647 := hav (vI b) (List.mem_cons_of_mem _ (List.mem_cons_of_mem _ List.mem_cons_self))
  have hz : zX11_compareClubs.2.2.2.1 = some .boolean → ∀ (T' : Zt) (x : Int), po_X11_compareClubs_e T a b T' (some (vI x)) → 0 ≤ x ∧ x ≤ 1 := fun h => by cases h
  show J_ zX11_compareClubs T (po_X11_compareClubs_e T a b) 0 0 0 [some (vR 111 0), some (vI a), some (vI b), none, none] [] T
  have c_5 : ∀ (nn : Nat) (u : Int) (i : Int), ((3 - i).toNat) ≤ nn → (0 ≤ i ∧ i ≤ 3 ∧ -1 ≤ u ∧ u ≤ 1) → ((u = 0 ∧ EQ_ T a b i) ∨ (u ≠ 0 ∧ ¬ EQ_ T a b 3)) → ((u = 1 → LIm_ T b a) ∧ (u = -1 → LIm_ T a b)) → J_ zX11_compareClubs T (po_X11_compareClubs_e T a b) 0 0 5 [some (vR 111 0), some (vI a), some (vI b), some (vI u), some (vI i)] [] T := by
    intro nn
    induction nn using Nat.strongRecOn with
    | _ nn ih_5 =>
      intro u i hm_5 i1 k2 k3
      replace hm_5 := fun (_ : Unit) => hm_5
      have c_75 : ∀ (v : Int), (-1 ≤ v ∧ v ≤ 1 ∧ i < 3 ∧ u = 0) → ((v = 0 ∧ EQ_ T a b (i + 1)) ∨ (v ≠ 0 ∧ ¬ EQ_ T a b 3)) → ((v = 1 → LIm_ T b a) ∧ (v = -1 → LIm_ T a b)) → J_ zX11_compareClubs T (po_X11_compareClubs_e T a b) 0 0 75 [some (vR 111 0), some (vI a), some (vI b), some (vI u), some (vI i)] [vI v] T := by
        intro v v1 v2 v3
        refine j_blx (F := fX11) tb_X11 (nn_ _) bk_X11_compareClubs_e_75 bs_X11_compareClubs_e_75 hz (fun K hK => ?_)
        refine rg_i (by omega) ?_
        refine hK 5 [some (vR 111 0), some (vI a), some (vI b), some (vI v), some (vI (i + 1))] [] T ?_
        refine ih_5 _ ?_ v (i + 1) (Nat.le_refl _) ?_ ?_ ?_
        · have hm_5 := hm_5 (); omega
        · omega
        · exact v2
        · exact v3
      refine j_blx (F := fX11) tb_X11 (nn_ _) bk_X11_compareClubs_e_5 bs_X11_compareClubs_e_5 hz (fun K hK => ?_)
      refine And.intro (fun c1 => ?_) (fun c1 => ?_)
      · refine hK 82 _ [] T ?_
        refine j_blx (F := fX11) tb_X11 (nn_ _) bk_X11_compareClubs_e_82 bs_X11_compareClubs_e_82 hz (fun K hK => ?_)
        refine (show po_X11_compareClubs_e T a b T (some (vI u)) from ?_)
        refine ⟨rfl, _, rfl, by omega, ?_, k3⟩
        rcases k2 with z | z
        · exact Or.inl ⟨z.1, by rw [show (3 : Int) = i by omega]; exact z.2⟩
        · exact Or.inr z
      · refine And.intro (fun c2 => ?_) (fun c2 => ?_)
        · refine hK 82 _ [] T ?_
          refine j_blx (F := fX11) tb_X11 (nn_ _) bk_X11_compareClubs_e_82 bs_X11_compareClubs_e_82 hz (fun K hK => ?_)
          refine (show po_X11_compareClubs_e T a b T (some (vI u)) from ?_)
          refine ⟨rfl, _, rfl, by omega, ?_, k3⟩
          rcases k2 with z | z
          · exact Or.inl ⟨z.1, by rw [show (3 : Int) = i by omega]; exact z.2⟩
          · exact Or.inr z
        · have ba := hsb a b i (by omega) (by omega) (by omega) (by omega) (by omega) (by omega)
          refine rg_i (by omega) ?_
          refine rg_i (by omega) ?_
          refine ix_i (by omega) ?_
          intro b3 b3b
          refine rg_i (by omega) ?_
          refine rg_i (by omega) ?_
          refine ix_i (by omega) ?_
          intro b4 b4b
          refine rg_i (by omega) ?_
          refine And.intro (fun c5 => ?_) (fun c5 => ?_)
          · refine hK 45 _ [] T ?_
            refine j_blx (F := fX11) tb_X11 (nn_ _) bk_X11_compareClubs_e_45 bs_X11_compareClubs_e_45 hz (fun K hK => ?_)
            refine rg_i (by omega) ?_
            refine rg_i (by omega) ?_
            refine ix_i (by omega) ?_
            intro b6 b6b
            refine rg_i (by omega) ?_
            refine rg_i (by omega) ?_
            refine ix_i (by omega) ?_
            intro b7 b7b
            refine And.intro (fun c8 => ?_) (fun c8 => ?_)
            · refine hK 74 _ [] T ?_
              refine j_blx (F := fX11) tb_X11 (nn_ _) bk_X11_compareClubs_e_74 bs_X11_compareClubs_e_74 hz (fun K hK => ?_)
              refine hK 75 _ [vI 0] T ?_
              refine c_75 0 ?_ ?_ ?_
              · omega
              · refine Or.inl ⟨rfl, fun j p q => ?_⟩
                rcases k2 with z | z
                · by_cases e9 : j = i
                  · rw [e9]; omega
                  · exact z.2 j p (by omega)
                · exact absurd (by omega) z.1
              · exact ⟨fun z => absurd z (by decide), fun z => absurd z (by decide)⟩
            · refine hK 75 _ [vI (-1)] T ?_
              refine c_75 (-1) ?_ ?_ ?_
              · omega
              · exact Or.inr ⟨by decide, fun h9 => by have := h9 i (by omega) (by omega); omega⟩
              · exact ⟨fun z => absurd z (by decide), fun _ => ⟨i, by omega, by omega, (k2.resolve_right (fun z => z.1 (by omega))).2, by omega⟩⟩
          · refine hK 75 _ [vI 1] T ?_
            refine c_75 1 ?_ ?_ ?_
            · omega
            · exact Or.inr ⟨by decide, fun h9 => by have := h9 i (by omega) (by omega); omega⟩
            · exact ⟨fun _ => ⟨i, by omega, by omega, eq_y (k2.resolve_right (fun z => z.1 (by omega))).2, by omega⟩, fun z => absurd z (by decide)⟩
  refine j_blx (F := fX11) tb_X11 (nn_ _) bk_X11_compareClubs_e_0 bs_X11_compareClubs_e_0 hz (fun K hK => ?_)
  refine hK 5 [some (vR 111 0), some (vI a), some (vI b), some (vI 0), some (vI 0)] [] T ?_
  refine c_5 _ 0 0 (Nat.le_refl _) ?_ ?_ ?_
  · omega
  · exact Or.inl ⟨rfl, fun j p q => by omega⟩
  · exact ⟨fun z => absurd z (by decide), fun z => absurd z (by decide)⟩
theorem bk_X11_sortPart_e_66 : ck_ fX11 none cX11_sortPart 66 [.aload 0, .tableswitch 0 11 77 #[], .iload 5, .iload 4, .iastore, .iinc 3 1, .goto 4] 81 = true := qck_r (nn_ _) (by decide +kernel)
theorem bs_X11_sortPart_e_66 {P : Zt → Option Zv → Prop} (K : Int → Zl → List Zv → Zt → Prop) : sx_ K P [.aload 0, .tableswitch 0 11 77 #[], .iload 5, .iload 4, .iastore, .iinc 3 1, .goto 4] 81 = x_aload 0 (x_g1 111 277 (x_iload 5 (x_iload 4 (x_iastore (x_iinc 3 1 (x_goto 4 K)))))) := ((xe_aload 0).trans (congrArg (x_aload 0) ((xe_g1 (kk := 111) rfl tl_11_77).trans (congrArg (x_g1 111 277) ((xe_iload 5).trans (congrArg (x_iload 5) ((xe_iload 4).trans (congrArg (x_iload 4) ((xe_iastore).trans (congrArg (x_iastore) ((xe_iinc 3 1).trans (congrArg (x_iinc 3 1) (xe_goto 4)))))))))))))
theorem bk_X11_sortPart_e_20 : ck_ fX11 none cX11_sortPart 20 [.iload 5, .iload 1, .if_icmp .le 66, .aload 0, .iload 4, .aload 0, .tableswitch 0 11 77 #[], .iload 5, .iconst 1, .isub, .iaload] 38 = true := qck_r (nn_ _) (by decide +kernel)
theorem bs_X11_sortPart_e_20 {P : Zt → Option Zv → Prop} (K : Int → Zl → List Zv → Zt → Prop) : sx_ K P [.iload 5, .iload 1, .if_icmp .le 66, .aload 0, .iload 4, .aload 0, .tableswitch 0 11 77 #[], .iload 5, .iconst 1, .isub, .iaload] 38 = x_iload 5 (x_iload 1 (x_if_icmp .le 66 K (x_aload 0 (x_iload 4 (x_aload 0 (x_g1 111 277 (x_iload 5 (x_iconst 1 (x_isub (x_iaload (K 38))))))))))) := ((xe_iload 5).trans (congrArg (x_iload 5) ((xe_iload 1).trans (congrArg (x_iload 1) ((xe_if_icmp .le 66).trans (congrArg (x_if_icmp .le 66 K) ((xe_aload 0).trans (congrArg (x_aload 0) ((xe_iload 4).trans (congrArg (x_iload 4) ((xe_aload 0).trans (congrArg (x_aload 0) ((xe_g1 (kk := 111) rfl tl_11_77).trans (congrArg (x_g1 111 277) ((xe_iload 5).trans (congrArg (x_iload 5) ((xe_iconst 1).trans (congrArg (x_iconst 1) ((xe_isub).trans (congrArg (x_isub) ((xe_iaload).trans (congrArg (x_iaload) xe_nil))))))))))))))))))))))
theorem bk_X11_sortPart_e_41 : ck_ fX11 none cX11_sortPart 41 [.ifCond .le 66, .aload 0, .tableswitch 0 11 77 #[], .iload 5, .aload 0, .tableswitch 0 11 77 #[], .iload 5, .iconst 1, .isub, .iaload, .iastore, .iinc 5 (-1), .goto 20] 66 = true := qck_r (nn_ _) (by decide +kernel)
theorem bs_X11_sortPart_e_41 {P : Zt → Option Zv → Prop} (K : Int → Zl → List Zv → Zt → Prop) : sx_ K P [.ifCond .le 66, .aload 0, .tableswitch 0 11 77 #[], .iload 5, .aload 0, .tableswitch 0 11 77 #[], .iload 5, .iconst 1, .isub, .iaload, .iastore, .iinc 5 (-1), .goto 20] 66 = x_ifCond .le 66 K (x_aload 0 (x_g1 111 277 (x_iload 5 (x_aload 0 (x_g1 111 277 (x_iload 5 (x_iconst 1 (x_isub (x_iaload (x_iastore (x_iinc 5 (-1) (x_goto 20 K)))))))))))) := ((xe_ifCond .le 66).trans (congrArg (x_ifCond .le 66 K) ((xe_aload 0).trans (congrArg (x_aload 0) ((xe_g1 (kk := 111) rfl tl_11_77).trans (congrArg (x_g1 111 277) ((xe_iload 5).trans (congrArg (x_iload 5) ((xe_aload 0).trans (congrArg (x_aload 0) ((xe_g1 (kk := 111) rfl tl_11_77).trans (congrArg (x_g1 111 277) ((xe_iload 5).trans (congrArg (x_iload 5) ((xe_iconst 1).trans (congrArg (x_iconst 1) ((xe_isub).trans (congrArg (x_isub) ((xe_iaload).trans (congrArg (x_iaload) ((xe_iastore).trans (congrArg (x_iastore) ((xe_iinc 5 (-1)).trans (congrArg (x_iinc 5 (-1)) (xe_goto 20)))))))))))))))))))))))))
theorem bk_X11_sortPart_e_4 : ck_ fX11 none cX11_sortPart 4 [.iload 3, .iload 2, .if_icmp .ge 81, .aload 0, .tableswitch 0 11 77 #[], .iload 3, .iaload, .istore 4, .iload 3, .istore 5] 20 = true := qck_r (nn_ _) (by decide +kernel)
theorem bs_X11_sortPart_e_4 {P : Zt → Option Zv → Prop} (K : Int → Zl → List Zv → Zt → Prop) : sx_ K P [.iload 3, .iload 2, .if_icmp .ge 81, .aload 0, .tableswitch 0 11 77 #[], .iload 3, .iaload, .istore 4, .iload 3, .istore 5] 20 = x_iload 3 (x_iload 2 (x_if_icmp .ge 81 K (x_aload 0 (x_g1 111 277 (x_iload 3 (x_iaload (x_istore 4 (x_iload 3 (x_istore 5 (K 20)))))))))) := ((xe_iload 3).trans (congrArg (x_iload 3) ((xe_iload 2).trans (congrArg (x_iload 2) ((xe_if_icmp .ge 81).trans (congrArg (x_if_icmp .ge 81 K) ((xe_aload 0).trans (congrArg (x_aload 0) ((xe_g1 (kk := 111) rfl tl_11_77).trans (congrArg (x_g1 111 277) ((xe_iload 3).trans (congrArg (x_iload 3) ((xe_iaload).trans (congrArg (x_iaload) ((xe_istore 4).trans (congrArg (x_istore 4) ((xe_iload 3).trans (congrArg (x_iload 3) ((xe_istore 5).trans (congrArg (x_istore 5) xe_nil))))))))))))))))))))
theorem bk_X11_sortPart_e_81 : ck_ fX11 none cX11_sortPart 81 [.return_] 82 = true := qck_r (nn_ _) (by decide +kernel)
theorem bs_X11_sortPart_e_81 {P : Zt → Option Zv → Prop} (K : Int → Zl → List Zv → Zt → Prop) : sx_ K P [.return_] 82 = x_return_ P := (xe_return_)
theorem bk_X11_sortPart_e_0 : ck_ fX11 none cX11_sortPart 0 [.iload 1, .iconst 1, .iadd, .istore 3] 4 = true := qck_r (nn_ _) (by decide +kernel)
theorem bs_X11_sortPart_e_0 {P : Zt → Option Zv → Prop} (K : Int → Zl → List Zv → Zt → Prop) : sx_ K P [.iload 1, .iconst 1, .iadd, .istore 3] 4 = x_iload 1 (x_iconst 1 (x_iadd (x_istore 3 (K 4)))) := ((xe_iload 1).trans (congrArg (x_iload 1) ((xe_iconst 1).trans (congrArg (x_iconst 1) ((xe_iadd).trans (congrArg (x_iadd) ((xe_istore 3).trans (congrArg (x_istore 3) xe_nil))))))))
abbrev po_X11_sortPart_e (T : Zt) (n : Int) (W : Int → Int) (g : Int) (a b : Int) : Zt → Option Zv → Prop := fun T' r => r = none ∧ fr_ [(277, [])] T T' ∧ ((∀ v, OC_ T n v → OC_ T' n v) ∧ (fun x => T' 277 0 x) = som9_ W a (b - a - 1).toNat (fun x => T 277 0 x))
set_option maxHeartbeats 4000000 in
theorem ct_X11_sortPart_e {T : Zt} {n : Int} {W : Int → Int} {g : Int} {a b : Int} (h1 : 0 ≤ a ∧ a < b ∧ b ≤ n ∧ n ≤ 12) (hsb : SB_ T) (hg : ∀ k, a ≤ k → k < b → mb9_ g (T 277 0 k)) (hw : WX_ T W g) : Ct_ yX11_sortPart zX11_sortPart T [vR 111 0, vI a, vI b] (po_X11_sortPart_e T n W g a b) := by
  refine ct_of pn_11 rfl rfl (Nat.le_of_ble_eq_true rfl) (fun hT hav => ?_)
  have hr_a : -2147483648 ≤ a ∧ a ≤ 2147483647 := hav (vI a) (List.mem_cons_of_mem _ List.mem_cons_self)
  have hr_b : -2147483648 ≤ b ∧ b ≤ 2147483647 := hav (vI b) (List.mem_cons_of_mem _ (List.mem_cons_of_mem _ List.mem_cons_self))
  have hz : zX11_sortPart.2.2.2.1 = some .boolean → ∀ (T' : Zt) (x : Int), po_X11_sortPart_e T n W g a b T' (some (vI x)) → 0 ≤ x ∧ x ≤ 1 := fun h => by cases h
  show J_ zX11_sortPart T (po_X11_sortPart_e T n W g a b) 0 0 0 [some (vR 111 0), some (vI a), some (vI b), none, none, none] [] T
  have c_4 : ∀ (nn : Nat) (i : Int) (T1 : Zt), ((12 - i).toNat) ≤ nn → (fr_ [(277, [])] T T1) → (a < i ∧ i ≤ b) → (∀ v, OC_ T n v → OC_ T1 n v) → (∀ k, a ≤ k → k < b → mb9_ g (T1 277 0 k)) → ((fun x => T1 277 0 x) = som9_ W a (i - a - 1).toNat (fun x => T 277 0 x)) → J_ zX11_sortPart T (po_X11_sortPart_e T n W g a b) 0 0 4 [some (vR 111 0), some (vI a), some (vI b), some (vI i), none, none] [] T1 := by
    intro nn
    induction nn using Nat.strongRecOn with
    | _ nn ih_4 =>
      intro i T1 hm_4 hf_4 i1 i2 mm1 k5
      replace hm_4 := fun (_ : Unit) => hm_4
      have c_66 : ∀ (w : Int) (j : Int) (T3 : Zt), (fr_ [(277, [])] T T3) → (a ≤ j ∧ j ≤ i ∧ i < b ∧ 0 ≤ w ∧ w < 12 ∧ w = T1 277 0 i) → (∀ v, OC_ T n v → OH_ T3 n v j w) → (∀ k, a ≤ k → k < b → mb9_ g (T3 277 0 k)) → (mb9_ g w) → (in9_ W a w (j - a).toNat (fun x => T3 277 0 x) = in9_ W a w (i - a).toNat (fun x => T1 277 0 x)) → (j = a ∨ ¬ W ((fun x => T3 277 0 x) (j - 1)) < W w) → J_ zX11_sortPart T (po_X11_sortPart_e T n W g a b) 0 0 66 [some (vR 111 0), some (vI a), some (vI b), some (vI i), some (vI w), some (vI j)] [] T3 := by
        intro w j T3 hf_66 k1 k2 mm3 mw k3 k4
        have wi : w = T1 277 0 i := k1.2.2.2.2.2
        refine j_blx (F := fX11) tb_X11 (nn_ _) bk_X11_sortPart_e_66 bs_X11_sortPart_e_66 hz (fun K hK => ?_)
        refine iy_i (by omega) (by omega) ?_
        refine x_nm (fun U1 hU1 => ?_)
        have e2 := up_f hU1
        refine rg_i (by omega) ?_
        refine hK 4 [some (vR 111 0), some (vI a), some (vI b), some (vI (i + 1)), some (vI w), some (vI j)] [] U1 ?_
        refine j_drop [some (vR 111 0), some (vI a), some (vI b), some (vI (i + 1)), none, none] (fun k v hk => ?_) rfl ?_
        · match k, hk with
          | 0, hk => exact hk
          | 1, hk => exact hk
          | 2, hk => exact hk
          | 3, hk => exact hk
          | 4, hk => cases hk
          | 5, hk => cases hk
          | k + 6, hk => cases hk
        refine ih_4 _ ?_ (i + 1) U1 (Nat.le_refl _) ?_ ?_ ?_ ?_ ?_
        · have hm_4 := hm_4 (); omega
        · exact fr_u (fr_t (fr_0 _ _) (fr_s hf_66 rfl)) hU1 rfl
        · omega
        · exact fun v h => oc_2 (k2 v h) (by omega) hU1
        · intro k p q
          by_cases z : k = j
          · rw [z, up_f hU1]; exact mw
          · rw [up_g hU1 (fun y => z y.2.2)]; exact mm3 k p q
        · rw [ud_r hU1, ← in_x (W := W) (f := a) (by omega) k4, k3]
          have y := so_s (W := W) (f := a) (i := i) (by omega) k5
          rw [← y]
          show in9_ W a w (i - a).toNat (fun x => T1 277 0 x) = in9_ W a (T1 277 0 i) (i - a).toNat (fun x => T1 277 0 x)
          rw [wi]
      have c_20 : ∀ (nn : Nat) (w : Int) (j : Int) (T2 : Zt), (j.toNat) ≤ nn → (fr_ [(277, [])] T T2) → (a ≤ j ∧ j ≤ i ∧ i < b ∧ 0 ≤ w ∧ w < 12 ∧ w = T1 277 0 i) → (∀ v, OC_ T n v → OH_ T2 n v j w) → (∀ k, a ≤ k → k < b → mb9_ g (T2 277 0 k)) → (mb9_ g w) → (in9_ W a w (j - a).toNat (fun x => T2 277 0 x) = in9_ W a w (i - a).toNat (fun x => T1 277 0 x)) → J_ zX11_sortPart T (po_X11_sortPart_e T n W g a b) 0 0 20 [some (vR 111 0), some (vI a), some (vI b), some (vI i), some (vI w), some (vI j)] [] T2 := by
        intro nn
        induction nn using Nat.strongRecOn with
        | _ nn ih_20 =>
          intro w j T2 hm_20 hf_20 k1 k2 mm2 mw k3
          replace hm_20 := fun (_ : Unit) => hm_20
          refine j_blx (F := fX11) tb_X11 (nn_ _) bk_X11_sortPart_e_20 bs_X11_sortPart_e_20 hz (fun K hK => ?_)
          refine And.intro (fun c3 => ?_) (fun c3 => ?_)
          · refine hK 66 _ [] T2 ?_
            refine c_66 w j T2 ?_ ?_ ?_ ?_ ?_ ?_ ?_
            · exact fr_t (fr_0 _ _) (fr_s hf_20 rfl)
            · omega
            · exact k2
            · exact mm2
            · exact mw
            · exact k3
            · first
              | exact Or.inl (by omega)
              | exact Or.inr nl9
          · refine rg_i (by omega) ?_
            refine ix_i (by omega) ?_
            intro b4 b4b
            refine hK 38 _ [vI (T2 277 0 (j - 1)), vI w, vR 111 0] T2 ?_
            refine j_callV (y := yX11_compareClubs) (Yc := zX11_compareClubs) (rest := []) [vI w, vI (T2 277 0 (j - 1))] (ct_X11_compareClubs_e (T := T2) (by omega) (by omega) (SB__f (ws := [(277, [])]) hsb (fr_t (fr_0 _ _) (fr_s hf_20 rfl)) ⟨fun _ => rfl, trivial⟩)) cl_X11_511 (qd_c (by decide +kernel)) (nn_ _) rfl (rf_of rfl) (Nat.le_of_ble_eq_true rfl) (Nat.le_of_ble_eq_true rfl) (Nat.le_of_ble_eq_true rfl) rfl ?_
            rintro _ _ ⟨rfl, x5, rfl, hx5⟩
            show J_ zX11_sortPart T (po_X11_sortPart_e T n W g a b) 0 0 41 _ [vI x5] T2
            refine j_blx (F := fX11) tb_X11 (nn_ _) bk_X11_sortPart_e_41 bs_X11_sortPart_e_41 hz (fun K hK => ?_)
            refine And.intro (fun c6 => ?_) (fun c6 => ?_)
            · have wx := (wx_k hw (fun j => hf_20 284 0 j rfl)) w (T2 277 0 (j - 1)) (by omega) (by omega) (by omega) (by omega) mw (mm2 (j - 1) (by omega) (by omega))
              have wy := (wx_k hw (fun j => hf_20 284 0 j rfl)) (T2 277 0 (j - 1)) w (by omega) (by omega) (by omega) (by omega) (mm2 (j - 1) (by omega) (by omega)) mw
              have nl9 : ¬ W ((fun x => T2 277 0 x) (j - 1)) < W w := by
                show ¬ W (T2 277 0 (j - 1)) < W w
                by_cases z0 : x5 = 0
                · have := wx.2 (hx5.2.1.resolve_right (fun z => z.1 z0)).2
                  omega
                · have := wx.1 (hx5.2.2.2 (by omega))
                  omega
              refine hK 66 _ [] T2 ?_
              refine c_66 w j T2 ?_ ?_ ?_ ?_ ?_ ?_ ?_
              · exact fr_t (fr_0 _ _) (fr_s hf_20 rfl)
              · omega
              · exact k2
              · exact mm2
              · exact mw
              · exact k3
              · first
                | exact Or.inl (by omega)
                | exact Or.inr nl9
            · have wx := (wx_k hw (fun j => hf_20 284 0 j rfl)) w (T2 277 0 (j - 1)) (by omega) (by omega) (by omega) (by omega) mw (mm2 (j - 1) (by omega) (by omega))
              have wy := (wx_k hw (fun j => hf_20 284 0 j rfl)) (T2 277 0 (j - 1)) w (by omega) (by omega) (by omega) (by omega) (mm2 (j - 1) (by omega) (by omega)) mw
              have lt9 : W ((fun x => T2 277 0 x) (j - 1)) < W w := wy.1 (hx5.2.2.1 (by omega))
              refine rg_i (by omega) ?_
              refine ix_i (by omega) ?_
              intro b7 b7b
              refine iy_i (by omega) (by omega) ?_
              refine x_nm (fun U8 hU8 => ?_)
              have e9 := up_f hU8
              refine rg_i (by omega) ?_
              refine hK 20 [some (vR 111 0), some (vI a), some (vI b), some (vI i), some (vI w), some (vI (j + (-1)))] [] U8 ?_
              refine ih_20 _ ?_ w (j + (-1)) U8 (Nat.le_refl _) ?_ ?_ ?_ ?_ ?_ ?_
              · have hm_20 := hm_20 (); omega
              · exact fr_u (fr_t (fr_0 _ _) (fr_s hf_20 rfl)) hU8 rfl
              · omega
              · exact fun v h => oc_1 (k2 v h) (by omega) hU8
              · intro k p q
                by_cases z : k = j
                · rw [z, up_f hU8]; exact mm2 (j - 1) (by omega) (by omega)
                · rw [up_g hU8 (fun y => z y.2.2)]; exact mm2 k p q
              · exact mw
              · exact (in_s (by omega) lt9 (ud_r hU8)).trans k3
      refine j_blx (F := fX11) tb_X11 (nn_ _) bk_X11_sortPart_e_4 bs_X11_sortPart_e_4 hz (fun K hK => ?_)
      refine And.intro (fun c10 => ?_) (fun c10 => ?_)
      · refine hK 81 _ [] T1 ?_
        refine j_blx (F := fX11) tb_X11 (nn_ _) bk_X11_sortPart_e_81 bs_X11_sortPart_e_81 hz (fun K hK => ?_)
        refine (show po_X11_sortPart_e T n W g a b T1 (none) from ?_)
        exact ⟨rfl, fr_t (fr_0 _ _) (fr_s hf_4 rfl), i2, by rw [show b - a - 1 = i - a - 1 by omega]; exact k5⟩
      · refine ix_i (by omega) ?_
        intro b11 b11b
        refine hK 20 [some (vR 111 0), some (vI a), some (vI b), some (vI i), some (vI (T1 277 0 i)), some (vI i)] [] T1 ?_
        refine c_20 _ (T1 277 0 i) i T1 (Nat.le_refl _) ?_ ?_ ?_ ?_ ?_ ?_
        · exact fr_t (fr_0 _ _) (fr_s hf_4 rfl)
        · omega
        · exact fun v h => oc_0 (i2 v h)
        · exact mm1
        · exact mm1 i (by omega) (by omega)
        · rfl
  refine j_blx (F := fX11) tb_X11 (nn_ _) bk_X11_sortPart_e_0 bs_X11_sortPart_e_0 hz (fun K hK => ?_)
  refine rg_i (by omega) ?_
  refine hK 4 [some (vR 111 0), some (vI a), some (vI b), some (vI (a + 1)), none, none] [] T ?_
  refine c_4 _ (a + 1) T (Nat.le_refl _) ?_ ?_ ?_ ?_ ?_
  · exact fr_0 _ _
  · omega
  · exact fun _ h => h
  · exact hg
  · rw [show (a + 1 - a - 1).toNat = 0 by omega]
    rfl
def PXm_ (T : Zt) (cl x : Int) : Prop := ∃ k, 0 ≤ k ∧ k < 12 ∧ T 277 0 k = cl ∧ (∀ j, 0 ≤ j → j < k → T 277 0 j ≠ cl) ∧ x = pc9_ (fun k => T 278 0 k) k.toNat
def PO_ (T : Zt) (cl i : Int) : Prop := ∃ k, 0 ≤ k ∧ k < 12 ∧ T 277 0 k = cl ∧ (∀ j, 0 ≤ j → j < k → T 277 0 j ≠ cl) ∧ pc9_ (fun k => T 278 0 k) i.toNat = pc9_ (fun k => T 278 0 k) k.toNat
theorem bk_X11_placeOf_e_18 : ck_ fX11 (some .int) cX11_placeOf 18 [.iload 2, .ifCond .le 40, .aload 0, .tableswitch 0 11 78 #[], .iload 2, .iconst 1, .isub, .iaload, .iconst (-1), .if_icmp .ne 40, .iinc 2 (-1), .goto 18] 40 = true := qck_r (nn_ _) (by decide +kernel)
theorem bs_X11_placeOf_e_18 {P : Zt → Option Zv → Prop} (K : Int → Zl → List Zv → Zt → Prop) : sx_ K P [.iload 2, .ifCond .le 40, .aload 0, .tableswitch 0 11 78 #[], .iload 2, .iconst 1, .isub, .iaload, .iconst (-1), .if_icmp .ne 40, .iinc 2 (-1), .goto 18] 40 = x_iload 2 (x_ifCond .le 40 K (x_aload 0 (x_g1 111 278 (x_iload 2 (x_iconst 1 (x_isub (x_iaload (x_iconst (-1) (x_if_icmp .ne 40 K (x_iinc 2 (-1) (x_goto 18 K))))))))))) := ((xe_iload 2).trans (congrArg (x_iload 2) ((xe_ifCond .le 40).trans (congrArg (x_ifCond .le 40 K) ((xe_aload 0).trans (congrArg (x_aload 0) ((xe_g1 (kk := 111) rfl tl_11_78).trans (congrArg (x_g1 111 278) ((xe_iload 2).trans (congrArg (x_iload 2) ((xe_iconst 1).trans (congrArg (x_iconst 1) ((xe_isub).trans (congrArg (x_isub) ((xe_iaload).trans (congrArg (x_iaload) ((xe_iconst (-1)).trans (congrArg (x_iconst (-1)) ((xe_if_icmp .ne 40).trans (congrArg (x_if_icmp .ne 40 K) ((xe_iinc 2 (-1)).trans (congrArg (x_iinc 2 (-1)) (xe_goto 18)))))))))))))))))))))))
theorem bk_X11_placeOf_e_40 : ck_ fX11 (some .int) cX11_placeOf 40 [.iload 2, .iconst 1, .iadd, .ireturn] 44 = true := qck_r (nn_ _) (by decide +kernel)
theorem bs_X11_placeOf_e_40 {P : Zt → Option Zv → Prop} (K : Int → Zl → List Zv → Zt → Prop) : sx_ K P [.iload 2, .iconst 1, .iadd, .ireturn] 44 = x_iload 2 (x_iconst 1 (x_iadd (x_ireturn P))) := ((xe_iload 2).trans (congrArg (x_iload 2) ((xe_iconst 1).trans (congrArg (x_iconst 1) ((xe_iadd).trans (congrArg (x_iadd) (xe_ireturn)))))))
theorem bk_X11_placeOf_e_2 : ck_ fX11 (some .int) cX11_placeOf 2 [.aload 0, .tableswitch 0 11 77 #[], .iload 2, .iaload, .iload 1, .if_icmp .eq 18, .iinc 2 1, .goto 2] 18 = true := qck_r (nn_ _) (by decide +kernel)
theorem bs_X11_placeOf_e_2 {P : Zt → Option Zv → Prop} (K : Int → Zl → List Zv → Zt → Prop) : sx_ K P [.aload 0, .tableswitch 0 11 77 #[], .iload 2, .iaload, .iload 1, .if_icmp .eq 18, .iinc 2 1, .goto 2] 18 = x_aload 0 (x_g1 111 277 (x_iload 2 (x_iaload (x_iload 1 (x_if_icmp .eq 18 K (x_iinc 2 1 (x_goto 2 K))))))) := ((xe_aload 0).trans (congrArg (x_aload 0) ((xe_g1 (kk := 111) rfl tl_11_77).trans (congrArg (x_g1 111 277) ((xe_iload 2).trans (congrArg (x_iload 2) ((xe_iaload).trans (congrArg (x_iaload) ((xe_iload 1).trans (congrArg (x_iload 1) ((xe_if_icmp .eq 18).trans (congrArg (x_if_icmp .eq 18 K) ((xe_iinc 2 1).trans (congrArg (x_iinc 2 1) (xe_goto 2)))))))))))))))
theorem bk_X11_placeOf_e_0 : ck_ fX11 (some .int) cX11_placeOf 0 [.iconst 0, .istore 2] 2 = true := qck_r (nn_ _) (by decide +kernel)
theorem bs_X11_placeOf_e_0 {P : Zt → Option Zv → Prop} (K : Int → Zl → List Zv → Zt → Prop) : sx_ K P [.iconst 0, .istore 2] 2 = x_iconst 0 (x_istore 2 (K 2)) := ((xe_iconst 0).trans (congrArg (x_iconst 0) ((xe_istore 2).trans (congrArg (x_istore 2) xe_nil))))
abbrev po_X11_placeOf_e (T : Zt) (cl : Int) : Zt → Option Zv → Prop := fun T' r => T = T' ∧ ∃ x : Int, r = some (vI x) ∧ (PXm_ T cl x)
set_option maxHeartbeats 4000000 in
theorem ct_X11_placeOf_e {T : Zt} {cl : Int} (hoc : OC_ T 12 cl) : Ct_ yX11_placeOf zX11_placeOf T [vR 111 0, vI cl] (po_X11_placeOf_e T cl) := by
  refine ct_of pn_11 rfl rfl (Nat.le_of_ble_eq_true rfl) (fun hT hav => ?_)
  have hr_cl : -2147483648 ≤ cl ∧ cl ≤ 2147483647 := hav (vI cl) (List.mem_cons_of_mem _ List.mem_cons_self)
  have hz : zX11_placeOf.2.2.2.1 = some .boolean → ∀ (T' : Zt) (x : Int), po_X11_placeOf_e T cl T' (some (vI x)) → 0 ≤ x ∧ x ≤ 1 := fun h => by cases h
  show J_ zX11_placeOf T (po_X11_placeOf_e T cl) 0 0 0 [some (vR 111 0), some (vI cl), none] [] T
  have c_18 : ∀ (nn : Nat) (i : Int), (i.toNat) ≤ nn → (0 ≤ i ∧ i < 12) → (PO_ T cl i) → J_ zX11_placeOf T (po_X11_placeOf_e T cl) 0 0 18 [some (vR 111 0), some (vI cl), some (vI i)] [] T := by
    intro nn
    induction nn using Nat.strongRecOn with
    | _ nn ih_18 =>
      intro i hm_18 j1 j2
      replace hm_18 := fun (_ : Unit) => hm_18
      refine j_blx (F := fX11) tb_X11 (nn_ _) bk_X11_placeOf_e_18 bs_X11_placeOf_e_18 hz (fun K hK => ?_)
      refine And.intro (fun c1 => ?_) (fun c1 => ?_)
      · refine hK 40 _ [] T ?_
        refine j_blx (F := fX11) tb_X11 (nn_ _) bk_X11_placeOf_e_40 bs_X11_placeOf_e_40 hz (fun K hK => ?_)
        refine rg_i (by omega) ?_
        refine (show po_X11_placeOf_e T cl T (some (vI (i + 1))) from ?_)
        obtain ⟨k9, k0, k1, k2, k3, k4⟩ := j2
        refine ⟨rfl, _, rfl, k9, k0, k1, k2, k3, ?_⟩
        rw [← k4]
        refine pc_f (p := (fun k => T 278 0 k)) (by omega) ?_
        first
        | exact Or.inl (by omega)
        | exact Or.inr (by show T 278 0 (i - 1) ≠ -1; omega)
      · refine rg_i (by omega) ?_
        refine ix_i (by omega) ?_
        intro b2 b2b
        refine And.intro (fun c3 => ?_) (fun c3 => ?_)
        · refine hK 40 _ [] T ?_
          refine j_blx (F := fX11) tb_X11 (nn_ _) bk_X11_placeOf_e_40 bs_X11_placeOf_e_40 hz (fun K hK => ?_)
          refine rg_i (by omega) ?_
          refine (show po_X11_placeOf_e T cl T (some (vI (i + 1))) from ?_)
          obtain ⟨k9, k0, k1, k2, k3, k4⟩ := j2
          refine ⟨rfl, _, rfl, k9, k0, k1, k2, k3, ?_⟩
          rw [← k4]
          refine pc_f (p := (fun k => T 278 0 k)) (by omega) ?_
          first
          | exact Or.inl (by omega)
          | exact Or.inr (by show T 278 0 (i - 1) ≠ -1; omega)
        · refine rg_i (by omega) ?_
          refine hK 18 [some (vR 111 0), some (vI cl), some (vI (i + (-1)))] [] T ?_
          refine ih_18 _ ?_ (i + (-1)) (Nat.le_refl _) ?_ ?_
          · have hm_18 := hm_18 (); omega
          · omega
          · obtain ⟨k9, k0, k1, k2, k3, k4⟩ := j2
            exact ⟨k9, k0, k1, k2, k3, (pc_t (p := (fun k => T 278 0 k)) (i := i) (by omega) (by show T 278 0 (i - 1) = -1; omega)).trans k4⟩
  have c_2 : ∀ (nn : Nat) (i : Int), ((12 - i).toNat) ≤ nn → (0 ≤ i) → (∀ j, 0 ≤ j → j < i → T 277 0 j ≠ cl) → J_ zX11_placeOf T (po_X11_placeOf_e T cl) 0 0 2 [some (vR 111 0), some (vI cl), some (vI i)] [] T := by
    intro nn
    induction nn using Nat.strongRecOn with
    | _ nn ih_2 =>
      intro i hm_2 i1 i2
      replace hm_2 := fun (_ : Unit) => hm_2
      have hi := oc_lt hoc i2
      refine j_blx (F := fX11) tb_X11 (nn_ _) bk_X11_placeOf_e_2 bs_X11_placeOf_e_2 hz (fun K hK => ?_)
      refine ix_i (by omega) ?_
      intro b4 b4b
      refine And.intro (fun c5 => ?_) (fun c5 => ?_)
      · refine hK 18 _ [] T ?_
        refine c_18 _ i (Nat.le_refl _) ?_ ?_
        · omega
        · exact ⟨i, by omega, by omega, by omega, i2, rfl⟩
      · refine rg_i (by omega) ?_
        refine hK 2 [some (vR 111 0), some (vI cl), some (vI (i + 1))] [] T ?_
        refine ih_2 _ ?_ (i + 1) (Nat.le_refl _) ?_ ?_
        · have hm_2 := hm_2 (); omega
        · omega
        · intro j p q
          by_cases e9 : j = i
          · rw [e9]; omega
          · exact i2 j p (by omega)
  refine j_blx (F := fX11) tb_X11 (nn_ _) bk_X11_placeOf_e_0 bs_X11_placeOf_e_0 hz (fun K hK => ?_)
  refine hK 2 [some (vR 111 0), some (vI cl), some (vI 0)] [] T ?_
  refine c_2 _ 0 (Nat.le_refl _) ?_ ?_
  · omega
  · intro j p q; omega
theorem bk_X11_sayHead_e_230 : ck_ fX11 none cX11_sayHead 230 [.iinc 3 1, .goto 7] 236 = true := qck_r (nn_ _) (by decide +kernel)
theorem bs_X11_sayHead_e_230 {P : Zt → Option Zv → Prop} (K : Int → Zl → List Zv → Zt → Prop) : sx_ K P [.iinc 3 1, .goto 7] 236 = x_iinc 3 1 (x_goto 7 K) := ((xe_iinc 3 1).trans (congrArg (x_iinc 3 1) (xe_goto 7)))
theorem bk_X11_sayHead_e_106 : ck_ fX11 none cX11_sayHead 106 [.istore 6, .aload 0, .tableswitch 0 11 84 #[], .iconst 3, .iload 4, .imul, .dup2, .iaload, .aload 0, .iload 1, .iload 6] 122 = true := qck_r (nn_ _) (by decide +kernel)
theorem bs_X11_sayHead_e_106 {P : Zt → Option Zv → Prop} (K : Int → Zl → List Zv → Zt → Prop) : sx_ K P [.istore 6, .aload 0, .tableswitch 0 11 84 #[], .iconst 3, .iload 4, .imul, .dup2, .iaload, .aload 0, .iload 1, .iload 6] 122 = x_istore 6 (x_aload 0 (x_g1 111 284 (x_iconst 3 (x_iload 4 (x_imul (x_dup2 (x_iaload (x_aload 0 (x_iload 1 (x_iload 6 (K 122))))))))))) := ((xe_istore 6).trans (congrArg (x_istore 6) ((xe_aload 0).trans (congrArg (x_aload 0) ((xe_g1 (kk := 111) rfl tl_11_84).trans (congrArg (x_g1 111 284) ((xe_iconst 3).trans (congrArg (x_iconst 3) ((xe_iload 4).trans (congrArg (x_iload 4) ((xe_imul).trans (congrArg (x_imul) ((xe_dup2).trans (congrArg (x_dup2) ((xe_iaload).trans (congrArg (x_iaload) ((xe_aload 0).trans (congrArg (x_aload 0) ((xe_iload 1).trans (congrArg (x_iload 1) ((xe_iload 6).trans (congrArg (x_iload 6) xe_nil))))))))))))))))))))))
theorem bk_X11_sayHead_e_125 : ck_ fX11 none cX11_sayHead 125 [.iadd, .iastore, .aload 0, .tableswitch 0 11 84 #[], .iconst 3, .iload 5, .imul, .dup2, .iaload, .aload 0, .iload 1, .iconst 4, .iload 6, .isub] 143 = true := qck_r (nn_ _) (by decide +kernel)
theorem bs_X11_sayHead_e_125 {P : Zt → Option Zv → Prop} (K : Int → Zl → List Zv → Zt → Prop) : sx_ K P [.iadd, .iastore, .aload 0, .tableswitch 0 11 84 #[], .iconst 3, .iload 5, .imul, .dup2, .iaload, .aload 0, .iload 1, .iconst 4, .iload 6, .isub] 143 = x_iadd (x_iastore (x_aload 0 (x_g1 111 284 (x_iconst 3 (x_iload 5 (x_imul (x_dup2 (x_iaload (x_aload 0 (x_iload 1 (x_iconst 4 (x_iload 6 (x_isub (K 143)))))))))))))) := ((xe_iadd).trans (congrArg (x_iadd) ((xe_iastore).trans (congrArg (x_iastore) ((xe_aload 0).trans (congrArg (x_aload 0) ((xe_g1 (kk := 111) rfl tl_11_84).trans (congrArg (x_g1 111 284) ((xe_iconst 3).trans (congrArg (x_iconst 3) ((xe_iload 5).trans (congrArg (x_iload 5) ((xe_imul).trans (congrArg (x_imul) ((xe_dup2).trans (congrArg (x_dup2) ((xe_iaload).trans (congrArg (x_iaload) ((xe_aload 0).trans (congrArg (x_aload 0) ((xe_iload 1).trans (congrArg (x_iload 1) ((xe_iconst 4).trans (congrArg (x_iconst 4) ((xe_iload 6).trans (congrArg (x_iload 6) ((xe_isub).trans (congrArg (x_isub) xe_nil))))))))))))))))))))))))))))
theorem bk_X11_sayHead_e_146 : ck_ fX11 none cX11_sayHead 146 [.iadd, .iastore, .aload 0, .tableswitch 0 11 84 #[], .iconst 3, .iload 4, .imul, .iconst 1, .iadd, .dup2, .iaload, .aload 0, .tableswitch 0 11 82 #[], .aload 0, .tableswitch 0 11 83 #[], .isub, .iadd, .iastore, .aload 0, .tableswitch 0 11 84 #[], .iconst 3, .iload 5, .imul, .iconst 1, .iadd, .dup2, .iaload, .aload 0, .tableswitch 0 11 83 #[], .aload 0, .tableswitch 0 11 82 #[], .isub, .iadd, .iastore, .aload 0, .tableswitch 0 11 84 #[], .iconst 3, .iload 4, .imul, .iconst 2, .iadd, .dup2, .iaload, .aload 0, .tableswitch 0 11 82 #[], .iadd, .iastore, .aload 0, .tableswitch 0 11 84 #[], .iconst 3, .iload 5, .imul, .iconst 2, .iadd, .dup2, .iaload, .aload 0, .tableswitch 0 11 83 #[], .iadd, .iastore] 230 = true := qck_r (nn_ _) (by decide +kernel)
theorem bs_X11_sayHead_e_146 {P : Zt → Option Zv → Prop} (K : Int → Zl → List Zv → Zt → Prop) : sx_ K P [.iadd, .iastore, .aload 0, .tableswitch 0 11 84 #[], .iconst 3, .iload 4, .imul, .iconst 1, .iadd, .dup2, .iaload, .aload 0, .tableswitch 0 11 82 #[], .aload 0, .tableswitch 0 11 83 #[], .isub, .iadd, .iastore, .aload 0, .tableswitch 0 11 84 #[], .iconst 3, .iload 5, .imul, .iconst 1, .iadd, .dup2, .iaload, .aload 0, .tableswitch 0 11 83 #[], .aload 0, .tableswitch 0 11 82 #[], .isub, .iadd, .iastore, .aload 0, .tableswitch 0 11 84 #[], .iconst 3, .iload 4, .imul, .iconst 2, .iadd, .dup2, .iaload, .aload 0, .tableswitch 0 11 82 #[], .iadd, .iastore, .aload 0, .tableswitch 0 11 84 #[], .iconst 3, .iload 5, .imul, .iconst 2, .iadd, .dup2, .iaload, .aload 0, .tableswitch 0 11 83 #[], .iadd, .iastore] 230 = x_iadd (x_iastore (x_aload 0 (x_g1 111 284 (x_iconst 3 (x_iload 4 (x_imul (x_iconst 1 (x_iadd (x_dup2 (x_iaload (x_aload 0 (x_g0 111 82 (-2147483648) 2147483647 (x_aload 0 (x_g0 111 83 (-2147483648) 2147483647 (x_isub (x_iadd (x_iastore (x_aload 0 (x_g1 111 284 (x_iconst 3 (x_iload 5 (x_imul (x_iconst 1 (x_iadd (x_dup2 (x_iaload (x_aload 0 (x_g0 111 83 (-2147483648) 2147483647 (x_aload 0 (x_g0 111 82 (-2147483648) 2147483647 (x_isub (x_iadd (x_iastore (x_aload 0 (x_g1 111 284 (x_iconst 3 (x_iload 4 (x_imul (x_iconst 2 (x_iadd (x_dup2 (x_iaload (x_aload 0 (x_g0 111 82 (-2147483648) 2147483647 (x_iadd (x_iastore (x_aload 0 (x_g1 111 284 (x_iconst 3 (x_iload 5 (x_imul (x_iconst 2 (x_iadd (x_dup2 (x_iaload (x_aload 0 (x_g0 111 83 (-2147483648) 2147483647 (x_iadd (x_iastore (K 230)))))))))))))))))))))))))))))))))))))))))))))))))))))))))))) := ((xe_iadd).trans (congrArg (x_iadd) ((xe_iastore).trans (congrArg (x_iastore) ((xe_aload 0).trans (congrArg (x_aload 0) ((xe_g1 (kk := 111) rfl tl_11_84).trans (congrArg (x_g1 111 284) ((xe_iconst 3).trans (congrArg (x_iconst 3) ((xe_iload 4).trans (congrArg (x_iload 4) ((xe_imul).trans (congrArg (x_imul) ((xe_iconst 1).trans (congrArg (x_iconst 1) ((xe_iadd).trans (congrArg (x_iadd) ((xe_dup2).trans (congrArg (x_dup2) ((xe_iaload).trans (congrArg (x_iaload) ((xe_aload 0).trans (congrArg (x_aload 0) ((xe_g0 (kk := 111) rfl tl_11_82).trans (congrArg (x_g0 111 82 (-2147483648) 2147483647) ((xe_aload 0).trans (congrArg (x_aload 0) ((xe_g0 (kk := 111) rfl tl_11_83).trans (congrArg (x_g0 111 83 (-2147483648) 2147483647) ((xe_isub).trans (congrArg (x_isub) ((xe_iadd).trans (congrArg (x_iadd) ((xe_iastore).trans (congrArg (x_iastore) ((xe_aload 0).trans (congrArg (x_aload 0) ((xe_g1 (kk := 111) rfl tl_11_84).trans (congrArg (x_g1 111 284) ((xe_iconst 3).trans (congrArg (x_iconst 3) ((xe_iload 5).trans (congrArg (x_iload 5) ((xe_imul).trans (congrArg (x_imul) ((xe_iconst 1).trans (congrArg (x_iconst 1) ((xe_iadd).trans (congrArg (x_iadd) ((xe_dup2).trans (congrArg (x_dup2) ((xe_iaload).trans (congrArg (x_iaload) ((xe_aload 0).trans (congrArg (x_aload 0) ((xe_g0 (kk := 111) rfl tl_11_83).trans (congrArg (x_g0 111 83 (-2147483648) 2147483647) ((xe_aload 0).trans (congrArg (x_aload 0) ((xe_g0 (kk := 111) rfl tl_11_82).trans (congrArg (x_g0 111 82 (-2147483648) 2147483647) ((xe_isub).trans (congrArg (x_isub) ((xe_iadd).trans (congrArg (x_iadd) ((xe_iastore).trans (congrArg (x_iastore) ((xe_aload 0).trans (congrArg (x_aload 0) ((xe_g1 (kk := 111) rfl tl_11_84).trans (congrArg (x_g1 111 284) ((xe_iconst 3).trans (congrArg (x_iconst 3) ((xe_iload 4).trans (congrArg (x_iload 4) ((xe_imul).trans (congrArg (x_imul) ((xe_iconst 2).trans (congrArg (x_iconst 2) ((xe_iadd).trans (congrArg (x_iadd) ((xe_dup2).trans (congrArg (x_dup2) ((xe_iaload).trans (congrArg (x_iaload) ((xe_aload 0).trans (congrArg (x_aload 0) ((xe_g0 (kk := 111) rfl tl_11_82).trans (congrArg (x_g0 111 82 (-2147483648) 2147483647) ((xe_iadd).trans (congrArg (x_iadd) ((xe_iastore).trans (congrArg (x_iastore) ((xe_aload 0).trans (congrArg (x_aload 0) ((xe_g1 (kk := 111) rfl tl_11_84).trans (congrArg (x_g1 111 284) ((xe_iconst 3).trans (congrArg (x_iconst 3) ((xe_iload 5).trans (congrArg (x_iload 5) ((xe_imul).trans (congrArg (x_imul) ((xe_iconst 2).trans (congrArg (x_iconst 2) ((xe_iadd).trans (congrArg (x_iadd) ((xe_dup2).trans (congrArg (x_dup2) ((xe_iaload).trans (congrArg (x_iaload) ((xe_aload 0).trans (congrArg (x_aload 0) ((xe_g0 (kk := 111) rfl tl_11_83).trans (congrArg (x_g0 111 83 (-2147483648) 2147483647) ((xe_iadd).trans (congrArg (x_iadd) ((xe_iastore).trans (congrArg (x_iastore) xe_nil))))))))))))))))))))))))))))))))))))))))))))))))))))))))))))))))))))))))))))))))))))))))))))))))))))))))))))))))))))))))
theorem bk_X11_sayHead_e_7 : ck_ fX11 none cX11_sayHead 7 [.iload 3, .aload 0, .tableswitch 0 11 10 #[], .iload 1, .iaload, .aload 0, .tableswitch 0 11 11 #[], .iload 1, .iaload, .iadd, .if_icmp .ge 236, .aload 0, .tableswitch 0 11 32 #[], .iload 3, .iaload, .istore 4, .aload 0, .tableswitch 0 11 33 #[], .iload 3, .iaload, .istore 5, .aload 0, .tableswitch 0 11 85 #[], .iload 4, .ishr, .iconst 1, .iand, .iconst 1, .if_icmp .ne 230, .aload 0, .tableswitch 0 11 85 #[], .iload 5, .ishr, .iconst 1, .iand, .iconst 1, .if_icmp .ne 230, .aload 0, .iload 3, .iload 2] 69 = true := qck_r (nn_ _) (by decide +kernel)
theorem bs_X11_sayHead_e_7 {P : Zt → Option Zv → Prop} (K : Int → Zl → List Zv → Zt → Prop) : sx_ K P [.iload 3, .aload 0, .tableswitch 0 11 10 #[], .iload 1, .iaload, .aload 0, .tableswitch 0 11 11 #[], .iload 1, .iaload, .iadd, .if_icmp .ge 236, .aload 0, .tableswitch 0 11 32 #[], .iload 3, .iaload, .istore 4, .aload 0, .tableswitch 0 11 33 #[], .iload 3, .iaload, .istore 5, .aload 0, .tableswitch 0 11 85 #[], .iload 4, .ishr, .iconst 1, .iand, .iconst 1, .if_icmp .ne 230, .aload 0, .tableswitch 0 11 85 #[], .iload 5, .ishr, .iconst 1, .iand, .iconst 1, .if_icmp .ne 230, .aload 0, .iload 3, .iload 2] 69 = x_iload 3 (x_aload 0 (x_g1 111 210 (x_iload 1 (x_iaload (x_aload 0 (x_g1 111 211 (x_iload 1 (x_iaload (x_iadd (x_if_icmp .ge 236 K (x_aload 0 (x_g1 111 232 (x_iload 3 (x_iaload (x_istore 4 (x_aload 0 (x_g1 111 233 (x_iload 3 (x_iaload (x_istore 5 (x_aload 0 (x_g0 111 85 0 4095 (x_iload 4 (x_ishr (x_iconst 1 (x_iand (x_iconst 1 (x_if_icmp .ne 230 K (x_aload 0 (x_g0 111 85 0 4095 (x_iload 5 (x_ishr (x_iconst 1 (x_iand (x_iconst 1 (x_if_icmp .ne 230 K (x_aload 0 (x_iload 3 (x_iload 2 (K 69)))))))))))))))))))))))))))))))))))))))) := ((xe_iload 3).trans (congrArg (x_iload 3) ((xe_aload 0).trans (congrArg (x_aload 0) ((xe_g1 (kk := 111) rfl tl_11_10).trans (congrArg (x_g1 111 210) ((xe_iload 1).trans (congrArg (x_iload 1) ((xe_iaload).trans (congrArg (x_iaload) ((xe_aload 0).trans (congrArg (x_aload 0) ((xe_g1 (kk := 111) rfl tl_11_11).trans (congrArg (x_g1 111 211) ((xe_iload 1).trans (congrArg (x_iload 1) ((xe_iaload).trans (congrArg (x_iaload) ((xe_iadd).trans (congrArg (x_iadd) ((xe_if_icmp .ge 236).trans (congrArg (x_if_icmp .ge 236 K) ((xe_aload 0).trans (congrArg (x_aload 0) ((xe_g1 (kk := 111) rfl tl_11_32).trans (congrArg (x_g1 111 232) ((xe_iload 3).trans (congrArg (x_iload 3) ((xe_iaload).trans (congrArg (x_iaload) ((xe_istore 4).trans (congrArg (x_istore 4) ((xe_aload 0).trans (congrArg (x_aload 0) ((xe_g1 (kk := 111) rfl tl_11_33).trans (congrArg (x_g1 111 233) ((xe_iload 3).trans (congrArg (x_iload 3) ((xe_iaload).trans (congrArg (x_iaload) ((xe_istore 5).trans (congrArg (x_istore 5) ((xe_aload 0).trans (congrArg (x_aload 0) ((xe_g0 (kk := 111) rfl tl_11_85).trans (congrArg (x_g0 111 85 0 4095) ((xe_iload 4).trans (congrArg (x_iload 4) ((xe_ishr).trans (congrArg (x_ishr) ((xe_iconst 1).trans (congrArg (x_iconst 1) ((xe_iand).trans (congrArg (x_iand) ((xe_iconst 1).trans (congrArg (x_iconst 1) ((xe_if_icmp .ne 230).trans (congrArg (x_if_icmp .ne 230 K) ((xe_aload 0).trans (congrArg (x_aload 0) ((xe_g0 (kk := 111) rfl tl_11_85).trans (congrArg (x_g0 111 85 0 4095) ((xe_iload 5).trans (congrArg (x_iload 5) ((xe_ishr).trans (congrArg (x_ishr) ((xe_iconst 1).trans (congrArg (x_iconst 1) ((xe_iand).trans (congrArg (x_iand) ((xe_iconst 1).trans (congrArg (x_iconst 1) ((xe_if_icmp .ne 230).trans (congrArg (x_if_icmp .ne 230 K) ((xe_aload 0).trans (congrArg (x_aload 0) ((xe_iload 3).trans (congrArg (x_iload 3) ((xe_iload 2).trans (congrArg (x_iload 2) xe_nil))))))))))))))))))))))))))))))))))))))))))))))))))))))))))))))))))))))))))))))))
theorem bk_X11_sayHead_e_236 : ck_ fX11 none cX11_sayHead 236 [.return_] 237 = true := qck_r (nn_ _) (by decide +kernel)
theorem bs_X11_sayHead_e_236 {P : Zt → Option Zv → Prop} (K : Int → Zl → List Zv → Zt → Prop) : sx_ K P [.return_] 237 = x_return_ P := (xe_return_)
theorem bk_X11_sayHead_e_72 : ck_ fX11 none cX11_sayHead 72 [.ifCond .eq 230, .aload 0, .tableswitch 0 11 82 #[], .aload 0, .tableswitch 0 11 83 #[], .if_icmp .le 90, .iconst 1, .goto 106] 90 = true := qck_r (nn_ _) (by decide +kernel)
theorem bs_X11_sayHead_e_72 {P : Zt → Option Zv → Prop} (K : Int → Zl → List Zv → Zt → Prop) : sx_ K P [.ifCond .eq 230, .aload 0, .tableswitch 0 11 82 #[], .aload 0, .tableswitch 0 11 83 #[], .if_icmp .le 90, .iconst 1, .goto 106] 90 = x_ifCond .eq 230 K (x_aload 0 (x_g0 111 82 (-2147483648) 2147483647 (x_aload 0 (x_g0 111 83 (-2147483648) 2147483647 (x_if_icmp .le 90 K (x_iconst 1 (x_goto 106 K))))))) := ((xe_ifCond .eq 230).trans (congrArg (x_ifCond .eq 230 K) ((xe_aload 0).trans (congrArg (x_aload 0) ((xe_g0 (kk := 111) rfl tl_11_82).trans (congrArg (x_g0 111 82 (-2147483648) 2147483647) ((xe_aload 0).trans (congrArg (x_aload 0) ((xe_g0 (kk := 111) rfl tl_11_83).trans (congrArg (x_g0 111 83 (-2147483648) 2147483647) ((xe_if_icmp .le 90).trans (congrArg (x_if_icmp .le 90 K) ((xe_iconst 1).trans (congrArg (x_iconst 1) (xe_goto 106)))))))))))))))
theorem bk_X11_sayHead_e_90 : ck_ fX11 none cX11_sayHead 90 [.aload 0, .tableswitch 0 11 82 #[], .aload 0, .tableswitch 0 11 83 #[], .if_icmp .ne 105, .iconst 2, .goto 106] 105 = true := qck_r (nn_ _) (by decide +kernel)
theorem bs_X11_sayHead_e_90 {P : Zt → Option Zv → Prop} (K : Int → Zl → List Zv → Zt → Prop) : sx_ K P [.aload 0, .tableswitch 0 11 82 #[], .aload 0, .tableswitch 0 11 83 #[], .if_icmp .ne 105, .iconst 2, .goto 106] 105 = x_aload 0 (x_g0 111 82 (-2147483648) 2147483647 (x_aload 0 (x_g0 111 83 (-2147483648) 2147483647 (x_if_icmp .ne 105 K (x_iconst 2 (x_goto 106 K)))))) := ((xe_aload 0).trans (congrArg (x_aload 0) ((xe_g0 (kk := 111) rfl tl_11_82).trans (congrArg (x_g0 111 82 (-2147483648) 2147483647) ((xe_aload 0).trans (congrArg (x_aload 0) ((xe_g0 (kk := 111) rfl tl_11_83).trans (congrArg (x_g0 111 83 (-2147483648) 2147483647) ((xe_if_icmp .ne 105).trans (congrArg (x_if_icmp .ne 105 K) ((xe_iconst 2).trans (congrArg (x_iconst 2) (xe_goto 106)))))))))))))
theorem bk_X11_sayHead_e_105 : ck_ fX11 none cX11_sayHead 105 [.iconst 3] 106 = true := qck_r (nn_ _) (by decide +kernel)
theorem bs_X11_sayHead_e_105 {P : Zt → Option Zv → Prop} (K : Int → Zl → List Zv → Zt → Prop) : sx_ K P [.iconst 3] 106 = x_iconst 3 (K 106) := ((xe_iconst 3).trans (congrArg (x_iconst 3) xe_nil))
theorem bk_X11_sayHead_e_0 : ck_ fX11 none cX11_sayHead 0 [.aload 0, .tableswitch 0 11 10 #[], .iload 1, .iaload, .istore 3] 7 = true := qck_r (nn_ _) (by decide +kernel)
theorem bs_X11_sayHead_e_0 {P : Zt → Option Zv → Prop} (K : Int → Zl → List Zv → Zt → Prop) : sx_ K P [.aload 0, .tableswitch 0 11 10 #[], .iload 1, .iaload, .istore 3] 7 = x_aload 0 (x_g1 111 210 (x_iload 1 (x_iaload (x_istore 3 (K 7))))) := ((xe_aload 0).trans (congrArg (x_aload 0) ((xe_g1 (kk := 111) rfl tl_11_10).trans (congrArg (x_g1 111 210) ((xe_iload 1).trans (congrArg (x_iload 1) ((xe_iaload).trans (congrArg (x_iaload) ((xe_istore 3).trans (congrArg (x_istore 3) xe_nil))))))))))
abbrev po_X11_sayHead_e (T : Zt) (bb : Int) (c d : Int) : Zt → Option Zv → Prop := fun T' r => r = none ∧ fr_ [(284, []), (111, [82, 83])] T T' ∧ (SA_ T' (bb + 48000000) ∧ GN_ T T' (fun w => T 205 0 (23 * c + w)) (fun k => vR_ T d (T 210 0 c + k)) (T 111 0 85) (T 211 0 c).toNat)
set_option maxHeartbeats 4000000 in
theorem ct_X11_sayHead_e {T : Zt} {bb : Int} {c d : Int} (h1 : 0 ≤ c ∧ c < 4) (hml : ML_ T) (hsc : SC_ T) (hbb : 0 ≤ bb ∧ bb ≤ 500000000) (hsa : SA_ T bb) : Ct_ yX11_sayHead zX11_sayHead T [vR 111 0, vI c, vI d] (po_X11_sayHead_e T bb c d) := by
  refine ct_of pn_11 rfl rfl (Nat.le_of_ble_eq_true rfl) (fun hT hav => ?_)
  have hr_c : -2147483648 ≤ c ∧ c ≤ 2147483647 := hav (vI c) (List.mem_cons_of_mem _ List.mem_cons_self)
  have hr_d : -2147483648 ≤ d ∧ d ≤ 2147483647 := hav (vI d) (List.mem_cons_of_mem _ (List.mem_cons_of_mem _ List.mem_cons_self))
  have hz : zX11_sayHead.2.2.2.1 = some .boolean → ∀ (T' : Zt) (x : Int), po_X11_sayHead_e T bb c d T' (some (vI x)) → 0 ≤ x ∧ x ≤ 1 := fun h => by cases h
  have hb_29 : 0 ≤ T 111 0 29 ∧ T 111 0 29 ≤ 400 := bd_f hT 111 29 tl_11_29 0
  have hmc := hml c (by omega) (by omega)
  have hfo : 0 ≤ T 210 0 c ∧ T 210 0 c ≤ 400 := bd_a hT 210 (by decide +kernel : ta_ 210 = some (1, some 4, 0, 400)) 0 (by omega)
  have hmo : 0 ≤ T 211 0 c ∧ T 211 0 c ≤ 400 := bd_a hT 211 (by decide +kernel : ta_ 211 = some (1, some 4, 0, 400)) 0 (by omega)
  show J_ zX11_sayHead T (po_X11_sayHead_e T bb c d) 0 0 0 [some (vR 111 0), some (vI c), some (vI d), none, none, none, none] [] T
  have c_7 : ∀ (nn : Nat) (m : Int) (T1 : Zt), ((400 - m).toNat) ≤ nn → (fr_ [(284, []), (111, [82, 83])] T T1) → (SA_ T1 (bb + 120000 * (m - T 210 0 c))) → (T 210 0 c ≤ m ∧ m ≤ 400 ∧ m ≤ T 210 0 c + T 211 0 c) → (GN_ T T1 (fun w => T 205 0 (23 * c + w)) (fun k => vR_ T d (T 210 0 c + k)) (T 111 0 85) (m - T 210 0 c).toNat) → J_ zX11_sayHead T (po_X11_sayHead_e T bb c d) 0 0 7 [some (vR 111 0), some (vI c), some (vI d), some (vI m), none, none, none] [] T1 := by
    intro nn
    induction nn using Nat.strongRecOn with
    | _ nn ih_7 =>
      intro m T1 hm_7 hf_7 sa1 i1 gn1
      replace hm_7 := fun (_ : Unit) => hm_7
      have c_230 : ∀ (T3 : Zt), (fr_ [(284, []), (111, [82, 83])] T T3) → (SA_ T3 (bb + 120000 * (m - T 210 0 c) + 120000)) → (m < 400 ∧ m < T 210 0 c + T 211 0 c) → (GN_ T T3 (fun w => T 205 0 (23 * c + w)) (fun k => vR_ T d (T 210 0 c + k)) (T 111 0 85) (m - T 210 0 c + 1).toNat) → J_ zX11_sayHead T (po_X11_sayHead_e T bb c d) 0 0 230 [some (vR 111 0), some (vI c), some (vI d), some (vI m), none, none, none] [] T3 := by
        intro T3 hf_230 sa3 i3 gn3
        refine j_blx (F := fX11) tb_X11 (nn_ _) bk_X11_sayHead_e_230 bs_X11_sayHead_e_230 hz (fun K hK => ?_)
        refine rg_i (by omega) ?_
        refine hK 7 [some (vR 111 0), some (vI c), some (vI d), some (vI (m + 1)), none, none, none] [] T3 ?_
        refine ih_7 _ ?_ (m + 1) T3 (Nat.le_refl _) ?_ ?_ ?_ ?_
        · have hm_7 := hm_7 (); omega
        · exact fr_t (fr_0 _ _) (fr_s hf_230 rfl)
        · exact sa_m (sa3) (by omega)
        · omega
        · rw [show m + 1 - T 210 0 c = m - T 210 0 c + 1 by omega]
          exact fun x i a b c9 d9 => (rfl).trans (gn3 x i a b c9 d9)
      have c_106 : ∀ (v : Int) (T2 : Zt), (fr_ [(284, []), (111, [82, 83])] T T2) → (SA_ T2 (bb + 120000 * (m - T 210 0 c))) → (1 ≤ v ∧ v ≤ 3 ∧ m < 400 ∧ m < T 210 0 c + T 211 0 c ∧ (0 ≤ T2 111 0 82 ∧ T2 111 0 82 ≤ 20000) ∧ (0 ≤ T2 111 0 83 ∧ T2 111 0 83 ≤ 20000) ∧ 0 ≤ T 232 0 m ∧ T 232 0 m ≤ 11 ∧ 0 ≤ T 233 0 m ∧ T 233 0 m ≤ 11) → ((v = 1 ∧ T2 111 0 83 < T2 111 0 82) ∨ (v = 2 ∧ T2 111 0 82 = T2 111 0 83) ∨ (v = 3 ∧ T2 111 0 82 < T2 111 0 83)) → (vR_ T d m 0 = 1) → (T2 111 0 82 = vR_ T d m 3) → (T2 111 0 83 = vR_ T d m 4) → (mb9_ (T 111 0 85) (T 232 0 m)) → (mb9_ (T 111 0 85) (T 233 0 m)) → (GN_ T T2 (fun w => T 205 0 (23 * c + w)) (fun k => vR_ T d (T 210 0 c + k)) (T 111 0 85) (m - T 210 0 c).toNat) → J_ zX11_sayHead T (po_X11_sayHead_e T bb c d) 0 0 106 [some (vR 111 0), some (vI c), some (vI d), some (vI m), some (vI (T 232 0 m)), some (vI (T 233 0 m)), none] [vI v] T2 := by
        intro v T2 hf_106 sa2 i2 i2v w0 w3 w4 mb1 mb2 gn2
        have hra : (-1) ≤ T 205 0 (23 * c + v) ∧ T 205 0 (23 * c + v) ≤ 999 := bd_a hT 205 (by decide +kernel : ta_ 205 = some (1, some 92, (-1), 999)) 0 (by omega)
        have hrb : (-1) ≤ T 205 0 (23 * c + (4 - v)) ∧ T 205 0 (23 * c + (4 - v)) ≤ 999 := bd_a hT 205 (by decide +kernel : ta_ 205 = some (1, some 92, (-1), 999)) 0 (by omega)
        refine j_blx (F := fX11) tb_X11 (nn_ _) bk_X11_sayHead_e_106 bs_X11_sayHead_e_106 hz (fun K hK => ?_)
        refine rg_i (by omega) ?_
        refine ix_i (by omega) ?_
        intro b1 b1b
        refine hK 122 [some (vR 111 0), some (vI c), some (vI d), some (vI m), some (vI (T 232 0 m)), some (vI (T 233 0 m)), some (vI v)] [vI v, vI c, vR 111 0, vI (T2 284 0 (3 * (T 232 0 m))), vI (3 * (T 232 0 m)), vR 284 0] T2 ?_
        refine j_callV (y := yX11_rule0) (Yc := zX11_rule0) (rest := [vI (T2 284 0 (3 * (T 232 0 m))), vI (3 * (T 232 0 m)), vR 284 0]) [vI c, vI v] (ct_X11_rule0 (T := T2) (by omega) (by omega)) cl_X11_321 (qd_c (by decide +kernel)) (nn_ _) rfl (rf_of rfl) (Nat.le_of_ble_eq_true rfl) (Nat.le_of_ble_eq_true rfl) (Nat.le_of_ble_eq_true rfl) rfl ?_
        rintro _ _ ⟨rfl, rfl⟩
        have e2 : T2 205 0 (23 * c + v) = T 205 0 (23 * c + v) := hf_106 205 0 (23 * c + v) rfl
        show J_ zX11_sayHead T (po_X11_sayHead_e T bb c d) 0 0 125 _ [vI (T2 205 0 (23 * c + v)), vI (T2 284 0 (3 * (T 232 0 m))), vI (3 * (T 232 0 m)), vR 284 0] T2
        refine j_blx (F := fX11) tb_X11 (nn_ _) bk_X11_sayHead_e_125 bs_X11_sayHead_e_125 hz (fun K hK => ?_)
        have t3 : -(bb + 120000 * (m - T 210 0 c)) ≤ T2 284 0 (3 * (T 232 0 m)) ∧ T2 284 0 (3 * (T 232 0 m)) ≤ bb + 120000 * (m - T 210 0 c) := (sa2) (3 * (T 232 0 m)) (by omega) (by omega)
        refine rg_i (by omega) ?_
        refine iy_i (by omega) (by omega) ?_
        refine x_nm (fun U4 hU4 => ?_)
        have e5 := up_f hU4
        refine rg_i (by omega) ?_
        refine ix_i (by omega) ?_
        intro b6 b6b
        refine rg_i (by omega) ?_
        refine hK 143 _ [vI (4 - v), vI c, vR 111 0, vI (U4 284 0 (3 * (T 233 0 m))), vI (3 * (T 233 0 m)), vR 284 0] U4 ?_
        refine j_callV (y := yX11_rule0) (Yc := zX11_rule0) (rest := [vI (U4 284 0 (3 * (T 233 0 m))), vI (3 * (T 233 0 m)), vR 284 0]) [vI c, vI (4 - v)] (ct_X11_rule0 (T := U4) (by omega) (by omega)) cl_X11_321 (qd_c (by decide +kernel)) (nn_ _) rfl (rf_of rfl) (Nat.le_of_ble_eq_true rfl) (Nat.le_of_ble_eq_true rfl) (Nat.le_of_ble_eq_true rfl) rfl ?_
        rintro _ _ ⟨rfl, rfl⟩
        have e7 : U4 205 0 (23 * c + (4 - v)) = T 205 0 (23 * c + (4 - v)) := (up_k hU4 (by exact Nat.ne_of_beq_eq_false rfl) 0 (23 * c + (4 - v))).trans (hf_106 205 0 (23 * c + (4 - v)) rfl)
        show J_ zX11_sayHead T (po_X11_sayHead_e T bb c d) 0 0 146 _ [vI (U4 205 0 (23 * c + (4 - v))), vI (U4 284 0 (3 * (T 233 0 m))), vI (3 * (T 233 0 m)), vR 284 0] U4
        refine j_blx (F := fX11) tb_X11 (nn_ _) bk_X11_sayHead_e_146 bs_X11_sayHead_e_146 hz (fun K hK => ?_)
        have t8 : -(bb + 120000 * (m - T 210 0 c) + 20000) ≤ U4 284 0 (3 * (T 233 0 m)) ∧ U4 284 0 (3 * (T 233 0 m)) ≤ bb + 120000 * (m - T 210 0 c) + 20000 := (sa_u (d := 20000) (sa2) hU4 (by decide) (by omega)) (3 * (T 233 0 m)) (by omega) (by omega)
        refine rg_i (by omega) ?_
        refine iy_i (by omega) (by omega) ?_
        refine x_nm (fun U9 hU9 => ?_)
        have e10 := up_f hU9
        refine rg_i (by omega) ?_
        refine rg_i (by omega) ?_
        refine ix_i (by omega) ?_
        intro b11 b11b
        intro b12 b12b
        have e13 : U9 111 0 82 = T2 111 0 82 := (up_k hU9 (by exact Nat.ne_of_beq_eq_false rfl) 0 82).trans (up_k hU4 (by exact Nat.ne_of_beq_eq_false rfl) 0 82)
        rw [e13] at b12 b12b ⊢
        intro b14 b14b
        have e15 : U9 111 0 83 = T2 111 0 83 := (up_k hU9 (by exact Nat.ne_of_beq_eq_false rfl) 0 83).trans (up_k hU4 (by exact Nat.ne_of_beq_eq_false rfl) 0 83)
        rw [e15] at b14 b14b ⊢
        refine rg_i (by omega) ?_
        have t16 : -(bb + 120000 * (m - T 210 0 c) + 20000 + 20000) ≤ U9 284 0 ((3 * (T 232 0 m)) + 1) ∧ U9 284 0 ((3 * (T 232 0 m)) + 1) ≤ bb + 120000 * (m - T 210 0 c) + 20000 + 20000 := (sa_u (d := 20000) (sa_u (d := 20000) (sa2) hU4 (by decide) (by omega)) hU9 (by decide) (by omega)) ((3 * (T 232 0 m)) + 1) (by omega) (by omega)
        refine rg_i (by omega) ?_
        refine iy_i (by omega) (by omega) ?_
        refine x_nm (fun U17 hU17 => ?_)
        have e18 := up_f hU17
        refine rg_i (by omega) ?_
        refine rg_i (by omega) ?_
        refine ix_i (by omega) ?_
        intro b19 b19b
        intro b20 b20b
        have e21 : U17 111 0 83 = T2 111 0 83 := (up_k hU17 (by exact Nat.ne_of_beq_eq_false rfl) 0 83).trans ((up_k hU9 (by exact Nat.ne_of_beq_eq_false rfl) 0 83).trans (up_k hU4 (by exact Nat.ne_of_beq_eq_false rfl) 0 83))
        rw [e21] at b20 b20b ⊢
        intro b22 b22b
        have e23 : U17 111 0 82 = T2 111 0 82 := (up_k hU17 (by exact Nat.ne_of_beq_eq_false rfl) 0 82).trans ((up_k hU9 (by exact Nat.ne_of_beq_eq_false rfl) 0 82).trans (up_k hU4 (by exact Nat.ne_of_beq_eq_false rfl) 0 82))
        rw [e23] at b22 b22b ⊢
        refine rg_i (by omega) ?_
        have t24 : -(bb + 120000 * (m - T 210 0 c) + 20000 + 20000 + 20000) ≤ U17 284 0 ((3 * (T 233 0 m)) + 1) ∧ U17 284 0 ((3 * (T 233 0 m)) + 1) ≤ bb + 120000 * (m - T 210 0 c) + 20000 + 20000 + 20000 := (sa_u (d := 20000) (sa_u (d := 20000) (sa_u (d := 20000) (sa2) hU4 (by decide) (by omega)) hU9 (by decide) (by omega)) hU17 (by decide) (by omega)) ((3 * (T 233 0 m)) + 1) (by omega) (by omega)
        refine rg_i (by omega) ?_
        refine iy_i (by omega) (by omega) ?_
        refine x_nm (fun U25 hU25 => ?_)
        have e26 := up_f hU25
        refine rg_i (by omega) ?_
        refine rg_i (by omega) ?_
        refine ix_i (by omega) ?_
        intro b27 b27b
        intro b28 b28b
        have e29 : U25 111 0 82 = T2 111 0 82 := (up_k hU25 (by exact Nat.ne_of_beq_eq_false rfl) 0 82).trans ((up_k hU17 (by exact Nat.ne_of_beq_eq_false rfl) 0 82).trans ((up_k hU9 (by exact Nat.ne_of_beq_eq_false rfl) 0 82).trans (up_k hU4 (by exact Nat.ne_of_beq_eq_false rfl) 0 82)))
        rw [e29] at b28 b28b ⊢
        have t30 : -(bb + 120000 * (m - T 210 0 c) + 20000 + 20000 + 20000 + 20000) ≤ U25 284 0 ((3 * (T 232 0 m)) + 2) ∧ U25 284 0 ((3 * (T 232 0 m)) + 2) ≤ bb + 120000 * (m - T 210 0 c) + 20000 + 20000 + 20000 + 20000 := (sa_u (d := 20000) (sa_u (d := 20000) (sa_u (d := 20000) (sa_u (d := 20000) (sa2) hU4 (by decide) (by omega)) hU9 (by decide) (by omega)) hU17 (by decide) (by omega)) hU25 (by decide) (by omega)) ((3 * (T 232 0 m)) + 2) (by omega) (by omega)
        refine rg_i (by omega) ?_
        refine iy_i (by omega) (by omega) ?_
        refine x_nm (fun U31 hU31 => ?_)
        have e32 := up_f hU31
        refine rg_i (by omega) ?_
        refine rg_i (by omega) ?_
        refine ix_i (by omega) ?_
        intro b33 b33b
        intro b34 b34b
        have e35 : U31 111 0 83 = T2 111 0 83 := (up_k hU31 (by exact Nat.ne_of_beq_eq_false rfl) 0 83).trans ((up_k hU25 (by exact Nat.ne_of_beq_eq_false rfl) 0 83).trans ((up_k hU17 (by exact Nat.ne_of_beq_eq_false rfl) 0 83).trans ((up_k hU9 (by exact Nat.ne_of_beq_eq_false rfl) 0 83).trans (up_k hU4 (by exact Nat.ne_of_beq_eq_false rfl) 0 83))))
        rw [e35] at b34 b34b ⊢
        have t36 : -(bb + 120000 * (m - T 210 0 c) + 20000 + 20000 + 20000 + 20000 + 20000) ≤ U31 284 0 ((3 * (T 233 0 m)) + 2) ∧ U31 284 0 ((3 * (T 233 0 m)) + 2) ≤ bb + 120000 * (m - T 210 0 c) + 20000 + 20000 + 20000 + 20000 + 20000 := (sa_u (d := 20000) (sa_u (d := 20000) (sa_u (d := 20000) (sa_u (d := 20000) (sa_u (d := 20000) (sa2) hU4 (by decide) (by omega)) hU9 (by decide) (by omega)) hU17 (by decide) (by omega)) hU25 (by decide) (by omega)) hU31 (by decide) (by omega)) ((3 * (T 233 0 m)) + 2) (by omega) (by omega)
        refine rg_i (by omega) ?_
        refine iy_i (by omega) (by omega) ?_
        refine x_nm (fun U37 hU37 => ?_)
        have e38 := up_f hU37
        refine hK 230 _ [] U37 ?_
        refine j_drop [some (vR 111 0), some (vI c), some (vI d), some (vI m), none, none, none] (fun k v hk => ?_) rfl ?_
        · match k, hk with
          | 0, hk => exact hk
          | 1, hk => exact hk
          | 2, hk => exact hk
          | 3, hk => exact hk
          | 4, hk => cases hk
          | 5, hk => cases hk
          | 6, hk => cases hk
          | k + 7, hk => cases hk
        refine c_230 U37 ?_ ?_ ?_ ?_
        · exact fr_u (fr_u (fr_u (fr_u (fr_u (fr_u (fr_t (fr_0 _ _) (fr_s hf_106 rfl)) hU4 rfl) hU9 rfl) hU17 rfl) hU25 rfl) hU31 rfl) hU37 rfl
        · exact sa_m (sa_u (d := 20000) (sa_u (d := 20000) (sa_u (d := 20000) (sa_u (d := 20000) (sa_u (d := 20000) (sa_u (d := 20000) (sa2) hU4 (by decide) (by omega)) hU9 (by decide) (by omega)) hU17 (by decide) (by omega)) hU25 (by decide) (by omega)) hU31 (by decide) (by omega)) hU37 (by decide) (by omega)) (by omega)
        · omega
        · have ek : (((m - T 210 0 c).toNat : Nat) : Int) = m - T 210 0 c := by omega
          have em : T 210 0 c + (m - T 210 0 c) = m := by omega
          rw [show (m - T 210 0 c + 1).toNat = (m - T 210 0 c).toNat + 1 by omega]
          have g : ∀ i, vR_ T d (T 210 0 c + (m - T 210 0 c)) i = vR_ T d m i := fun i => by rw [em]
          have pv := pt_v (ru := (fun w => T 205 0 (23 * c + w))) i2v
          refine gn_s (fun x i a b c9 d9 => gn2 x i a b c9 d9) (sv_u (c := T 233 0 m) (q := 2) (sv_u (c := T 232 0 m) (q := 2) (sv_u (c := T 233 0 m) (q := 1) (sv_u (c := T 232 0 m) (q := 1) (sv_u (c := T 233 0 m) (q := 0) (sv_u (c := T 232 0 m) (q := 0) (sv_0) hU4 (by omega) (by decide) rfl) hU9 (by omega) (by decide) rfl) hU17 (by omega) (by decide) rfl) hU25 (by omega) (by decide) rfl) hU31 (by omega) (by decide) rfl) hU37 (by omega) (by decide) rfl) (fun x i i0 i1 => ?_)
          rw [ek]
          exact gh_d (v := (fun k => vR_ T d (T 210 0 c + k))) (k := m - T 210 0 c) ((g 0).trans w0) ((g 1).trans vr_1) ((g 2).trans vr_2) ((g 3).trans w3.symm) ((g 4).trans w4.symm) mb1 mb2 i0 i1 ((hf_106 205 0 (23 * c + v) rfl).trans pv.1) (((up_k hU4 (by exact Nat.ne_of_beq_eq_false rfl) 0 (23 * c + (4 - v))).trans (hf_106 205 0 (23 * c + (4 - v)) rfl)).trans pv.2)
      refine j_blx (F := fX11) tb_X11 (nn_ _) bk_X11_sayHead_e_7 bs_X11_sayHead_e_7 hz (fun K hK => ?_)
      refine ix_i (by omega) ?_
      intro b39 b39b
      have e40 : T1 210 0 c = T 210 0 c := hf_7 210 0 c rfl
      rw [e40] at b39 b39b ⊢
      refine ix_i (by omega) ?_
      intro b41 b41b
      have e42 : T1 211 0 c = T 211 0 c := hf_7 211 0 c rfl
      rw [e42] at b41 b41b ⊢
      refine rg_i (by omega) ?_
      refine And.intro (fun c43 => ?_) (fun c43 => ?_)
      · refine hK 236 _ [] T1 ?_
        refine j_blx (F := fX11) tb_X11 (nn_ _) bk_X11_sayHead_e_236 bs_X11_sayHead_e_236 hz (fun K hK => ?_)
        refine (show po_X11_sayHead_e T bb c d T1 (none) from ?_)
        exact ⟨rfl, fr_t (fr_0 _ _) (fr_s hf_7 rfl), sa_m sa1 (by omega), by rw [show T 211 0 c = m - T 210 0 c by omega]; exact gn1⟩
      · refine ix_i (by omega) ?_
        intro b44 b44b
        have e45 : T1 232 0 m = T 232 0 m := hf_7 232 0 m rfl
        rw [e45] at b44 b44b ⊢
        refine ix_i (by omega) ?_
        intro b46 b46b
        have e47 : T1 233 0 m = T 233 0 m := hf_7 233 0 m rfl
        rw [e47] at b46 b46b ⊢
        intro b48 b48b
        have e49 : T1 111 0 85 = T 111 0 85 := hf_7 111 0 85 rfl
        rw [e49] at b48 b48b ⊢
        intro w50 w50b
        intro w51 w51b
        refine And.intro (fun c52 => ?_) (fun c52 => ?_)
        · refine hK 230 [some (vR 111 0), some (vI c), some (vI d), some (vI m), some (vI (T 232 0 m)), some (vI (T 233 0 m)), none] [] T1 ?_
          refine j_drop [some (vR 111 0), some (vI c), some (vI d), some (vI m), none, none, none] (fun k v hk => ?_) rfl ?_
          · match k, hk with
            | 0, hk => exact hk
            | 1, hk => exact hk
            | 2, hk => exact hk
            | 3, hk => exact hk
            | 4, hk => cases hk
            | 5, hk => cases hk
            | 6, hk => cases hk
            | k + 7, hk => cases hk
          refine c_230 T1 ?_ ?_ ?_ ?_
          · exact fr_t (fr_0 _ _) (fr_s hf_7 rfl)
          · exact sa_m (sa1) (by omega)
          · omega
          · have ek : (((m - T 210 0 c).toNat : Nat) : Int) = m - T 210 0 c := by omega
            have em : T 210 0 c + (m - T 210 0 c) = m := by omega
            rw [show (m - T 210 0 c + 1).toNat = (m - T 210 0 c).toNat + 1 by omega]
            have g : ∀ i, vR_ T d (T 210 0 c + (m - T 210 0 c)) i = vR_ T d m i := fun i => by rw [em]
            refine gn_z gn1 ?_ (fun j => rfl)
            rw [ek]
            show ¬ (vR_ T d (T 210 0 c + (m - T 210 0 c)) 0 = 1 ∧ mb9_ (T 111 0 85) (vR_ T d (T 210 0 c + (m - T 210 0 c)) 1) ∧ mb9_ (T 111 0 85) (vR_ T d (T 210 0 c + (m - T 210 0 c)) 2))
            rw [g, g, g, vr_1, vr_2]
            rintro ⟨-, y1, y2⟩
            have y3 : an_ (sr_ (T 111 0 85) (T 232 0 m)) 1 = 1 := y1
            have y4 : an_ (sr_ (T 111 0 85) (T 233 0 m)) 1 = 1 := y2
            omega
        · intro b53 b53b
          have e54 : T1 111 0 85 = T 111 0 85 := hf_7 111 0 85 rfl
          rw [e54] at b53 b53b ⊢
          intro w55 w55b
          intro w56 w56b
          refine And.intro (fun c57 => ?_) (fun c57 => ?_)
          · refine hK 230 [some (vR 111 0), some (vI c), some (vI d), some (vI m), some (vI (T 232 0 m)), some (vI (T 233 0 m)), none] [] T1 ?_
            refine j_drop [some (vR 111 0), some (vI c), some (vI d), some (vI m), none, none, none] (fun k v hk => ?_) rfl ?_
            · match k, hk with
              | 0, hk => exact hk
              | 1, hk => exact hk
              | 2, hk => exact hk
              | 3, hk => exact hk
              | 4, hk => cases hk
              | 5, hk => cases hk
              | 6, hk => cases hk
              | k + 7, hk => cases hk
            refine c_230 T1 ?_ ?_ ?_ ?_
            · exact fr_t (fr_0 _ _) (fr_s hf_7 rfl)
            · exact sa_m (sa1) (by omega)
            · omega
            · have ek : (((m - T 210 0 c).toNat : Nat) : Int) = m - T 210 0 c := by omega
              have em : T 210 0 c + (m - T 210 0 c) = m := by omega
              rw [show (m - T 210 0 c + 1).toNat = (m - T 210 0 c).toNat + 1 by omega]
              have g : ∀ i, vR_ T d (T 210 0 c + (m - T 210 0 c)) i = vR_ T d m i := fun i => by rw [em]
              refine gn_z gn1 ?_ (fun j => rfl)
              rw [ek]
              show ¬ (vR_ T d (T 210 0 c + (m - T 210 0 c)) 0 = 1 ∧ mb9_ (T 111 0 85) (vR_ T d (T 210 0 c + (m - T 210 0 c)) 1) ∧ mb9_ (T 111 0 85) (vR_ T d (T 210 0 c + (m - T 210 0 c)) 2))
              rw [g, g, g, vr_1, vr_2]
              rintro ⟨-, y1, y2⟩
              have y3 : an_ (sr_ (T 111 0 85) (T 232 0 m)) 1 = 1 := y1
              have y4 : an_ (sr_ (T 111 0 85) (T 233 0 m)) 1 = 1 := y2
              omega
          · refine hK 69 [some (vR 111 0), some (vI c), some (vI d), some (vI m), some (vI (T 232 0 m)), some (vI (T 233 0 m)), none] [vI d, vI m, vR 111 0] T1 ?_
            refine j_callV (y := yX11_counts) (Yc := zX11_counts) (rest := []) [vI m, vI d] (ct_X11_counts_e (T := T1) (by omega) (SC__f (ws := [(284, []), (111, [82, 83])]) hsc (fr_t (fr_0 _ _) (fr_s hf_7 rfl)) ⟨fun _ => rfl, fun _ => rfl, trivial⟩)) cl_X11_487 (qd_c (by decide +kernel)) (nn_ _) rfl (rf_of rfl) (Nat.le_of_ble_eq_true rfl) (Nat.le_of_ble_eq_true rfl) (Nat.le_of_ble_eq_true rfl) rfl ?_
            rintro U58 _ ⟨x59, rfl, fU58, ⟨qU58, qU58v⟩⟩
            show J_ zX11_sayHead T (po_X11_sayHead_e T bb c d) 0 0 72 _ [vI x59] U58
            refine j_blx (F := fX11) tb_X11 (nn_ _) bk_X11_sayHead_e_72 bs_X11_sayHead_e_72 hz (fun K hK => ?_)
            refine And.intro (fun c60 => ?_) (fun c60 => ?_)
            · refine hK 230 _ [] U58 ?_
              refine j_drop [some (vR 111 0), some (vI c), some (vI d), some (vI m), none, none, none] (fun k v hk => ?_) rfl ?_
              · match k, hk with
                | 0, hk => exact hk
                | 1, hk => exact hk
                | 2, hk => exact hk
                | 3, hk => exact hk
                | 4, hk => cases hk
                | 5, hk => cases hk
                | 6, hk => cases hk
                | k + 7, hk => cases hk
              refine c_230 U58 ?_ ?_ ?_ ?_
              · exact fr_t (fr_t (fr_0 _ _) (fr_s hf_7 rfl)) (fr_s fU58 rfl)
              · exact sa_m (sa_f (sa1) (fun j => fU58 284 0 j rfl)) (by omega)
              · omega
              · have ek : (((m - T 210 0 c).toNat : Nat) : Int) = m - T 210 0 c := by omega
                have em : T 210 0 c + (m - T 210 0 c) = m := by omega
                rw [show (m - T 210 0 c + 1).toNat = (m - T 210 0 c).toNat + 1 by omega]
                have g : ∀ i, vR_ T d (T 210 0 c + (m - T 210 0 c)) i = vR_ T d m i := fun i => by rw [em]
                refine gn_z gn1 ?_ (fun j => fU58 284 0 j rfl)
                rw [ek]
                show ¬ (vR_ T d (T 210 0 c + (m - T 210 0 c)) 0 = 1 ∧ mb9_ (T 111 0 85) (vR_ T d (T 210 0 c + (m - T 210 0 c)) 1) ∧ mb9_ (T 111 0 85) (vR_ T d (T 210 0 c + (m - T 210 0 c)) 2))
                rw [g, g, g, vr_1, vr_2]
                have ev : vR_ T1 d m = vR_ T d m := vr_g hf_7 (fun k j q9 => by rcases q9 with rfl | rfl | rfl | rfl | rfl | rfl | rfl | rfl | rfl | rfl <;> rfl) rfl
                rintro ⟨y, -, -⟩
                rw [← ev] at y
                rcases qU58v with z | z
                · omega
                · exact z.2 y
            · intro b61 b61b
              intro b62 b62b
              refine And.intro (fun c63 => ?_) (fun c63 => ?_)
              · refine hK 90 [some (vR 111 0), some (vI c), some (vI d), some (vI m), some (vI (T 232 0 m)), some (vI (T 233 0 m)), none] [] U58 ?_
                refine j_blx (F := fX11) tb_X11 (nn_ _) bk_X11_sayHead_e_90 bs_X11_sayHead_e_90 hz (fun K hK => ?_)
                intro b64 b64b
                intro b65 b65b
                refine And.intro (fun c66 => ?_) (fun c66 => ?_)
                · refine hK 105 _ [] U58 ?_
                  refine j_blx (F := fX11) tb_X11 (nn_ _) bk_X11_sayHead_e_105 bs_X11_sayHead_e_105 hz (fun K hK => ?_)
                  refine hK 106 _ [vI 3] U58 ?_
                  refine c_106 3 U58 ?_ ?_ ?_ ?_ ?_ ?_ ?_ ?_ ?_ ?_
                  · exact fr_t (fr_t (fr_0 _ _) (fr_s hf_7 rfl)) (fr_s fU58 rfl)
                  · exact sa_m (sa_f (sa1) (fun j => fU58 284 0 j rfl)) (by omega)
                  · omega
                  · omega
                  · have ev : vR_ T1 d m = vR_ T d m := vr_g hf_7 (fun k j q9 => by rcases q9 with rfl | rfl | rfl | rfl | rfl | rfl | rfl | rfl | rfl | rfl <;> rfl) rfl
                    obtain ⟨w1, w2, w3, w4⟩ := qU58v.resolve_right (fun z => absurd z.1 (by omega))
                    rw [ev] at w2
                    exact w2
                  · have ev : vR_ T1 d m = vR_ T d m := vr_g hf_7 (fun k j q9 => by rcases q9 with rfl | rfl | rfl | rfl | rfl | rfl | rfl | rfl | rfl | rfl <;> rfl) rfl
                    obtain ⟨w1, w2, w3, w4⟩ := qU58v.resolve_right (fun z => absurd z.1 (by omega))
                    rw [ev] at w3
                    exact w3
                  · have ev : vR_ T1 d m = vR_ T d m := vr_g hf_7 (fun k j q9 => by rcases q9 with rfl | rfl | rfl | rfl | rfl | rfl | rfl | rfl | rfl | rfl <;> rfl) rfl
                    obtain ⟨w1, w2, w3, w4⟩ := qU58v.resolve_right (fun z => absurd z.1 (by omega))
                    rw [ev] at w4
                    exact w4
                  · show an_ (sr_ (T 111 0 85) (T 232 0 m)) 1 = 1
                    omega
                  · show an_ (sr_ (T 111 0 85) (T 233 0 m)) 1 = 1
                    omega
                  · exact fun x i a b c9 d9 => (fU58 284 0 (3 * x + i) rfl).trans (gn1 x i a b c9 d9)
                · refine hK 106 _ [vI 2] U58 ?_
                  refine c_106 2 U58 ?_ ?_ ?_ ?_ ?_ ?_ ?_ ?_ ?_ ?_
                  · exact fr_t (fr_t (fr_0 _ _) (fr_s hf_7 rfl)) (fr_s fU58 rfl)
                  · exact sa_m (sa_f (sa1) (fun j => fU58 284 0 j rfl)) (by omega)
                  · omega
                  · omega
                  · have ev : vR_ T1 d m = vR_ T d m := vr_g hf_7 (fun k j q9 => by rcases q9 with rfl | rfl | rfl | rfl | rfl | rfl | rfl | rfl | rfl | rfl <;> rfl) rfl
                    obtain ⟨w1, w2, w3, w4⟩ := qU58v.resolve_right (fun z => absurd z.1 (by omega))
                    rw [ev] at w2
                    exact w2
                  · have ev : vR_ T1 d m = vR_ T d m := vr_g hf_7 (fun k j q9 => by rcases q9 with rfl | rfl | rfl | rfl | rfl | rfl | rfl | rfl | rfl | rfl <;> rfl) rfl
                    obtain ⟨w1, w2, w3, w4⟩ := qU58v.resolve_right (fun z => absurd z.1 (by omega))
                    rw [ev] at w3
                    exact w3
                  · have ev : vR_ T1 d m = vR_ T d m := vr_g hf_7 (fun k j q9 => by rcases q9 with rfl | rfl | rfl | rfl | rfl | rfl | rfl | rfl | rfl | rfl <;> rfl) rfl
                    obtain ⟨w1, w2, w3, w4⟩ := qU58v.resolve_right (fun z => absurd z.1 (by omega))
                    rw [ev] at w4
                    exact w4
                  · show an_ (sr_ (T 111 0 85) (T 232 0 m)) 1 = 1
                    omega
                  · show an_ (sr_ (T 111 0 85) (T 233 0 m)) 1 = 1
                    omega
                  · exact fun x i a b c9 d9 => (fU58 284 0 (3 * x + i) rfl).trans (gn1 x i a b c9 d9)
              · refine hK 106 _ [vI 1] U58 ?_
                refine c_106 1 U58 ?_ ?_ ?_ ?_ ?_ ?_ ?_ ?_ ?_ ?_
                · exact fr_t (fr_t (fr_0 _ _) (fr_s hf_7 rfl)) (fr_s fU58 rfl)
                · exact sa_m (sa_f (sa1) (fun j => fU58 284 0 j rfl)) (by omega)
                · omega
                · omega
                · have ev : vR_ T1 d m = vR_ T d m := vr_g hf_7 (fun k j q9 => by rcases q9 with rfl | rfl | rfl | rfl | rfl | rfl | rfl | rfl | rfl | rfl <;> rfl) rfl
                  obtain ⟨w1, w2, w3, w4⟩ := qU58v.resolve_right (fun z => absurd z.1 (by omega))
                  rw [ev] at w2
                  exact w2
                · have ev : vR_ T1 d m = vR_ T d m := vr_g hf_7 (fun k j q9 => by rcases q9 with rfl | rfl | rfl | rfl | rfl | rfl | rfl | rfl | rfl | rfl <;> rfl) rfl
                  obtain ⟨w1, w2, w3, w4⟩ := qU58v.resolve_right (fun z => absurd z.1 (by omega))
                  rw [ev] at w3
                  exact w3
                · have ev : vR_ T1 d m = vR_ T d m := vr_g hf_7 (fun k j q9 => by rcases q9 with rfl | rfl | rfl | rfl | rfl | rfl | rfl | rfl | rfl | rfl <;> rfl) rfl
                  obtain ⟨w1, w2, w3, w4⟩ := qU58v.resolve_right (fun z => absurd z.1 (by omega))
                  rw [ev] at w4
                  exact w4
                · show an_ (sr_ (T 111 0 85) (T 232 0 m)) 1 = 1
                  omega
                · show an_ (sr_ (T 111 0 85) (T 233 0 m)) 1 = 1
                  omega
                · exact fun x i a b c9 d9 => (fU58 284 0 (3 * x + i) rfl).trans (gn1 x i a b c9 d9)
  refine j_blx (F := fX11) tb_X11 (nn_ _) bk_X11_sayHead_e_0 bs_X11_sayHead_e_0 hz (fun K hK => ?_)
  refine ix_i (by omega) ?_
  intro b67 b67b
  refine hK 7 [some (vR 111 0), some (vI c), some (vI d), some (vI (T 210 0 c)), none, none, none] [] T ?_
  refine c_7 _ (T 210 0 c) T (Nat.le_refl _) ?_ ?_ ?_ ?_
  · exact fr_0 _ _
  · exact sa_m (hsa) (by omega)
  · omega
  · rw [show (T 210 0 c - T 210 0 c).toNat = 0 by omega]
    exact gn_0
theorem bk_X11_say_e_285 : ck_ fX11 none cX11_say 285 [.iinc 5 1, .goto 59] 291 = true := qck_r (nn_ _) (by decide +kernel)
theorem bs_X11_say_e_285 {P : Zt → Option Zv → Prop} (K : Int → Zl → List Zv → Zt → Prop) : sx_ K P [.iinc 5 1, .goto 59] 291 = x_iinc 5 1 (x_goto 59 K) := ((xe_iinc 5 1).trans (congrArg (x_iinc 5 1) (xe_goto 59)))
theorem bk_X11_say_e_59 : ck_ fX11 none cX11_say 59 [.iload 5, .aload 0, .tableswitch 0 11 12 #[], .if_icmp .ge 291, .iconst 9, .iload 5, .imul, .istore 6, .iload 4] 77 = true := qck_r (nn_ _) (by decide +kernel)
theorem bs_X11_say_e_59 {P : Zt → Option Zv → Prop} (K : Int → Zl → List Zv → Zt → Prop) : sx_ K P [.iload 5, .aload 0, .tableswitch 0 11 12 #[], .if_icmp .ge 291, .iconst 9, .iload 5, .imul, .istore 6, .iload 4] 77 = x_iload 5 (x_aload 0 (x_g0 111 12 0 12 (x_if_icmp .ge 291 K (x_iconst 9 (x_iload 5 (x_imul (x_istore 6 (x_iload 4 (K 77))))))))) := ((xe_iload 5).trans (congrArg (x_iload 5) ((xe_aload 0).trans (congrArg (x_aload 0) ((xe_g0 (kk := 111) rfl tl_11_12).trans (congrArg (x_g0 111 12 0 12) ((xe_if_icmp .ge 291).trans (congrArg (x_if_icmp .ge 291 K) ((xe_iconst 9).trans (congrArg (x_iconst 9) ((xe_iload 5).trans (congrArg (x_iload 5) ((xe_imul).trans (congrArg (x_imul) ((xe_istore 6).trans (congrArg (x_istore 6) ((xe_iload 4).trans (congrArg (x_iload 4) xe_nil))))))))))))))))))
theorem bk_X11_say_e_291 : ck_ fX11 none cX11_say 291 [.return_] 292 = true := qck_r (nn_ _) (by decide +kernel)
theorem bs_X11_say_e_291 {P : Zt → Option Zv → Prop} (K : Int → Zl → List Zv → Zt → Prop) : sx_ K P [.return_] 292 = x_return_ P := (xe_return_)
theorem bk_X11_say_e_120 : ck_ fX11 none cX11_say 120 [.aload 0, .tableswitch 0 11 84 #[], .iconst 3, .iload 5, .imul, .aload 0, .tableswitch 0 11 76 #[], .iload 6, .iconst 6, .iadd, .iaload, .iastore, .goto 285] 142 = true := qck_r (nn_ _) (by decide +kernel)
theorem bs_X11_say_e_120 {P : Zt → Option Zv → Prop} (K : Int → Zl → List Zv → Zt → Prop) : sx_ K P [.aload 0, .tableswitch 0 11 84 #[], .iconst 3, .iload 5, .imul, .aload 0, .tableswitch 0 11 76 #[], .iload 6, .iconst 6, .iadd, .iaload, .iastore, .goto 285] 142 = x_aload 0 (x_g1 111 284 (x_iconst 3 (x_iload 5 (x_imul (x_aload 0 (x_g1 111 276 (x_iload 6 (x_iconst 6 (x_iadd (x_iaload (x_iastore (x_goto 285 K)))))))))))) := ((xe_aload 0).trans (congrArg (x_aload 0) ((xe_g1 (kk := 111) rfl tl_11_84).trans (congrArg (x_g1 111 284) ((xe_iconst 3).trans (congrArg (x_iconst 3) ((xe_iload 5).trans (congrArg (x_iload 5) ((xe_imul).trans (congrArg (x_imul) ((xe_aload 0).trans (congrArg (x_aload 0) ((xe_g1 (kk := 111) rfl tl_11_76).trans (congrArg (x_g1 111 276) ((xe_iload 6).trans (congrArg (x_iload 6) ((xe_iconst 6).trans (congrArg (x_iconst 6) ((xe_iadd).trans (congrArg (x_iadd) ((xe_iaload).trans (congrArg (x_iaload) ((xe_iastore).trans (congrArg (x_iastore) (xe_goto 285)))))))))))))))))))))))))
theorem bk_X11_say_e_142 : ck_ fX11 none cX11_say 142 [.aload 0, .tableswitch 0 11 84 #[], .iconst 3, .iload 5, .imul, .aload 0, .tableswitch 0 11 76 #[], .iload 6, .iconst 4, .iadd, .iaload, .aload 0, .tableswitch 0 11 76 #[], .iload 6, .iconst 5, .iadd, .iaload, .isub, .iastore, .goto 285] 173 = true := qck_r (nn_ _) (by decide +kernel)
theorem bs_X11_say_e_142 {P : Zt → Option Zv → Prop} (K : Int → Zl → List Zv → Zt → Prop) : sx_ K P [.aload 0, .tableswitch 0 11 84 #[], .iconst 3, .iload 5, .imul, .aload 0, .tableswitch 0 11 76 #[], .iload 6, .iconst 4, .iadd, .iaload, .aload 0, .tableswitch 0 11 76 #[], .iload 6, .iconst 5, .iadd, .iaload, .isub, .iastore, .goto 285] 173 = x_aload 0 (x_g1 111 284 (x_iconst 3 (x_iload 5 (x_imul (x_aload 0 (x_g1 111 276 (x_iload 6 (x_iconst 4 (x_iadd (x_iaload (x_aload 0 (x_g1 111 276 (x_iload 6 (x_iconst 5 (x_iadd (x_iaload (x_isub (x_iastore (x_goto 285 K))))))))))))))))))) := ((xe_aload 0).trans (congrArg (x_aload 0) ((xe_g1 (kk := 111) rfl tl_11_84).trans (congrArg (x_g1 111 284) ((xe_iconst 3).trans (congrArg (x_iconst 3) ((xe_iload 5).trans (congrArg (x_iload 5) ((xe_imul).trans (congrArg (x_imul) ((xe_aload 0).trans (congrArg (x_aload 0) ((xe_g1 (kk := 111) rfl tl_11_76).trans (congrArg (x_g1 111 276) ((xe_iload 6).trans (congrArg (x_iload 6) ((xe_iconst 4).trans (congrArg (x_iconst 4) ((xe_iadd).trans (congrArg (x_iadd) ((xe_iaload).trans (congrArg (x_iaload) ((xe_aload 0).trans (congrArg (x_aload 0) ((xe_g1 (kk := 111) rfl tl_11_76).trans (congrArg (x_g1 111 276) ((xe_iload 6).trans (congrArg (x_iload 6) ((xe_iconst 5).trans (congrArg (x_iconst 5) ((xe_iadd).trans (congrArg (x_iadd) ((xe_iaload).trans (congrArg (x_iaload) ((xe_isub).trans (congrArg (x_isub) ((xe_iastore).trans (congrArg (x_iastore) (xe_goto 285)))))))))))))))))))))))))))))))))))))))
theorem bk_X11_say_e_173 : ck_ fX11 none cX11_say 173 [.aload 0, .tableswitch 0 11 84 #[], .iconst 3, .iload 5, .imul, .aload 0, .tableswitch 0 11 76 #[], .iload 6, .iconst 4, .iadd, .iaload, .iastore, .goto 285] 194 = true := qck_r (nn_ _) (by decide +kernel)
theorem bs_X11_say_e_173 {P : Zt → Option Zv → Prop} (K : Int → Zl → List Zv → Zt → Prop) : sx_ K P [.aload 0, .tableswitch 0 11 84 #[], .iconst 3, .iload 5, .imul, .aload 0, .tableswitch 0 11 76 #[], .iload 6, .iconst 4, .iadd, .iaload, .iastore, .goto 285] 194 = x_aload 0 (x_g1 111 284 (x_iconst 3 (x_iload 5 (x_imul (x_aload 0 (x_g1 111 276 (x_iload 6 (x_iconst 4 (x_iadd (x_iaload (x_iastore (x_goto 285 K)))))))))))) := ((xe_aload 0).trans (congrArg (x_aload 0) ((xe_g1 (kk := 111) rfl tl_11_84).trans (congrArg (x_g1 111 284) ((xe_iconst 3).trans (congrArg (x_iconst 3) ((xe_iload 5).trans (congrArg (x_iload 5) ((xe_imul).trans (congrArg (x_imul) ((xe_aload 0).trans (congrArg (x_aload 0) ((xe_g1 (kk := 111) rfl tl_11_76).trans (congrArg (x_g1 111 276) ((xe_iload 6).trans (congrArg (x_iload 6) ((xe_iconst 4).trans (congrArg (x_iconst 4) ((xe_iadd).trans (congrArg (x_iadd) ((xe_iaload).trans (congrArg (x_iaload) ((xe_iastore).trans (congrArg (x_iastore) (xe_goto 285)))))))))))))))))))))))))
theorem bk_X11_say_e_194 : ck_ fX11 none cX11_say 194 [.aload 0, .tableswitch 0 11 84 #[], .iconst 3, .iload 5, .imul, .aload 0, .tableswitch 0 11 76 #[], .iload 6, .iconst 1, .iadd, .iaload, .iastore, .goto 285] 215 = true := qck_r (nn_ _) (by decide +kernel)
theorem bs_X11_say_e_194 {P : Zt → Option Zv → Prop} (K : Int → Zl → List Zv → Zt → Prop) : sx_ K P [.aload 0, .tableswitch 0 11 84 #[], .iconst 3, .iload 5, .imul, .aload 0, .tableswitch 0 11 76 #[], .iload 6, .iconst 1, .iadd, .iaload, .iastore, .goto 285] 215 = x_aload 0 (x_g1 111 284 (x_iconst 3 (x_iload 5 (x_imul (x_aload 0 (x_g1 111 276 (x_iload 6 (x_iconst 1 (x_iadd (x_iaload (x_iastore (x_goto 285 K)))))))))))) := ((xe_aload 0).trans (congrArg (x_aload 0) ((xe_g1 (kk := 111) rfl tl_11_84).trans (congrArg (x_g1 111 284) ((xe_iconst 3).trans (congrArg (x_iconst 3) ((xe_iload 5).trans (congrArg (x_iload 5) ((xe_imul).trans (congrArg (x_imul) ((xe_aload 0).trans (congrArg (x_aload 0) ((xe_g1 (kk := 111) rfl tl_11_76).trans (congrArg (x_g1 111 276) ((xe_iload 6).trans (congrArg (x_iload 6) ((xe_iconst 1).trans (congrArg (x_iconst 1) ((xe_iadd).trans (congrArg (x_iadd) ((xe_iaload).trans (congrArg (x_iaload) ((xe_iastore).trans (congrArg (x_iastore) (xe_goto 285)))))))))))))))))))))))))
theorem bk_X11_say_e_215 : ck_ fX11 none cX11_say 215 [.aload 0, .tableswitch 0 11 84 #[], .iconst 3, .iload 5, .imul, .aload 0, .tableswitch 0 11 76 #[], .iload 6, .iconst 7, .iadd, .iaload, .iastore, .goto 285] 237 = true := qck_r (nn_ _) (by decide +kernel)
theorem bs_X11_say_e_215 {P : Zt → Option Zv → Prop} (K : Int → Zl → List Zv → Zt → Prop) : sx_ K P [.aload 0, .tableswitch 0 11 84 #[], .iconst 3, .iload 5, .imul, .aload 0, .tableswitch 0 11 76 #[], .iload 6, .iconst 7, .iadd, .iaload, .iastore, .goto 285] 237 = x_aload 0 (x_g1 111 284 (x_iconst 3 (x_iload 5 (x_imul (x_aload 0 (x_g1 111 276 (x_iload 6 (x_iconst 7 (x_iadd (x_iaload (x_iastore (x_goto 285 K)))))))))))) := ((xe_aload 0).trans (congrArg (x_aload 0) ((xe_g1 (kk := 111) rfl tl_11_84).trans (congrArg (x_g1 111 284) ((xe_iconst 3).trans (congrArg (x_iconst 3) ((xe_iload 5).trans (congrArg (x_iload 5) ((xe_imul).trans (congrArg (x_imul) ((xe_aload 0).trans (congrArg (x_aload 0) ((xe_g1 (kk := 111) rfl tl_11_76).trans (congrArg (x_g1 111 276) ((xe_iload 6).trans (congrArg (x_iload 6) ((xe_iconst 7).trans (congrArg (x_iconst 7) ((xe_iadd).trans (congrArg (x_iadd) ((xe_iaload).trans (congrArg (x_iaload) ((xe_iastore).trans (congrArg (x_iastore) (xe_goto 285)))))))))))))))))))))))))
theorem bk_X11_say_e_260 : ck_ fX11 none cX11_say 260 [.aload 0, .tableswitch 0 11 84 #[], .iconst 3, .iload 5, .imul, .aload 0, .iload 1, .iconst 15] 272 = true := qck_r (nn_ _) (by decide +kernel)
theorem bs_X11_say_e_260 {P : Zt → Option Zv → Prop} (K : Int → Zl → List Zv → Zt → Prop) : sx_ K P [.aload 0, .tableswitch 0 11 84 #[], .iconst 3, .iload 5, .imul, .aload 0, .iload 1, .iconst 15] 272 = x_aload 0 (x_g1 111 284 (x_iconst 3 (x_iload 5 (x_imul (x_aload 0 (x_iload 1 (x_iconst 15 (K 272)))))))) := ((xe_aload 0).trans (congrArg (x_aload 0) ((xe_g1 (kk := 111) rfl tl_11_84).trans (congrArg (x_g1 111 284) ((xe_iconst 3).trans (congrArg (x_iconst 3) ((xe_iload 5).trans (congrArg (x_iload 5) ((xe_imul).trans (congrArg (x_imul) ((xe_aload 0).trans (congrArg (x_aload 0) ((xe_iload 1).trans (congrArg (x_iload 1) ((xe_iconst 15).trans (congrArg (x_iconst 15) xe_nil))))))))))))))))
theorem bk_X11_say_e_275 : ck_ fX11 none cX11_say 275 [.aload 0, .tableswitch 0 11 85 #[], .iload 5] 281 = true := qck_r (nn_ _) (by decide +kernel)
theorem bs_X11_say_e_275 {P : Zt → Option Zv → Prop} (K : Int → Zl → List Zv → Zt → Prop) : sx_ K P [.aload 0, .tableswitch 0 11 85 #[], .iload 5] 281 = x_aload 0 (x_g0 111 85 0 4095 (x_iload 5 (K 281))) := ((xe_aload 0).trans (congrArg (x_aload 0) ((xe_g0 (kk := 111) rfl tl_11_85).trans (congrArg (x_g0 111 85 0 4095) ((xe_iload 5).trans (congrArg (x_iload 5) xe_nil))))))
theorem bk_X11_say_e_284 : ck_ fX11 none cX11_say 284 [.iastore] 285 = true := qck_r (nn_ _) (by decide +kernel)
theorem bs_X11_say_e_284 {P : Zt → Option Zv → Prop} (K : Int → Zl → List Zv → Zt → Prop) : sx_ K P [.iastore] 285 = x_iastore (K 285) := ((xe_iastore).trans (congrArg (x_iastore) xe_nil))
theorem bk_X11_say_e_237 : ck_ fX11 none cX11_say 237 [.aload 0, .tableswitch 0 11 84 #[], .iconst 3, .iload 5, .imul, .aload 0, .tableswitch 0 11 76 #[], .iload 6, .iconst 8, .iadd, .iaload, .ineg, .iastore, .goto 285] 260 = true := qck_r (nn_ _) (by decide +kernel)
theorem bs_X11_say_e_237 {P : Zt → Option Zv → Prop} (K : Int → Zl → List Zv → Zt → Prop) : sx_ K P [.aload 0, .tableswitch 0 11 84 #[], .iconst 3, .iload 5, .imul, .aload 0, .tableswitch 0 11 76 #[], .iload 6, .iconst 8, .iadd, .iaload, .ineg, .iastore, .goto 285] 260 = x_aload 0 (x_g1 111 284 (x_iconst 3 (x_iload 5 (x_imul (x_aload 0 (x_g1 111 276 (x_iload 6 (x_iconst 8 (x_iadd (x_iaload (x_ineg (x_iastore (x_goto 285 K))))))))))))) := ((xe_aload 0).trans (congrArg (x_aload 0) ((xe_g1 (kk := 111) rfl tl_11_84).trans (congrArg (x_g1 111 284) ((xe_iconst 3).trans (congrArg (x_iconst 3) ((xe_iload 5).trans (congrArg (x_iload 5) ((xe_imul).trans (congrArg (x_imul) ((xe_aload 0).trans (congrArg (x_aload 0) ((xe_g1 (kk := 111) rfl tl_11_76).trans (congrArg (x_g1 111 276) ((xe_iload 6).trans (congrArg (x_iload 6) ((xe_iconst 8).trans (congrArg (x_iconst 8) ((xe_iadd).trans (congrArg (x_iadd) ((xe_iaload).trans (congrArg (x_iaload) ((xe_ineg).trans (congrArg (x_ineg) ((xe_iastore).trans (congrArg (x_iastore) (xe_goto 285)))))))))))))))))))))))))))
theorem bk_X11_say_e_22 : ck_ fX11 none cX11_say 22 [.iload 5, .iconst 36, .if_icmp .ge 43, .aload 0, .tableswitch 0 11 84 #[], .iload 5, .iconst 0, .iastore, .iinc 5 1, .goto 22] 43 = true := qck_r (nn_ _) (by decide +kernel)
theorem bs_X11_say_e_22 {P : Zt → Option Zv → Prop} (K : Int → Zl → List Zv → Zt → Prop) : sx_ K P [.iload 5, .iconst 36, .if_icmp .ge 43, .aload 0, .tableswitch 0 11 84 #[], .iload 5, .iconst 0, .iastore, .iinc 5 1, .goto 22] 43 = x_iload 5 (x_iconst 36 (x_if_icmp .ge 43 K (x_aload 0 (x_g1 111 284 (x_iload 5 (x_iconst 0 (x_iastore (x_iinc 5 1 (x_goto 22 K))))))))) := ((xe_iload 5).trans (congrArg (x_iload 5) ((xe_iconst 36).trans (congrArg (x_iconst 36) ((xe_if_icmp .ge 43).trans (congrArg (x_if_icmp .ge 43 K) ((xe_aload 0).trans (congrArg (x_aload 0) ((xe_g1 (kk := 111) rfl tl_11_84).trans (congrArg (x_g1 111 284) ((xe_iload 5).trans (congrArg (x_iload 5) ((xe_iconst 0).trans (congrArg (x_iconst 0) ((xe_iastore).trans (congrArg (x_iastore) ((xe_iinc 5 1).trans (congrArg (x_iinc 5 1) (xe_goto 22)))))))))))))))))))
theorem bk_X11_say_e_43 : ck_ fX11 none cX11_say 43 [.iload 4, .iconst 4, .if_icmp .ne 56, .aload 0, .iload 1, .iload 2] 52 = true := qck_r (nn_ _) (by decide +kernel)
theorem bs_X11_say_e_43 {P : Zt → Option Zv → Prop} (K : Int → Zl → List Zv → Zt → Prop) : sx_ K P [.iload 4, .iconst 4, .if_icmp .ne 56, .aload 0, .iload 1, .iload 2] 52 = x_iload 4 (x_iconst 4 (x_if_icmp .ne 56 K (x_aload 0 (x_iload 1 (x_iload 2 (K 52)))))) := ((xe_iload 4).trans (congrArg (x_iload 4) ((xe_iconst 4).trans (congrArg (x_iconst 4) ((xe_if_icmp .ne 56).trans (congrArg (x_if_icmp .ne 56 K) ((xe_aload 0).trans (congrArg (x_aload 0) ((xe_iload 1).trans (congrArg (x_iload 1) ((xe_iload 2).trans (congrArg (x_iload 2) xe_nil))))))))))))
theorem bk_X11_say_e_56 : ck_ fX11 none cX11_say 56 [.iconst 0, .istore 5] 59 = true := qck_r (nn_ _) (by decide +kernel)
theorem bs_X11_say_e_56 {P : Zt → Option Zv → Prop} (K : Int → Zl → List Zv → Zt → Prop) : sx_ K P [.iconst 0, .istore 5] 59 = x_iconst 0 (x_istore 5 (K 59)) := ((xe_iconst 0).trans (congrArg (x_iconst 0) ((xe_istore 5).trans (congrArg (x_istore 5) xe_nil))))
theorem bk_X11_say_e_55 : ck_ fX11 none cX11_say 55 [.return_] 56 = true := qck_r (nn_ _) (by decide +kernel)
theorem bs_X11_say_e_55 {P : Zt → Option Zv → Prop} (K : Int → Zl → List Zv → Zt → Prop) : sx_ K P [.return_] 56 = x_return_ P := (xe_return_)
theorem bk_X11_say_e_17 : ck_ fX11 none cX11_say 17 [.istore 4, .iconst 0, .istore 5] 22 = true := qck_r (nn_ _) (by decide +kernel)
theorem bs_X11_say_e_17 {P : Zt → Option Zv → Prop} (K : Int → Zl → List Zv → Zt → Prop) : sx_ K P [.istore 4, .iconst 0, .istore 5] 22 = x_istore 4 (x_iconst 0 (x_istore 5 (K 22))) := ((xe_istore 4).trans (congrArg (x_istore 4) ((xe_iconst 0).trans (congrArg (x_iconst 0) ((xe_istore 5).trans (congrArg (x_istore 5) xe_nil))))))
theorem bk_X11_say_e_0 : ck_ fX11 none cX11_say 0 [.iload 3, .ifCond .ne 8, .iconst (-1), .goto 17] 8 = true := qck_r (nn_ _) (by decide +kernel)
theorem bs_X11_say_e_0 {P : Zt → Option Zv → Prop} (K : Int → Zl → List Zv → Zt → Prop) : sx_ K P [.iload 3, .ifCond .ne 8, .iconst (-1), .goto 17] 8 = x_iload 3 (x_ifCond .ne 8 K (x_iconst (-1) (x_goto 17 K))) := ((xe_iload 3).trans (congrArg (x_iload 3) ((xe_ifCond .ne 8).trans (congrArg (x_ifCond .ne 8 K) ((xe_iconst (-1)).trans (congrArg (x_iconst (-1)) (xe_goto 17)))))))
theorem bk_X11_say_e_8 : ck_ fX11 none cX11_say 8 [.aload 0, .iload 1, .iconst 15, .iload 3, .iadd] 14 = true := qck_r (nn_ _) (by decide +kernel)
theorem bs_X11_say_e_8 {P : Zt → Option Zv → Prop} (K : Int → Zl → List Zv → Zt → Prop) : sx_ K P [.aload 0, .iload 1, .iconst 15, .iload 3, .iadd] 14 = x_aload 0 (x_iload 1 (x_iconst 15 (x_iload 3 (x_iadd (K 14))))) := ((xe_aload 0).trans (congrArg (x_aload 0) ((xe_iload 1).trans (congrArg (x_iload 1) ((xe_iconst 15).trans (congrArg (x_iconst 15) ((xe_iload 3).trans (congrArg (x_iload 3) ((xe_iadd).trans (congrArg (x_iadd) xe_nil))))))))))
abbrev po_X11_say_e (T : Zt) (c d k : Int) : Zt → Option Zv → Prop := fun T' r => r = none ∧ fr_ [(284, []), (111, [82, 83])] T T' ∧ (SB_ T' ∧ SD_ T T' c d k)
set_option maxHeartbeats 4000000 in
theorem ct_X11_say_e {T : Zt} {c d k : Int} (h1 : 0 ≤ c ∧ c < 4) (hml : ML_ T) (hsc : SC_ T) (hk : 0 ≤ k ∧ k ≤ 7) (htb : TB_ T 150000000) : Ct_ yX11_say zX11_say T [vR 111 0, vI c, vI d, vI k] (po_X11_say_e T c d k) := by
  refine ct_of pn_11 rfl rfl (Nat.le_of_ble_eq_true rfl) (fun hT hav => ?_)
  have hr_c : -2147483648 ≤ c ∧ c ≤ 2147483647 := hav (vI c) (List.mem_cons_of_mem _ List.mem_cons_self)
  have hr_d : -2147483648 ≤ d ∧ d ≤ 2147483647 := hav (vI d) (List.mem_cons_of_mem _ (List.mem_cons_of_mem _ List.mem_cons_self))
  have hr_k : -2147483648 ≤ k ∧ k ≤ 2147483647 := hav (vI k) (List.mem_cons_of_mem _ (List.mem_cons_of_mem _ (List.mem_cons_of_mem _ List.mem_cons_self)))
  have hz : zX11_say.2.2.2.1 = some .boolean → ∀ (T' : Zt) (x : Int), po_X11_say_e T c d k T' (some (vI x)) → 0 ≤ x ∧ x ≤ 1 := fun h => by cases h
  have hb_12 : 0 ≤ T 111 0 12 ∧ T 111 0 12 ≤ 12 := bd_f hT 111 12 tl_11_12 0
  show J_ zX11_say T (po_X11_say_e T c d k) 0 0 0 [some (vR 111 0), some (vI c), some (vI d), some (vI k), none, none, none] [] T
  have c_17 : ∀ (v : Int), (v = kv9_ (fun w => T 205 0 (23 * c + w)) k) → J_ zX11_say T (po_X11_say_e T c d k) 0 0 17 [some (vR 111 0), some (vI c), some (vI d), some (vI k), none, none, none] [vI v] T := by
    intro v v0
    have c_59 : ∀ (nn : Nat) (i : Int) (T2 : Zt), ((12 - i).toNat) ≤ nn → (fr_ [(284, [])] T T2) → (((-1 ≤ v ∧ v ≤ 5) → SA_ T2 300000000) ∧ (¬ (-1 ≤ v ∧ v ≤ 5) → SN_ T2)) → (0 ≤ i ∧ v ≠ 4) → ((∀ x, 0 ≤ x → x < i → T2 284 0 (3 * x) = sv9_ v (fun x w => T 276 0 (9 * x + w)) (T 205 0 (23 * c + 15)) (T 111 0 85) x) ∧ ∀ j, 0 ≤ j → j < 36 → j % 3 ≠ 0 → T2 284 0 j = 0) → J_ zX11_say T (po_X11_say_e T c d k) 0 0 59 [some (vR 111 0), some (vI c), some (vI d), some (vI k), some (vI v), some (vI i), none] [] T2 := by
      intro nn
      induction nn using Nat.strongRecOn with
      | _ nn ih_59 =>
        intro i T2 hm_59 hf_59 w2 i2 s2
        replace hm_59 := fun (_ : Unit) => hm_59
        have c_285 : ∀ (T3 : Zt), (fr_ [(284, [])] T T3) → (((-1 ≤ v ∧ v ≤ 5) → SA_ T3 300000000) ∧ (¬ (-1 ≤ v ∧ v ≤ 5) → SN_ T3)) → (i < 12) → ((∀ x, 0 ≤ x → x < i + 1 → T3 284 0 (3 * x) = sv9_ v (fun x w => T 276 0 (9 * x + w)) (T 205 0 (23 * c + 15)) (T 111 0 85) x) ∧ ∀ j, 0 ≤ j → j < 36 → j % 3 ≠ 0 → T3 284 0 j = 0) → J_ zX11_say T (po_X11_say_e T c d k) 0 0 285 [some (vR 111 0), some (vI c), some (vI d), some (vI k), some (vI v), some (vI i), none] [] T3 := by
          intro T3 hf_285 w3 i3 s3
          refine j_blx (F := fX11) tb_X11 (nn_ _) bk_X11_say_e_285 bs_X11_say_e_285 hz (fun K hK => ?_)
          refine rg_i (by omega) ?_
          refine hK 59 [some (vR 111 0), some (vI c), some (vI d), some (vI k), some (vI v), some (vI (i + 1)), none] [] T3 ?_
          refine ih_59 _ ?_ (i + 1) T3 (Nat.le_refl _) ?_ ?_ ?_ ?_
          · have hm_59 := hm_59 (); omega
          · exact fr_t (fr_0 _ _) (fr_s hf_285 rfl)
          · exact w3
          · omega
          · exact s3
        refine j_blx (F := fX11) tb_X11 (nn_ _) bk_X11_say_e_59 bs_X11_say_e_59 hz (fun K hK => ?_)
        intro b1 b1b
        have e2 : T2 111 0 12 = T 111 0 12 := hf_59 111 0 12 rfl
        rw [e2] at b1 b1b ⊢
        refine And.intro (fun c3 => ?_) (fun c3 => ?_)
        · refine hK 291 _ [] T2 ?_
          refine j_blx (F := fX11) tb_X11 (nn_ _) bk_X11_say_e_291 bs_X11_say_e_291 hz (fun K hK => ?_)
          refine (show po_X11_say_e T c d k T2 (none) from ?_)
          refine ⟨rfl, fr_t (fr_0 _ _) (fr_s hf_59 rfl), ?_, fun _ x a b => ?_, fun z => absurd z (by omega)⟩
          · by_cases z : (-1 ≤ v ∧ v ≤ 5)
            · exact sb_a (w2.1 z) (by decide)
            · exact sb_n (w2.2 z)
          · rw [← v0]
            exact ⟨s2.1 x a (by omega), s2.2 _ (by omega) (by omega) (by omega), s2.2 _ (by omega) (by omega) (by omega)⟩
        · have t1 := htb (9 * i + 1) (by omega) (by omega)
          have t4 := htb (9 * i + 4) (by omega) (by omega)
          have t5 := htb (9 * i + 5) (by omega) (by omega)
          have t6 := htb (9 * i + 6) (by omega) (by omega)
          have t7 := htb (9 * i + 7) (by omega) (by omega)
          have t8 := htb (9 * i + 8) (by omega) (by omega)
          refine rg_i (by omega) ?_
          refine hK 77 [some (vR 111 0), some (vI c), some (vI d), some (vI k), some (vI v), some (vI i), some (vI (9 * i))] [vI v] T2 ?_
          by_cases z4_0 : v = (-1)
          · refine j_tsI (pc := 77) 0 (off := 43) (tgt := 120) (by decide) ds_X11_say_77 (by omega) (by decide) rfl (by decide) (by decide) ?_
            refine j_blx (F := fX11) tb_X11 (nn_ _) bk_X11_say_e_120 bs_X11_say_e_120 hz (fun K hK => ?_)
            refine rg_i (by omega) ?_
            refine rg_i (by omega) ?_
            refine ix_i (by omega) ?_
            intro b5 b5b
            have e6 : T2 276 0 ((9 * i) + 6) = T 276 0 ((9 * i) + 6) := hf_59 276 0 ((9 * i) + 6) rfl
            rw [e6] at b5 b5b ⊢
            refine iy_i (by omega) (by omega) ?_
            refine x_nm (fun U7 hU7 => ?_)
            have e8 := up_f hU7
            refine hK 285 _ [] U7 ?_
            refine j_drop [some (vR 111 0), some (vI c), some (vI d), some (vI k), some (vI v), some (vI i), none] (fun k v hk => ?_) rfl ?_
            · match k, hk with
              | 0, hk => exact hk
              | 1, hk => exact hk
              | 2, hk => exact hk
              | 3, hk => exact hk
              | 4, hk => exact hk
              | 5, hk => exact hk
              | 6, hk => cases hk
              | k + 7, hk => cases hk
            refine c_285 U7 ?_ ?_ ?_ ?_
            · exact fr_u (fr_t (fr_0 _ _) (fr_s hf_59 rfl)) hU7 rfl
            · exact ⟨fun z => sa_v (w2.1 z) hU7 (by omega), fun z => sn_v (w2.2 z) hU7 (by omega)⟩
            · omega
            · refine ⟨fun x a b => ?_, fun j a b c9 => ?_⟩
              · by_cases z : x = i
                · rw [z, up_f hU7]
                  first
                  | exact ((sv_v (kv := v) (L := fun x w => T 276 0 (9 * x + w)) (sd := T 205 0 (23 * c + 15)) (g := T 111 0 85) (x := i)).1 (by omega)).symm
                  | exact ((sv_v (kv := v) (L := fun x w => T 276 0 (9 * x + w)) (sd := T 205 0 (23 * c + 15)) (g := T 111 0 85) (x := i)).2.1 (by omega)).symm
                  | exact ((sv_v (kv := v) (L := fun x w => T 276 0 (9 * x + w)) (sd := T 205 0 (23 * c + 15)) (g := T 111 0 85) (x := i)).2.2.1 (by omega)).symm
                  | exact ((sv_v (kv := v) (L := fun x w => T 276 0 (9 * x + w)) (sd := T 205 0 (23 * c + 15)) (g := T 111 0 85) (x := i)).2.2.2.1 (by omega)).symm
                  | exact ((sv_v (kv := v) (L := fun x w => T 276 0 (9 * x + w)) (sd := T 205 0 (23 * c + 15)) (g := T 111 0 85) (x := i)).2.2.2.2.1 (by omega)).symm
                  | exact ((sv_v (kv := v) (L := fun x w => T 276 0 (9 * x + w)) (sd := T 205 0 (23 * c + 15)) (g := T 111 0 85) (x := i)).2.2.2.2.2.1 (by omega)).symm
                · rw [up_g hU7 (fun y => z (by omega))]; exact s2.1 x a (by omega)
              · rw [up_g hU7 (fun y => by omega)]; exact s2.2 j a b c9
          by_cases z4_1 : v = 0
          · refine j_tsI (pc := 77) 1 (off := 65) (tgt := 142) (by decide) ds_X11_say_77 (by omega) (by decide) rfl (by decide) (by decide) ?_
            refine j_blx (F := fX11) tb_X11 (nn_ _) bk_X11_say_e_142 bs_X11_say_e_142 hz (fun K hK => ?_)
            refine rg_i (by omega) ?_
            refine rg_i (by omega) ?_
            refine ix_i (by omega) ?_
            intro b9 b9b
            have e10 : T2 276 0 ((9 * i) + 4) = T 276 0 ((9 * i) + 4) := hf_59 276 0 ((9 * i) + 4) rfl
            rw [e10] at b9 b9b ⊢
            refine rg_i (by omega) ?_
            refine ix_i (by omega) ?_
            intro b11 b11b
            have e12 : T2 276 0 ((9 * i) + 5) = T 276 0 ((9 * i) + 5) := hf_59 276 0 ((9 * i) + 5) rfl
            rw [e12] at b11 b11b ⊢
            refine rg_i (by omega) ?_
            refine iy_i (by omega) (by omega) ?_
            refine x_nm (fun U13 hU13 => ?_)
            have e14 := up_f hU13
            refine hK 285 _ [] U13 ?_
            refine j_drop [some (vR 111 0), some (vI c), some (vI d), some (vI k), some (vI v), some (vI i), none] (fun k v hk => ?_) rfl ?_
            · match k, hk with
              | 0, hk => exact hk
              | 1, hk => exact hk
              | 2, hk => exact hk
              | 3, hk => exact hk
              | 4, hk => exact hk
              | 5, hk => exact hk
              | 6, hk => cases hk
              | k + 7, hk => cases hk
            refine c_285 U13 ?_ ?_ ?_ ?_
            · exact fr_u (fr_t (fr_0 _ _) (fr_s hf_59 rfl)) hU13 rfl
            · exact ⟨fun z => sa_v (w2.1 z) hU13 (by omega), fun z => sn_v (w2.2 z) hU13 (by omega)⟩
            · omega
            · refine ⟨fun x a b => ?_, fun j a b c9 => ?_⟩
              · by_cases z : x = i
                · rw [z, up_f hU13]
                  first
                  | exact ((sv_v (kv := v) (L := fun x w => T 276 0 (9 * x + w)) (sd := T 205 0 (23 * c + 15)) (g := T 111 0 85) (x := i)).1 (by omega)).symm
                  | exact ((sv_v (kv := v) (L := fun x w => T 276 0 (9 * x + w)) (sd := T 205 0 (23 * c + 15)) (g := T 111 0 85) (x := i)).2.1 (by omega)).symm
                  | exact ((sv_v (kv := v) (L := fun x w => T 276 0 (9 * x + w)) (sd := T 205 0 (23 * c + 15)) (g := T 111 0 85) (x := i)).2.2.1 (by omega)).symm
                  | exact ((sv_v (kv := v) (L := fun x w => T 276 0 (9 * x + w)) (sd := T 205 0 (23 * c + 15)) (g := T 111 0 85) (x := i)).2.2.2.1 (by omega)).symm
                  | exact ((sv_v (kv := v) (L := fun x w => T 276 0 (9 * x + w)) (sd := T 205 0 (23 * c + 15)) (g := T 111 0 85) (x := i)).2.2.2.2.1 (by omega)).symm
                  | exact ((sv_v (kv := v) (L := fun x w => T 276 0 (9 * x + w)) (sd := T 205 0 (23 * c + 15)) (g := T 111 0 85) (x := i)).2.2.2.2.2.1 (by omega)).symm
                · rw [up_g hU13 (fun y => z (by omega))]; exact s2.1 x a (by omega)
              · rw [up_g hU13 (fun y => by omega)]; exact s2.2 j a b c9
          by_cases z4_2 : v = 1
          · refine j_tsI (pc := 77) 2 (off := 96) (tgt := 173) (by decide) ds_X11_say_77 (by omega) (by decide) rfl (by decide) (by decide) ?_
            refine j_blx (F := fX11) tb_X11 (nn_ _) bk_X11_say_e_173 bs_X11_say_e_173 hz (fun K hK => ?_)
            refine rg_i (by omega) ?_
            refine rg_i (by omega) ?_
            refine ix_i (by omega) ?_
            intro b15 b15b
            have e16 : T2 276 0 ((9 * i) + 4) = T 276 0 ((9 * i) + 4) := hf_59 276 0 ((9 * i) + 4) rfl
            rw [e16] at b15 b15b ⊢
            refine iy_i (by omega) (by omega) ?_
            refine x_nm (fun U17 hU17 => ?_)
            have e18 := up_f hU17
            refine hK 285 _ [] U17 ?_
            refine j_drop [some (vR 111 0), some (vI c), some (vI d), some (vI k), some (vI v), some (vI i), none] (fun k v hk => ?_) rfl ?_
            · match k, hk with
              | 0, hk => exact hk
              | 1, hk => exact hk
              | 2, hk => exact hk
              | 3, hk => exact hk
              | 4, hk => exact hk
              | 5, hk => exact hk
              | 6, hk => cases hk
              | k + 7, hk => cases hk
            refine c_285 U17 ?_ ?_ ?_ ?_
            · exact fr_u (fr_t (fr_0 _ _) (fr_s hf_59 rfl)) hU17 rfl
            · exact ⟨fun z => sa_v (w2.1 z) hU17 (by omega), fun z => sn_v (w2.2 z) hU17 (by omega)⟩
            · omega
            · refine ⟨fun x a b => ?_, fun j a b c9 => ?_⟩
              · by_cases z : x = i
                · rw [z, up_f hU17]
                  first
                  | exact ((sv_v (kv := v) (L := fun x w => T 276 0 (9 * x + w)) (sd := T 205 0 (23 * c + 15)) (g := T 111 0 85) (x := i)).1 (by omega)).symm
                  | exact ((sv_v (kv := v) (L := fun x w => T 276 0 (9 * x + w)) (sd := T 205 0 (23 * c + 15)) (g := T 111 0 85) (x := i)).2.1 (by omega)).symm
                  | exact ((sv_v (kv := v) (L := fun x w => T 276 0 (9 * x + w)) (sd := T 205 0 (23 * c + 15)) (g := T 111 0 85) (x := i)).2.2.1 (by omega)).symm
                  | exact ((sv_v (kv := v) (L := fun x w => T 276 0 (9 * x + w)) (sd := T 205 0 (23 * c + 15)) (g := T 111 0 85) (x := i)).2.2.2.1 (by omega)).symm
                  | exact ((sv_v (kv := v) (L := fun x w => T 276 0 (9 * x + w)) (sd := T 205 0 (23 * c + 15)) (g := T 111 0 85) (x := i)).2.2.2.2.1 (by omega)).symm
                  | exact ((sv_v (kv := v) (L := fun x w => T 276 0 (9 * x + w)) (sd := T 205 0 (23 * c + 15)) (g := T 111 0 85) (x := i)).2.2.2.2.2.1 (by omega)).symm
                · rw [up_g hU17 (fun y => z (by omega))]; exact s2.1 x a (by omega)
              · rw [up_g hU17 (fun y => by omega)]; exact s2.2 j a b c9
          by_cases z4_3 : v = 2
          · refine j_tsI (pc := 77) 3 (off := 117) (tgt := 194) (by decide) ds_X11_say_77 (by omega) (by decide) rfl (by decide) (by decide) ?_
            refine j_blx (F := fX11) tb_X11 (nn_ _) bk_X11_say_e_194 bs_X11_say_e_194 hz (fun K hK => ?_)
            refine rg_i (by omega) ?_
            refine rg_i (by omega) ?_
            refine ix_i (by omega) ?_
            intro b19 b19b
            have e20 : T2 276 0 ((9 * i) + 1) = T 276 0 ((9 * i) + 1) := hf_59 276 0 ((9 * i) + 1) rfl
            rw [e20] at b19 b19b ⊢
            refine iy_i (by omega) (by omega) ?_
            refine x_nm (fun U21 hU21 => ?_)
            have e22 := up_f hU21
            refine hK 285 _ [] U21 ?_
            refine j_drop [some (vR 111 0), some (vI c), some (vI d), some (vI k), some (vI v), some (vI i), none] (fun k v hk => ?_) rfl ?_
            · match k, hk with
              | 0, hk => exact hk
              | 1, hk => exact hk
              | 2, hk => exact hk
              | 3, hk => exact hk
              | 4, hk => exact hk
              | 5, hk => exact hk
              | 6, hk => cases hk
              | k + 7, hk => cases hk
            refine c_285 U21 ?_ ?_ ?_ ?_
            · exact fr_u (fr_t (fr_0 _ _) (fr_s hf_59 rfl)) hU21 rfl
            · exact ⟨fun z => sa_v (w2.1 z) hU21 (by omega), fun z => sn_v (w2.2 z) hU21 (by omega)⟩
            · omega
            · refine ⟨fun x a b => ?_, fun j a b c9 => ?_⟩
              · by_cases z : x = i
                · rw [z, up_f hU21]
                  first
                  | exact ((sv_v (kv := v) (L := fun x w => T 276 0 (9 * x + w)) (sd := T 205 0 (23 * c + 15)) (g := T 111 0 85) (x := i)).1 (by omega)).symm
                  | exact ((sv_v (kv := v) (L := fun x w => T 276 0 (9 * x + w)) (sd := T 205 0 (23 * c + 15)) (g := T 111 0 85) (x := i)).2.1 (by omega)).symm
                  | exact ((sv_v (kv := v) (L := fun x w => T 276 0 (9 * x + w)) (sd := T 205 0 (23 * c + 15)) (g := T 111 0 85) (x := i)).2.2.1 (by omega)).symm
                  | exact ((sv_v (kv := v) (L := fun x w => T 276 0 (9 * x + w)) (sd := T 205 0 (23 * c + 15)) (g := T 111 0 85) (x := i)).2.2.2.1 (by omega)).symm
                  | exact ((sv_v (kv := v) (L := fun x w => T 276 0 (9 * x + w)) (sd := T 205 0 (23 * c + 15)) (g := T 111 0 85) (x := i)).2.2.2.2.1 (by omega)).symm
                  | exact ((sv_v (kv := v) (L := fun x w => T 276 0 (9 * x + w)) (sd := T 205 0 (23 * c + 15)) (g := T 111 0 85) (x := i)).2.2.2.2.2.1 (by omega)).symm
                · rw [up_g hU21 (fun y => z (by omega))]; exact s2.1 x a (by omega)
              · rw [up_g hU21 (fun y => by omega)]; exact s2.2 j a b c9
          by_cases z4_4 : v = 3
          · refine j_tsI (pc := 77) 4 (off := 138) (tgt := 215) (by decide) ds_X11_say_77 (by omega) (by decide) rfl (by decide) (by decide) ?_
            refine j_blx (F := fX11) tb_X11 (nn_ _) bk_X11_say_e_215 bs_X11_say_e_215 hz (fun K hK => ?_)
            refine rg_i (by omega) ?_
            refine rg_i (by omega) ?_
            refine ix_i (by omega) ?_
            intro b23 b23b
            have e24 : T2 276 0 ((9 * i) + 7) = T 276 0 ((9 * i) + 7) := hf_59 276 0 ((9 * i) + 7) rfl
            rw [e24] at b23 b23b ⊢
            refine iy_i (by omega) (by omega) ?_
            refine x_nm (fun U25 hU25 => ?_)
            have e26 := up_f hU25
            refine hK 285 _ [] U25 ?_
            refine j_drop [some (vR 111 0), some (vI c), some (vI d), some (vI k), some (vI v), some (vI i), none] (fun k v hk => ?_) rfl ?_
            · match k, hk with
              | 0, hk => exact hk
              | 1, hk => exact hk
              | 2, hk => exact hk
              | 3, hk => exact hk
              | 4, hk => exact hk
              | 5, hk => exact hk
              | 6, hk => cases hk
              | k + 7, hk => cases hk
            refine c_285 U25 ?_ ?_ ?_ ?_
            · exact fr_u (fr_t (fr_0 _ _) (fr_s hf_59 rfl)) hU25 rfl
            · exact ⟨fun z => sa_v (w2.1 z) hU25 (by omega), fun z => sn_v (w2.2 z) hU25 (by omega)⟩
            · omega
            · refine ⟨fun x a b => ?_, fun j a b c9 => ?_⟩
              · by_cases z : x = i
                · rw [z, up_f hU25]
                  first
                  | exact ((sv_v (kv := v) (L := fun x w => T 276 0 (9 * x + w)) (sd := T 205 0 (23 * c + 15)) (g := T 111 0 85) (x := i)).1 (by omega)).symm
                  | exact ((sv_v (kv := v) (L := fun x w => T 276 0 (9 * x + w)) (sd := T 205 0 (23 * c + 15)) (g := T 111 0 85) (x := i)).2.1 (by omega)).symm
                  | exact ((sv_v (kv := v) (L := fun x w => T 276 0 (9 * x + w)) (sd := T 205 0 (23 * c + 15)) (g := T 111 0 85) (x := i)).2.2.1 (by omega)).symm
                  | exact ((sv_v (kv := v) (L := fun x w => T 276 0 (9 * x + w)) (sd := T 205 0 (23 * c + 15)) (g := T 111 0 85) (x := i)).2.2.2.1 (by omega)).symm
                  | exact ((sv_v (kv := v) (L := fun x w => T 276 0 (9 * x + w)) (sd := T 205 0 (23 * c + 15)) (g := T 111 0 85) (x := i)).2.2.2.2.1 (by omega)).symm
                  | exact ((sv_v (kv := v) (L := fun x w => T 276 0 (9 * x + w)) (sd := T 205 0 (23 * c + 15)) (g := T 111 0 85) (x := i)).2.2.2.2.2.1 (by omega)).symm
                · rw [up_g hU25 (fun y => z (by omega))]; exact s2.1 x a (by omega)
              · rw [up_g hU25 (fun y => by omega)]; exact s2.2 j a b c9
          by_cases z4_5 : v = 4
          · refine j_tsI (pc := 77) 5 (off := 183) (tgt := 260) (by decide) ds_X11_say_77 (by omega) (by decide) rfl (by decide) (by decide) ?_
            refine j_blx (F := fX11) tb_X11 (nn_ _) bk_X11_say_e_260 bs_X11_say_e_260 hz (fun K hK => ?_)
            refine rg_i (by omega) ?_
            refine hK 272 _ [vI 15, vI c, vR 111 0, vI (3 * i), vR 284 0] T2 ?_
            refine j_callV (y := yX11_rule0) (Yc := zX11_rule0) (rest := [vI (3 * i), vR 284 0]) [vI c, vI 15] (ct_X11_rule0 (T := T2) (by omega) (by omega)) cl_X11_321 (qd_c (by decide +kernel)) (nn_ _) rfl (rf_of rfl) (Nat.le_of_ble_eq_true rfl) (Nat.le_of_ble_eq_true rfl) (Nat.le_of_ble_eq_true rfl) rfl ?_
            rintro _ _ ⟨rfl, rfl⟩
            have e27 : T2 205 0 (23 * c + 15) = T 205 0 (23 * c + 15) := hf_59 205 0 (23 * c + 15) rfl
            show J_ zX11_say T (po_X11_say_e T c d k) 0 0 275 _ [vI (T2 205 0 (23 * c + 15)), vI (3 * i), vR 284 0] T2
            refine j_blx (F := fX11) tb_X11 (nn_ _) bk_X11_say_e_275 bs_X11_say_e_275 hz (fun K hK => ?_)
            intro b28 b28b
            have e29 : T2 111 0 85 = T 111 0 85 := hf_59 111 0 85 rfl
            rw [e29] at b28 b28b ⊢
            refine hK 281 _ [vI i, vI (T 111 0 85), vI (T2 205 0 (23 * c + 15)), vI (3 * i), vR 284 0] T2 ?_
            refine j_callS (y := yX11_lot) (Yc := zX11_lot) (rest := [vI (3 * i), vR 284 0]) [vI (T2 205 0 (23 * c + 15)), vI (T 111 0 85), vI i] (ct_X11_lot_e (T := T2)) cl_X11_505 (qd_c (by decide +kernel)) (nn_ _) rfl (rf_of rfl) (Nat.le_of_ble_eq_true rfl) (Nat.le_of_ble_eq_true rfl) (Nat.le_of_ble_eq_true rfl) rfl ?_
            rintro _ _ ⟨rfl, x30, rfl, hx30⟩
            show J_ zX11_say T (po_X11_say_e T c d k) 0 0 284 _ [vI x30, vI (3 * i), vR 284 0] T2
            refine j_blx (F := fX11) tb_X11 (nn_ _) bk_X11_say_e_284 bs_X11_say_e_284 hz (fun K hK => ?_)
            refine iy_i (by omega) (by omega) ?_
            refine x_nm (fun U31 hU31 => ?_)
            have e32 := up_f hU31
            refine hK 285 _ [] U31 ?_
            refine j_drop [some (vR 111 0), some (vI c), some (vI d), some (vI k), some (vI v), some (vI i), none] (fun k v hk => ?_) rfl ?_
            · match k, hk with
              | 0, hk => exact hk
              | 1, hk => exact hk
              | 2, hk => exact hk
              | 3, hk => exact hk
              | 4, hk => exact hk
              | 5, hk => exact hk
              | 6, hk => cases hk
              | k + 7, hk => cases hk
            refine c_285 U31 ?_ ?_ ?_ ?_
            · exact fr_u (fr_t (fr_0 _ _) (fr_s hf_59 rfl)) hU31 rfl
            · exact ⟨fun z => sa_v (w2.1 z) hU31 (by omega), fun z => sn_v (w2.2 z) hU31 (by omega)⟩
            · omega
            · refine ⟨fun x a b => ?_, fun j a b c9 => ?_⟩
              · by_cases z : x = i
                · rw [z, up_f hU31]
                  first
                  | exact hx30.2.trans ((congrArg (fun z => lo9_ z (T 111 0 85) i) (hf_59 205 0 (23 * c + 15) rfl)).trans ((sv_v (kv := v) (L := fun x w => T 276 0 (9 * x + w)) (sd := T 205 0 (23 * c + 15)) (g := T 111 0 85) (x := i)).2.2.2.2.2.2 (by omega) (by omega)).symm)
                · rw [up_g hU31 (fun y => z (by omega))]; exact s2.1 x a (by omega)
              · rw [up_g hU31 (fun y => by omega)]; exact s2.2 j a b c9
          by_cases z4_6 : v = 5
          · refine j_tsI (pc := 77) 6 (off := 160) (tgt := 237) (by decide) ds_X11_say_77 (by omega) (by decide) rfl (by decide) (by decide) ?_
            refine j_blx (F := fX11) tb_X11 (nn_ _) bk_X11_say_e_237 bs_X11_say_e_237 hz (fun K hK => ?_)
            refine rg_i (by omega) ?_
            refine rg_i (by omega) ?_
            refine ix_i (by omega) ?_
            intro b33 b33b
            have e34 : T2 276 0 ((9 * i) + 8) = T 276 0 ((9 * i) + 8) := hf_59 276 0 ((9 * i) + 8) rfl
            rw [e34] at b33 b33b ⊢
            refine rg_i (by omega) ?_
            refine iy_i (by omega) (by omega) ?_
            refine x_nm (fun U35 hU35 => ?_)
            have e36 := up_f hU35
            refine hK 285 _ [] U35 ?_
            refine j_drop [some (vR 111 0), some (vI c), some (vI d), some (vI k), some (vI v), some (vI i), none] (fun k v hk => ?_) rfl ?_
            · match k, hk with
              | 0, hk => exact hk
              | 1, hk => exact hk
              | 2, hk => exact hk
              | 3, hk => exact hk
              | 4, hk => exact hk
              | 5, hk => exact hk
              | 6, hk => cases hk
              | k + 7, hk => cases hk
            refine c_285 U35 ?_ ?_ ?_ ?_
            · exact fr_u (fr_t (fr_0 _ _) (fr_s hf_59 rfl)) hU35 rfl
            · exact ⟨fun z => sa_v (w2.1 z) hU35 (by omega), fun z => sn_v (w2.2 z) hU35 (by omega)⟩
            · omega
            · refine ⟨fun x a b => ?_, fun j a b c9 => ?_⟩
              · by_cases z : x = i
                · rw [z, up_f hU35]
                  first
                  | exact ((sv_v (kv := v) (L := fun x w => T 276 0 (9 * x + w)) (sd := T 205 0 (23 * c + 15)) (g := T 111 0 85) (x := i)).1 (by omega)).symm
                  | exact ((sv_v (kv := v) (L := fun x w => T 276 0 (9 * x + w)) (sd := T 205 0 (23 * c + 15)) (g := T 111 0 85) (x := i)).2.1 (by omega)).symm
                  | exact ((sv_v (kv := v) (L := fun x w => T 276 0 (9 * x + w)) (sd := T 205 0 (23 * c + 15)) (g := T 111 0 85) (x := i)).2.2.1 (by omega)).symm
                  | exact ((sv_v (kv := v) (L := fun x w => T 276 0 (9 * x + w)) (sd := T 205 0 (23 * c + 15)) (g := T 111 0 85) (x := i)).2.2.2.1 (by omega)).symm
                  | exact ((sv_v (kv := v) (L := fun x w => T 276 0 (9 * x + w)) (sd := T 205 0 (23 * c + 15)) (g := T 111 0 85) (x := i)).2.2.2.2.1 (by omega)).symm
                  | exact ((sv_v (kv := v) (L := fun x w => T 276 0 (9 * x + w)) (sd := T 205 0 (23 * c + 15)) (g := T 111 0 85) (x := i)).2.2.2.2.2.1 (by omega)).symm
                · rw [up_g hU35 (fun y => z (by omega))]; exact s2.1 x a (by omega)
              · rw [up_g hU35 (fun y => by omega)]; exact s2.2 j a b c9
          refine j_tsO (pc := 77) (tgt := 260) (by decide) ds_X11_say_77 (by omega) (by decide) (by decide) ?_
          refine j_blx (F := fX11) tb_X11 (nn_ _) bk_X11_say_e_260 bs_X11_say_e_260 hz (fun K hK => ?_)
          refine rg_i (by omega) ?_
          refine hK 272 _ [vI 15, vI c, vR 111 0, vI (3 * i), vR 284 0] T2 ?_
          refine j_callV (y := yX11_rule0) (Yc := zX11_rule0) (rest := [vI (3 * i), vR 284 0]) [vI c, vI 15] (ct_X11_rule0 (T := T2) (by omega) (by omega)) cl_X11_321 (qd_c (by decide +kernel)) (nn_ _) rfl (rf_of rfl) (Nat.le_of_ble_eq_true rfl) (Nat.le_of_ble_eq_true rfl) (Nat.le_of_ble_eq_true rfl) rfl ?_
          rintro _ _ ⟨rfl, rfl⟩
          have e37 : T2 205 0 (23 * c + 15) = T 205 0 (23 * c + 15) := hf_59 205 0 (23 * c + 15) rfl
          show J_ zX11_say T (po_X11_say_e T c d k) 0 0 275 _ [vI (T2 205 0 (23 * c + 15)), vI (3 * i), vR 284 0] T2
          refine j_blx (F := fX11) tb_X11 (nn_ _) bk_X11_say_e_275 bs_X11_say_e_275 hz (fun K hK => ?_)
          intro b38 b38b
          have e39 : T2 111 0 85 = T 111 0 85 := hf_59 111 0 85 rfl
          rw [e39] at b38 b38b ⊢
          refine hK 281 _ [vI i, vI (T 111 0 85), vI (T2 205 0 (23 * c + 15)), vI (3 * i), vR 284 0] T2 ?_
          refine j_callS (y := yX11_lot) (Yc := zX11_lot) (rest := [vI (3 * i), vR 284 0]) [vI (T2 205 0 (23 * c + 15)), vI (T 111 0 85), vI i] (ct_X11_lot_e (T := T2)) cl_X11_505 (qd_c (by decide +kernel)) (nn_ _) rfl (rf_of rfl) (Nat.le_of_ble_eq_true rfl) (Nat.le_of_ble_eq_true rfl) (Nat.le_of_ble_eq_true rfl) rfl ?_
          rintro _ _ ⟨rfl, x40, rfl, hx40⟩
          show J_ zX11_say T (po_X11_say_e T c d k) 0 0 284 _ [vI x40, vI (3 * i), vR 284 0] T2
          refine j_blx (F := fX11) tb_X11 (nn_ _) bk_X11_say_e_284 bs_X11_say_e_284 hz (fun K hK => ?_)
          refine iy_i (by omega) (by omega) ?_
          refine x_nm (fun U41 hU41 => ?_)
          have e42 := up_f hU41
          refine hK 285 _ [] U41 ?_
          refine j_drop [some (vR 111 0), some (vI c), some (vI d), some (vI k), some (vI v), some (vI i), none] (fun k v hk => ?_) rfl ?_
          · match k, hk with
            | 0, hk => exact hk
            | 1, hk => exact hk
            | 2, hk => exact hk
            | 3, hk => exact hk
            | 4, hk => exact hk
            | 5, hk => exact hk
            | 6, hk => cases hk
            | k + 7, hk => cases hk
          refine c_285 U41 ?_ ?_ ?_ ?_
          · exact fr_u (fr_t (fr_0 _ _) (fr_s hf_59 rfl)) hU41 rfl
          · exact ⟨fun z => sa_v (w2.1 z) hU41 (by omega), fun z => sn_v (w2.2 z) hU41 (by omega)⟩
          · omega
          · refine ⟨fun x a b => ?_, fun j a b c9 => ?_⟩
            · by_cases z : x = i
              · rw [z, up_f hU41]
                first
                | exact hx40.2.trans ((congrArg (fun z => lo9_ z (T 111 0 85) i) (hf_59 205 0 (23 * c + 15) rfl)).trans ((sv_v (kv := v) (L := fun x w => T 276 0 (9 * x + w)) (sd := T 205 0 (23 * c + 15)) (g := T 111 0 85) (x := i)).2.2.2.2.2.2 (by omega) (by omega)).symm)
              · rw [up_g hU41 (fun y => z (by omega))]; exact s2.1 x a (by omega)
            · rw [up_g hU41 (fun y => by omega)]; exact s2.2 j a b c9
    have c_22 : ∀ (nn : Nat) (i : Int) (T1 : Zt), ((36 - i).toNat) ≤ nn → (fr_ [(284, [])] T T1) → (∀ j, 0 ≤ j → j < i → T1 284 0 j = 0) → (0 ≤ i ∧ i ≤ 36) → J_ zX11_say T (po_X11_say_e T c d k) 0 0 22 [some (vR 111 0), some (vI c), some (vI d), some (vI k), some (vI v), some (vI i), none] [] T1 := by
      intro nn
      induction nn using Nat.strongRecOn with
      | _ nn ih_22 =>
        intro i T1 hm_22 hf_22 z1 i1
        replace hm_22 := fun (_ : Unit) => hm_22
        refine j_blx (F := fX11) tb_X11 (nn_ _) bk_X11_say_e_22 bs_X11_say_e_22 hz (fun K hK => ?_)
        refine And.intro (fun c43 => ?_) (fun c43 => ?_)
        · refine hK 43 _ [] T1 ?_
          refine j_blx (F := fX11) tb_X11 (nn_ _) bk_X11_say_e_43 bs_X11_say_e_43 hz (fun K hK => ?_)
          refine And.intro (fun c44 => ?_) (fun c44 => ?_)
          · refine hK 56 _ [] T1 ?_
            refine j_blx (F := fX11) tb_X11 (nn_ _) bk_X11_say_e_56 bs_X11_say_e_56 hz (fun K hK => ?_)
            refine hK 59 [some (vR 111 0), some (vI c), some (vI d), some (vI k), some (vI v), some (vI 0), none] [] T1 ?_
            refine c_59 _ 0 T1 (Nat.le_refl _) ?_ ?_ ?_ ?_
            · exact fr_t (fr_0 _ _) (fr_s hf_22 rfl)
            · exact ⟨fun _ j a b => by have := z1 j a (by omega); omega, fun _ j a b => by have := z1 j a (by omega); omega⟩
            · omega
            · exact ⟨fun x a b => absurd b (by omega), fun j a b _ => z1 j a (by omega)⟩
          · refine hK 52 [some (vR 111 0), some (vI c), some (vI d), some (vI k), some (vI v), some (vI i), none] [vI d, vI c, vR 111 0] T1 ?_
            refine j_callV (y := yX11_sayHead) (Yc := zX11_sayHead) (rest := []) [vI c, vI d] (ct_X11_sayHead_e (T := T1) (bb := 0) (by omega) (ML__f (ws := [(284, [])]) hml (fr_t (fr_0 _ _) (fr_s hf_22 rfl)) ⟨fun _ => rfl, fun _ => rfl, rfl, trivial⟩) (SC__f (ws := [(284, [])]) hsc (fr_t (fr_0 _ _) (fr_s hf_22 rfl)) ⟨fun _ => rfl, fun _ => rfl, trivial⟩) (by omega) (fun j a b => by have := z1 j a (by omega); omega)) cl_X11_502 (qd_c (by decide +kernel)) (nn_ _) rfl (rf_of rfl) (Nat.le_of_ble_eq_true rfl) (Nat.le_of_ble_eq_true rfl) (Nat.le_of_ble_eq_true rfl) rfl ?_
            rintro U45 _ ⟨rfl, fU45, qU45, qU45g⟩
            show J_ zX11_say T (po_X11_say_e T c d k) 0 0 55 _ [] U45
            refine j_blx (F := fX11) tb_X11 (nn_ _) bk_X11_say_e_55 bs_X11_say_e_55 hz (fun K hK => ?_)
            refine (show po_X11_say_e T c d k U45 (none) from ?_)
            refine ⟨rfl, fr_t (fr_t (fr_0 _ _) (fr_s hf_22 rfl)) (fr_s fU45 rfl), sb_a qU45 (by decide), fun z => absurd (show v = 4 by omega) (by omega), fun _ x i9 a b c9 d9 => ?_⟩
            have y := gn_f qU45g hf_22 (fun _ => rfl) (fun _ => rfl) (fun _ => rfl) rfl (fun k j q9 => by rcases q9 with rfl | rfl | rfl | rfl | rfl | rfl | rfl | rfl | rfl | rfl <;> rfl) rfl
            rw [y x i9 a b c9 d9, z1 _ (by omega) (by omega)]
            omega
        · refine iy_i (by omega) (by omega) ?_
          refine x_nm (fun U46 hU46 => ?_)
          have e47 := up_f hU46
          refine rg_i (by omega) ?_
          refine hK 22 [some (vR 111 0), some (vI c), some (vI d), some (vI k), some (vI v), some (vI (i + 1)), none] [] U46 ?_
          refine ih_22 _ ?_ (i + 1) U46 (Nat.le_refl _) ?_ ?_ ?_
          · have hm_22 := hm_22 (); omega
          · exact fr_u (fr_t (fr_0 _ _) (fr_s hf_22 rfl)) hU46 rfl
          · intro j a b
            by_cases z : j = i
            · rw [z]; exact up_f hU46
            · rw [up_g hU46 (fun q => z q.2.2)]; exact z1 j a (by omega)
          · omega
    refine j_blx (F := fX11) tb_X11 (nn_ _) bk_X11_say_e_17 bs_X11_say_e_17 hz (fun K hK => ?_)
    refine hK 22 [some (vR 111 0), some (vI c), some (vI d), some (vI k), some (vI v), some (vI 0), none] [] T ?_
    refine c_22 _ 0 T (Nat.le_refl _) ?_ ?_ ?_
    · exact fr_0 _ _
    · intro j a b; omega
    · omega
  refine j_blx (F := fX11) tb_X11 (nn_ _) bk_X11_say_e_0 bs_X11_say_e_0 hz (fun K hK => ?_)
  refine And.intro (fun c48 => ?_) (fun c48 => ?_)
  · refine hK 8 _ [] T ?_
    refine j_blx (F := fX11) tb_X11 (nn_ _) bk_X11_say_e_8 bs_X11_say_e_8 hz (fun K hK => ?_)
    refine rg_i (by omega) ?_
    refine hK 14 _ [vI (15 + k), vI c, vR 111 0] T ?_
    refine j_callV (y := yX11_rule0) (Yc := zX11_rule0) (rest := []) [vI c, vI (15 + k)] (ct_X11_rule0 (T := T) (by omega) (by omega)) cl_X11_321 (qd_c (by decide +kernel)) (nn_ _) rfl (rf_of rfl) (Nat.le_of_ble_eq_true rfl) (Nat.le_of_ble_eq_true rfl) (Nat.le_of_ble_eq_true rfl) rfl ?_
    rintro _ _ ⟨rfl, rfl⟩
    show J_ zX11_say T (po_X11_say_e T c d k) 0 0 17 _ [vI (T 205 0 (23 * c + (15 + k)))] T
    refine c_17 (T 205 0 (23 * c + (15 + k))) ?_
    · first
      | exact (if_pos (by omega)).symm
      | exact (if_neg (by omega)).symm
  · refine hK 17 _ [vI (-1)] T ?_
    refine c_17 (-1) ?_
    · first
      | exact (if_pos (by omega)).symm
      | exact (if_neg (by omega)).symm

