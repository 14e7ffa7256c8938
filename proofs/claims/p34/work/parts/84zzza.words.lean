-- who can be first: parts of matches, words
/-- the ways of the matches can be chosen so that nobody has too much -/
def fe7_ (o : Nat) : List (Nat × Nat) → (Nat → Int) → Prop
  | [], f => ∀ k, k < 12 → o.testBit k = true → 0 ≤ f k
  | p :: l, f => ∃ w : Int, (0 ≤ w ∧ w ≤ 2) ∧ fe7_ o l (fw2_ f p.1 p.2 w)
/-- the first ways, match by match -/
def LX7_ (o : Nat) : List (Nat × Nat) → (Nat → Int) → List Int → Prop
  | [], _, ws => ws = []
  | p :: l, f, ws => ∃ (w : Int) (us : List Int), ws = w :: us ∧ (0 ≤ w ∧ w ≤ 2) ∧ fe7_ o l (fw2_ f p.1 p.2 w) ∧ (∀ u, 0 ≤ u → u < w → ¬ fe7_ o l (fw2_ f p.1 p.2 u)) ∧ LX7_ o l (fw2_ f p.1 p.2 w) us
theorem lx7_u {o : Nat} : ∀ (l : List (Nat × Nat)) (f : Nat → Int) (ws vs : List Int), LX7_ o l f ws → LX7_ o l f vs → ws = vs
  | [], _, ws, vs, a, b => by
    have a' : ws = [] := a
    have b' : vs = [] := b
    rw [a', b']
  | p :: l, f, ws, vs, a, b => by
    obtain ⟨w, us, rfl, a1, a2, a3, a4⟩ := a
    obtain ⟨x, ys, rfl, b1, b2, b3, b4⟩ := b
    have e : w = x := by
      rcases Int.lt_trichotomy w x with z | z | z
      · exact absurd a2 (b3 w a1.1 z)
      · exact z
      · exact absurd b2 (a3 x b1.1 z)
    subst e
    rw [lx7_u l _ us ys a4 b4]
theorem sp_p7 {f : Nat → Int} {s : Nat} : ∀ n : Nat, (∀ k, k < n → s.testBit k = true → 0 ≤ f k) → 0 ≤ sp_ f s n
  | 0, _ => Int.le_refl _
  | n + 1, h => by
    have i := sp_p7 (f := f) (s := s) n (fun k a b => h k (by omega) b)
    show 0 ≤ sp_ f s n + bt_ s n * f n
    unfold bt_
    by_cases z : s.testBit n = true
    · rw [if_pos z]
      have y := h n (by omega) z
      omega
    · rw [if_neg z]
      omega
theorem sb_7 {s o : Nat} (h : s &&& o = s) {k : Nat} (hk : s.testBit k = true) : o.testBit k = true := by
  have e : (s &&& o).testBit k = s.testBit k := by rw [h]
  rw [Nat.testBit_and, hk] at e
  simpa using e
/-- ways that can be chosen leave no set short -/
theorem fe7_v {o : Nat} : ∀ (l : List (Nat × Nat)) (f : Nat → Int), (∀ p ∈ l, p.1 < 12 ∧ p.2 < 12) → fe7_ o l f → ∀ s, s &&& o = s → 0 ≤ vs_ f l s
  | [], f, _, h, s, hs => by
    have y := sp_p7 (f := f) (s := s) 12 (fun k a b => h k a (sb_7 hs b))
    show 0 ≤ sp_ f s 12 - 2 * 0
    omega
  | p :: l, f, hl, h, s, hs => by
    obtain ⟨w, hw, g⟩ := h
    have ih := fe7_v l _ (fun q hq => hl q (List.mem_cons_of_mem _ hq)) g s hs
    have hp := hl p List.mem_cons_self
    rw [vs_s hp.1 hp.2] at ih
    have ih' : 0 ≤ vs_ f (p :: l) s + ch_ s p.1 p.2 w := ih
    have c := ch_b s p.1 p.2 hw
    omega
theorem sp_17 {f : Nat → Int} {k : Nat} : ∀ n : Nat, sp_ f (2 ^ k) n = if k < n then f k else 0
  | 0 => by
    rw [if_neg (by omega)]
    rfl
  | n + 1 => by
    show sp_ f (2 ^ k) n + bt_ (2 ^ k) n * f n = _
    rw [sp_17 n]
    unfold bt_
    rw [Nat.testBit_two_pow]
    by_cases z : k = n
    · subst z
      rw [if_neg (by omega), if_pos (show decide (k = k) = true by simp), if_pos (by omega)]
      omega
    · rw [if_neg (show ¬ decide (k = n) = true by simp [z])]
      by_cases y : k < n
      · rw [if_pos y, if_pos (by omega)]
        omega
      · rw [if_neg y, if_neg (by omega)]
        omega
/-- where no set is short, ways can be chosen -/
theorem v_fe7 {o : Nat} : ∀ (l : List (Nat × Nat)) (f : Nat → Int), (∀ p ∈ l, p.1 < 12 ∧ p.2 < 12) → (∀ s, s &&& o = s → 0 ≤ vs_ f l s) → fe7_ o l f
  | [], f, _, h => fun k hk ho => by
    have e : 2 ^ k &&& o = 2 ^ k := by
      apply Nat.eq_of_testBit_eq
      intro j
      rw [Nat.testBit_and, Nat.testBit_two_pow]
      by_cases z : k = j
      · rw [← z, ho]; simp
      · simp [z]
    have y := h (2 ^ k) e
    have y' : 0 ≤ sp_ f (2 ^ k) 12 - 2 * 0 := y
    rw [sp_17, if_pos hk] at y'
    omega
  | p :: l, f, hl, h => by
    have hp := hl p List.mem_cons_self
    have hl' : ∀ q ∈ l, q.1 < 12 ∧ q.2 < 12 := fun q hq => hl q (List.mem_cons_of_mem _ hq)
    have go : ∀ w : Int, (0 ≤ w ∧ w ≤ 2) → (∀ s, s &&& o = s → 0 ≤ vs_ (fw2_ f p.1 p.2 w) l s) → fe7_ o (p :: l) f := fun w hw g => ⟨w, hw, v_fe7 l _ hl' g⟩
    have no : ∀ w : Int, (0 ≤ w ∧ w ≤ 2) → ¬ fe7_ o (p :: l) f → ∃ s, s &&& o = s ∧ vs_ f ((p.1, p.2) :: l) s + ch_ s p.1 p.2 w < 0 := fun w hw g => by
      apply Classical.byContradiction
      intro n
      refine g (go w hw (fun s hs => ?_))
      rw [vs_s hp.1 hp.2]
      apply Int.not_lt.mp
      intro y
      exact n ⟨s, hs, y⟩
    apply Classical.byContradiction
    intro n
    obtain ⟨s0, p0, h0⟩ := no 0 (by decide) n
    obtain ⟨s1, p1, h1⟩ := no 1 (by decide) n
    obtain ⟨s2, p2, h2⟩ := no 2 (by decide) n
    exact vs_w (f := f) (l := l) (a := p.1) (b := p.2) (P := fun s => s &&& o = s) (fun s t hs ht => ⟨by rw [Nat.and_or_distrib_right, hs, ht], by rw [Nat.and_assoc, ht]⟩) h p0 p1 p2 h0 h1 h2
/-- with room for all parts the first ways are nought -/
theorem fe7_g {o : Nat} : ∀ (l : List (Nat × Nat)) (f : Nat → Int), (∀ k, k < 12 → o.testBit k = true → 2 * (l.length : Int) ≤ f k) → fe7_ o l f
  | [], f, h => fun k a b => by
    have y := h k a b
    have y' : 2 * ((0 : Nat) : Int) ≤ f k := y
    omega
  | p :: l, f, h => ⟨0, by decide, fe7_g l _ (fun k a b => by
      have y := h k a b
      rw [List.length_cons] at y
      show 2 * (l.length : Int) ≤ f k - (if k = p.1 then 2 - 0 else 0) - (if k = p.2 then 0 else 0)
      split <;> split <;> omega)⟩
-- sums over clubs of a kind
noncomputable def sr7_ (R : Nat → Prop) (f : Nat → Int) : Nat → Int
  | 0 => 0
  | n + 1 => sr7_ R f n + cz_ (R n) (f n) 0
noncomputable def er7_ (R : Nat → Prop) : List (Nat × Nat) → Int
  | [] => 0
  | p :: l => cz_ (R p.1 ∧ R p.2) 1 0 + er7_ R l
theorem sr7_w {R : Nat → Prop} {f : Nat → Int} {a b : Nat} {w : Int} : ∀ n : Nat, sr7_ R (fw2_ f a b w) n = sr7_ R f n - (if a < n then cz_ (R a) (2 - w) 0 else 0) - (if b < n then cz_ (R b) w 0 else 0)
  | 0 => by
    rw [if_neg (by omega), if_neg (by omega)]
    rfl
  | n + 1 => by
    show sr7_ R (fw2_ f a b w) n + cz_ (R n) (fw2_ f a b w n) 0 = sr7_ R f n + cz_ (R n) (f n) 0 - _ - _
    rw [sr7_w n]
    unfold fw2_
    by_cases x : n = a
    · by_cases y : n = b
      · rw [if_pos x, if_pos y, if_neg (by omega), if_neg (by omega), if_pos (by omega), if_pos (by omega), ← x, ← y]
        by_cases z : R n
        · rw [cz_t z, cz_t z, cz_t z, cz_t z]; omega
        · rw [cz_f z, cz_f z, cz_f z, cz_f z]; omega
      · rw [if_pos x, if_neg y, if_neg (show ¬ a < n by omega), if_pos (show a < n + 1 by omega), show (if b < n + 1 then cz_ (R b) w 0 else 0) = (if b < n then cz_ (R b) w 0 else 0) from by
          by_cases v : b < n
          · rw [if_pos v, if_pos (by omega)]
          · rw [if_neg v, if_neg (by omega)], ← x]
        by_cases z : R n
        · rw [cz_t z, cz_t z, cz_t z]; omega
        · rw [cz_f z, cz_f z, cz_f z]; omega
    · rw [if_neg x, show (if a < n + 1 then cz_ (R a) (2 - w) 0 else 0) = (if a < n then cz_ (R a) (2 - w) 0 else 0) from by
        by_cases v : a < n
        · rw [if_pos v, if_pos (by omega)]
        · rw [if_neg v, if_neg (by omega)]]
      by_cases y : n = b
      · rw [if_pos y, if_neg (show ¬ b < n by omega), if_pos (show b < n + 1 by omega), ← y]
        by_cases z : R n
        · rw [cz_t z, cz_t z, cz_t z]; omega
        · rw [cz_f z, cz_f z, cz_f z]; omega
      · rw [if_neg y, show (if b < n + 1 then cz_ (R b) w 0 else 0) = (if b < n then cz_ (R b) w 0 else 0) from by
          by_cases v : b < n
          · rw [if_pos v, if_pos (by omega)]
          · rw [if_neg v, if_neg (by omega)]]
        by_cases z : R n
        · rw [cz_t z, cz_t z]; omega
        · rw [cz_f z, cz_f z]; omega
theorem sr7_p {R : Nat → Prop} {f : Nat → Int} : ∀ n : Nat, (∀ k, k < n → R k → 0 ≤ f k) → 0 ≤ sr7_ R f n
  | 0, _ => Int.le_refl _
  | n + 1, h => by
    have i := sr7_p (R := R) (f := f) n (fun k a b => h k (by omega) b)
    show 0 ≤ sr7_ R f n + cz_ (R n) (f n) 0
    by_cases z : R n
    · rw [cz_t z]
      have y := h n (by omega) z
      omega
    · rw [cz_f z]
      omega
theorem sr7_n {R : Nat → Prop} {f : Nat → Int} {v : Nat} (hv : R v) (hf : f v < 0) : ∀ n : Nat, (∀ k, k < n → R k → f k ≤ 0) → sr7_ R f n ≤ 0 ∧ (v < n → sr7_ R f n < 0)
  | 0, _ => ⟨Int.le_refl _, fun y => by omega⟩
  | n + 1, h => by
    have i := sr7_n hv hf n (fun k a b => h k (by omega) b)
    show sr7_ R f n + cz_ (R n) (f n) 0 ≤ 0 ∧ (v < n + 1 → sr7_ R f n + cz_ (R n) (f n) 0 < 0)
    by_cases z : R n
    · rw [cz_t z]
      have y := h n (by omega) z
      refine ⟨by omega, fun q => ?_⟩
      by_cases x : v = n
      · rw [← x]
        rw [← x] at i
        omega
      · have := i.2 (by omega)
        omega
    · rw [cz_f z]
      refine ⟨by omega, fun q => ?_⟩
      by_cases x : v = n
      · exact absurd (x ▸ hv) z
      · have := i.2 (by omega)
        omega
/-- ways that can be chosen leave those enough for their matches -/
theorem fe7_r {o : Nat} {R : Nat → Prop} (hR : ∀ k, k < 12 → R k → o.testBit k = true) : ∀ (l : List (Nat × Nat)) (f : Nat → Int), (∀ p ∈ l, p.1 < 12 ∧ p.2 < 12) → fe7_ o l f → 2 * er7_ R l ≤ sr7_ R f 12
  | [], f, _, h => by
    have y := sr7_p (R := R) (f := f) 12 (fun k a b => h k a (hR k a b))
    show 2 * 0 ≤ _
    omega
  | p :: l, f, hl, h => by
    obtain ⟨w, hw, g⟩ := h
    have ih := fe7_r hR l _ (fun q hq => hl q (List.mem_cons_of_mem _ hq)) g
    have hp := hl p List.mem_cons_self
    rw [sr7_w, if_pos hp.1, if_pos hp.2] at ih
    show 2 * (cz_ (R p.1 ∧ R p.2) 1 0 + er7_ R l) ≤ _
    by_cases x : R p.1
    · rw [cz_t x] at ih
      by_cases y : R p.2
      · rw [cz_t y] at ih
        rw [cz_t ⟨x, y⟩]
        omega
      · rw [cz_f y] at ih
        rw [cz_f (fun q => y q.2)]
        omega
    · rw [cz_f x] at ih
      rw [cz_f (fun q => x q.1)]
      by_cases y : R p.2
      · rw [cz_t y] at ih
        omega
      · rw [cz_f y] at ih
        omega
-- matches by numbers
/-- i matches from number j on -/
def lh7_ (a b : Int → Int) : Nat → Int → List (Nat × Nat)
  | 0, _ => []
  | i + 1, j => ((a j).toNat, (b j).toNat) :: lh7_ a b i (j + 1)
/-- what is left when each gives h parts to its home -/
def fc7_ (a b h : Int → Int) : Nat → Int → (Nat → Int) → Nat → Int
  | 0, _, f => f
  | i + 1, j, f => fc7_ a b h i (j + 1) (fw2_ f (a j).toNat (b j).toNat (2 - h j))
/-- what a match gives a club -/
def pn7_ (a b h : Int → Int) (v : Nat) : Int → Int := fun k => (if v = (a k).toNat then h k else 0) + (if v = (b k).toNat then 2 - h k else 0)
theorem fc7_v {a b h : Int → Int} {v : Nat} : ∀ (i : Nat) (j : Int) (f : Nat → Int), fc7_ a b h i j f v = f v - sf9_ (pn7_ a b h v) j i
  | 0, _, f => by
    show f v = f v - 0
    omega
  | i + 1, j, f => by
    show fc7_ a b h i (j + 1) (fw2_ f (a j).toNat (b j).toNat (2 - h j)) v = _
    rw [fc7_v i, sf_h]
    show f v - (if v = (a j).toNat then 2 - (2 - h j) else 0) - (if v = (b j).toNat then 2 - h j else 0) - _ = f v - ((if v = (a j).toNat then h j else 0) + (if v = (b j).toNat then 2 - h j else 0) + _)
    rw [show 2 - (2 - h j) = h j by omega]
    omega
theorem lh7_b {a b : Int → Int} : ∀ (i : Nat) (j : Int), (∀ k, j ≤ k → k < j + (i : Int) → (0 ≤ a k ∧ a k < 12) ∧ (0 ≤ b k ∧ b k < 12)) → ∀ p ∈ lh7_ a b i j, p.1 < 12 ∧ p.2 < 12
  | 0, _, _, p, hp => by cases hp
  | i + 1, j, h, p, hp => by
    have hp' : p ∈ ((a j).toNat, (b j).toNat) :: lh7_ a b i (j + 1) := hp
    rcases List.mem_cons.mp hp' with z | z
    · have y := h j (by omega) (by omega)
      rw [z]
      exact ⟨by show (a j).toNat < 12; omega, by show (b j).toNat < 12; omega⟩
    · exact lh7_b i (j + 1) (fun k x y => h k (by omega) (by omega)) p z
/-- parts that leave everybody enough are ways that can be chosen -/
theorem fe7_i {o : Nat} {a b h : Int → Int} : ∀ (i : Nat) (j : Int) (f : Nat → Int), (∀ k, j ≤ k → k < j + (i : Int) → 0 ≤ h k ∧ h k ≤ 2) → (∀ k, k < 12 → o.testBit k = true → 0 ≤ fc7_ a b h i j f k) → fe7_ o (lh7_ a b i j) f
  | 0, _, f, _, g => g
  | i + 1, j, f, hh, g => ⟨2 - h j, by have y := hh j (by omega) (by omega); omega, fe7_i i (j + 1) _ (fun k x y => hh k (by omega) (by omega)) g⟩
/-- where those have no part in matches with others, all their parts are of their own matches -/
theorem ce7_i {R : Nat → Prop} {a b h : Int → Int} : ∀ (i : Nat) (j : Int) (f : Nat → Int), (∀ k, j ≤ k → k < j + (i : Int) → (0 ≤ a k ∧ a k < 12) ∧ (0 ≤ b k ∧ b k < 12)) → (∀ k, j ≤ k → k < j + (i : Int) → (R (a k).toNat → ¬ R (b k).toNat → h k = 0) ∧ (R (b k).toNat → ¬ R (a k).toNat → h k = 2)) → sr7_ R (fc7_ a b h i j f) 12 = sr7_ R f 12 - 2 * er7_ R (lh7_ a b i j)
  | 0, _, f, _, _ => by
    show sr7_ R f 12 = sr7_ R f 12 - 2 * 0
    omega
  | i + 1, j, f, hb, g => by
    have ih := ce7_i (R := R) (a := a) (b := b) (h := h) i (j + 1) (fw2_ f (a j).toNat (b j).toNat (2 - h j)) (fun k x y => hb k (by omega) (by omega)) (fun k x y => g k (by omega) (by omega))
    have y := hb j (by omega) (by omega)
    have q := g j (by omega) (by omega)
    rw [sr7_w, if_pos (by omega), if_pos (by omega)] at ih
    show sr7_ R (fc7_ a b h i (j + 1) (fw2_ f (a j).toNat (b j).toNat (2 - h j))) 12 = sr7_ R f 12 - 2 * (cz_ (R (a j).toNat ∧ R (b j).toNat) 1 0 + er7_ R (lh7_ a b i (j + 1)))
    rw [ih]
    by_cases x : R (a j).toNat
    · rw [cz_t x]
      by_cases z : R (b j).toNat
      · rw [cz_t z, cz_t ⟨x, z⟩]
        omega
      · rw [cz_f z, cz_f (P := R (a j).toNat ∧ R (b j).toNat) (fun v => z v.2)]
        have := q.1 x z
        omega
    · rw [cz_f x, cz_f (P := R (a j).toNat ∧ R (b j).toNat) (fun v => x v.1)]
      by_cases z : R (b j).toNat
      · rw [cz_t z]
        have := q.2 z x
        omega
      · rw [cz_f z]
        omega
/-- those who are short -/
theorem sh7_i {R : Nat → Prop} {a b h : Int → Int} {i : Nat} {j : Int} {f : Nat → Int} {v : Nat} (hb : ∀ k, j ≤ k → k < j + (i : Int) → (0 ≤ a k ∧ a k < 12) ∧ (0 ≤ b k ∧ b k < 12)) (g : ∀ k, j ≤ k → k < j + (i : Int) → (R (a k).toNat → ¬ R (b k).toNat → h k = 0) ∧ (R (b k).toNat → ¬ R (a k).toNat → h k = 2)) (hn : ∀ k, k < 12 → R k → fc7_ a b h i j f k ≤ 0) (hv : R v) (hv2 : v < 12) (hs : fc7_ a b h i j f v < 0) : sr7_ R f 12 < 2 * er7_ R (lh7_ a b i j) := by
  have y := ce7_i (R := R) (a := a) (b := b) (h := h) i j f hb g
  have z := (sr7_n (R := R) (f := fc7_ a b h i j f) hv hs 12 hn).2 hv2
  omega
theorem nf7_s {o : Nat} {R : Nat → Prop} {l : List (Nat × Nat)} {f f' : Nat → Int} (hR : ∀ k, k < 12 → R k → o.testBit k = true) (hl : ∀ p ∈ l, p.1 < 12 ∧ p.2 < 12) (h : sr7_ R f 12 < 2 * er7_ R l) (le : sr7_ R f' 12 ≤ sr7_ R f 12) : ¬ fe7_ o l f' := fun q => by
  have x := fe7_r hR l f' hl q
  omega
theorem fc7_a {a b h : Int → Int} : ∀ (i : Nat) (j : Int) (f : Nat → Int), fc7_ a b h (i + 1) j f = fw2_ (fc7_ a b h i j f) (a (j + (i : Int))).toNat (b (j + (i : Int))).toNat (2 - h (j + (i : Int)))
  | 0, j, f => by
    show fw2_ f (a j).toNat (b j).toNat (2 - h j) = fw2_ f (a (j + ((0 : Nat) : Int))).toNat (b (j + ((0 : Nat) : Int))).toNat (2 - h (j + ((0 : Nat) : Int)))
    rw [show j + ((0 : Nat) : Int) = j by omega]
  | i + 1, j, f => by
    show fc7_ a b h (i + 1) (j + 1) (fw2_ f (a j).toNat (b j).toNat (2 - h j)) = fw2_ (fc7_ a b h i (j + 1) (fw2_ f (a j).toNat (b j).toNat (2 - h j))) _ _ _
    rw [fc7_a i (j + 1), show j + 1 + (i : Int) = j + ((i + 1 : Nat) : Int) by omega]
theorem fc7_e {a b h h' : Int → Int} : ∀ (i : Nat) (j : Int) (f : Nat → Int), (∀ k, j ≤ k → k < j + (i : Int) → h k = h' k) → fc7_ a b h i j f = fc7_ a b h' i j f
  | 0, _, _, _ => rfl
  | i + 1, j, f, g => by
    show fc7_ a b h i (j + 1) (fw2_ f (a j).toNat (b j).toNat (2 - h j)) = fc7_ a b h' i (j + 1) (fw2_ f (a j).toNat (b j).toNat (2 - h' j))
    rw [g j (by omega) (by omega), fc7_e i (j + 1) _ (fun k x y => g k (by omega) (by omega))]
-- who can be first: the search for one that is not full, words
/-- a match by which v has a part to give to u -/
def PR7_ (hs aw hp : Int → Int) (v k p : Int) : Prop := (hs k = v ∧ aw k = p ∧ hp k < 2) ∨ (aw k = v ∧ hs k = p ∧ 0 < hp k)
/-- who is found so far: a row of different ones, each by a match with an earlier one -/
def BF7_ (hs aw hp : Int → Int) (s f n m : Int) (via qu : Int → Int) (tl : Int) : Prop :=
  (1 ≤ tl ∧ qu 0 = s) ∧
  (∀ i, 0 ≤ i → i < tl → (0 ≤ qu i ∧ qu i < m) ∧ via (qu i) ≠ -1) ∧
  (∀ v, 0 ≤ v → v < 12 → via v ≠ -1 → ∃ i, (0 ≤ i ∧ i < tl) ∧ qu i = v) ∧
  (∀ i j, 0 ≤ i → i < j → j < tl → qu i ≠ qu j) ∧
  ∀ i, 1 ≤ i → i < tl → (f ≤ via (qu i) ∧ via (qu i) < n) ∧ ∃ j, (0 ≤ j ∧ j < i) ∧ PR7_ hs aw hp (qu i) (via (qu i)) (qu j)
/-- who can take a part from v by match k is found -/
def TC7_ (hs aw hp via : Int → Int) (v k : Int) : Prop := (hs k = v → 0 < hp k → via (aw k) ≠ -1) ∧ (aw k = v → hp k < 2 → via (hs k) ≠ -1)
def CL7_ (hs aw hp c L : Int → Int) (f n : Int) (via qu : Int → Int) (hd : Int) : Prop := ∀ i, 0 ≤ i → i < hd → c (qu i) ≤ L (qu i) ∧ ∀ k, f ≤ k → k < n → TC7_ hs aw hp via (qu i) k
theorem bf7_0 {hs aw hp : Int → Int} {s f n m : Int} {via qu : Int → Int} (hs0 : 0 ≤ s ∧ s < m) (h0 : qu 0 = s) (hv : via s ≠ -1) (hn : ∀ v, 0 ≤ v → v < 12 → v ≠ s → via v = -1) : BF7_ hs aw hp s f n m via qu 1 := by
  refine ⟨⟨Int.le_refl _, h0⟩, fun i a b => ?_, fun v a b c => ⟨0, by omega, ?_⟩, fun i j a b c => by omega, fun i a b => by omega⟩
  · rw [show i = 0 by omega, h0]
    exact ⟨hs0, hv⟩
  · rw [h0]
    apply Classical.byContradiction
    intro z
    exact c (hn v a b (fun y => z y.symm))
theorem bf7_a {hs aw hp : Int → Int} {s f n m hd tl x k : Int} {via qu via' qu' : Int → Int} (B : BF7_ hs aw hp s f n m via qu tl) (hh : 0 ≤ hd ∧ hd < tl) (hx : 0 ≤ x ∧ x < m) (hn : via x = -1) (hk : (f ≤ k ∧ k < n) ∧ 0 ≤ f) (P : PR7_ hs aw hp x k (qu hd)) (ev : ∀ v, via' v = fu_ via x k v) (eq : ∀ i, qu' i = fu_ qu tl x i) : BF7_ hs aw hp s f n m via' qu' (tl + 1) := by
  obtain ⟨⟨b1, b2⟩, b3, b4, b5, b6⟩ := B
  have qn : ∀ i, 0 ≤ i → i < tl → qu' i = qu i ∧ qu i ≠ x := fun i a b => by
    refine ⟨by rw [eq, fu_n (by omega)], fun z => ?_⟩
    have y := (b3 i a b).2
    rw [z] at y
    exact y hn
  have ql : qu' tl = x := by rw [eq, fu_s]
  have vx : via' x = k := by rw [ev, fu_s]
  have vn : ∀ v, v ≠ x → via' v = via v := fun v z => by rw [ev, fu_n z]
  refine ⟨⟨by omega, by rw [(qn 0 (by omega) (by omega)).1]; exact b2⟩, fun i a b => ?_, fun v a b c => ?_, fun i j a b c => ?_, fun i a b => ?_⟩
  · by_cases z : i = tl
    · rw [z, ql, vx]
      exact ⟨hx, by omega⟩
    · have y := qn i a (by omega)
      rw [y.1, vn _ y.2]
      exact b3 i a (by omega)
  · by_cases z : v = x
    · exact ⟨tl, by omega, by rw [ql, z]⟩
    · rw [vn v z] at c
      obtain ⟨i, hi, e⟩ := b4 v a b c
      exact ⟨i, by omega, by rw [(qn i hi.1 hi.2).1, e]⟩
  · have y := qn i a (by omega)
    rw [y.1]
    by_cases z : j = tl
    · rw [z, ql]
      exact y.2
    · rw [(qn j (by omega) (by omega)).1]
      exact b5 i j a b (by omega)
  · by_cases z : i = tl
    · rw [z, ql, vx]
      exact ⟨hk.1, hd, by omega, by rw [(qn hd hh.1 hh.2).1]; exact P⟩
    · have y := qn i (by omega) (by omega)
      rw [y.1, vn _ y.2]
      obtain ⟨w, j, hj, e⟩ := b6 i a (by omega)
      exact ⟨w, j, hj, by rw [(qn j hj.1 (by omega)).1]; exact e⟩
theorem tc7_m {hs aw hp via via' : Int → Int} {v k : Int} (h : TC7_ hs aw hp via v k) (g : ∀ u, via u ≠ -1 → via' u ≠ -1) : TC7_ hs aw hp via' v k := ⟨fun a b => g _ (h.1 a b), fun a b => g _ (h.2 a b)⟩
theorem cl7_m {hs aw hp c L : Int → Int} {f n hd tl : Int} {via qu via' qu' : Int → Int} (h : CL7_ hs aw hp c L f n via qu hd) (hd1 : hd ≤ tl) (g : ∀ u, via u ≠ -1 → via' u ≠ -1) (e : ∀ i, 0 ≤ i → i < tl → qu' i = qu i) : CL7_ hs aw hp c L f n via' qu' hd := fun i a b => by
  rw [e i a (by omega)]
  have y := h i a b
  exact ⟨y.1, fun k p q => tc7_m (y.2 k p q) g⟩
/-- twelve different ones are all -/
theorem bf7_p {hs aw hp : Int → Int} {s f n m tl : Int} {via qu : Int → Int} (B : BF7_ hs aw hp s f n m via qu tl) (hm : m ≤ 12) (ht : 12 ≤ tl) {x : Int} (hx : 0 ≤ x ∧ x < m) : via x ≠ -1 := fun z => by
  obtain ⟨-, b3, -, b5, -⟩ := B
  have k := php 11 12 (fun i => (if qu (i : Int) < x then qu (i : Int) else qu (i : Int) - 1).toNat) (fun i hi => ?_) (fun i j hij hj => ?_)
  · omega
  · have y := b3 (i : Int) (by omega) (by omega)
    have w : qu (i : Int) ≠ x := fun q => by rw [q] at y; exact y.2 z
    show (if qu (i : Int) < x then qu (i : Int) else qu (i : Int) - 1).toNat < 11
    split <;> omega
  · have y := b3 (i : Int) (by omega) (by omega)
    have w : qu (i : Int) ≠ x := fun q => by rw [q] at y; exact y.2 z
    have y2 := b3 (j : Int) (by omega) (by omega)
    have w2 : qu (j : Int) ≠ x := fun q => by rw [q] at y2; exact y2.2 z
    have d := b5 (i : Int) (j : Int) (by omega) (by omega) (by omega)
    show (if qu (i : Int) < x then qu (i : Int) else qu (i : Int) - 1).toNat ≠ (if qu (j : Int) < x then qu (j : Int) else qu (j : Int) - 1).toNat
    split <;> split <;> omega
/-- nobody that is found can take more: those who are found -/
def NO7_ (hs aw hp c L : Int → Int) (s f n m : Int) : Prop := ∃ R : Int → Prop, R s ∧ (∀ v, R v → (0 ≤ v ∧ v < m) ∧ c v ≤ L v) ∧ ∀ k, f ≤ k → k < n → (R (hs k) → 0 < hp k → R (aw k)) ∧ (R (aw k) → hp k < 2 → R (hs k))
theorem bf7_r {hs aw hp c L : Int → Int} {s f n m hd tl : Int} {via qu : Int → Int} (B : BF7_ hs aw hp s f n m via qu tl) (C : CL7_ hs aw hp c L f n via qu hd) (hh : tl ≤ hd) (hm : m ≤ 12) (hb : ∀ k, f ≤ k → k < n → (0 ≤ hs k ∧ hs k < m) ∧ (0 ≤ aw k ∧ aw k < m)) : NO7_ hs aw hp c L s f n m := by
  obtain ⟨⟨b1, b2⟩, b3, b4, b5, b6⟩ := B
  have fd : ∀ v, (0 ≤ v ∧ v < m) → via v ≠ -1 → c v ≤ L v ∧ ∀ k, f ≤ k → k < n → TC7_ hs aw hp via v k := fun v hv z => by
    obtain ⟨i, hi, e⟩ := b4 v hv.1 (by omega) z
    have y := C i hi.1 (by omega)
    rw [e] at y
    exact y
  have s0 := b3 0 (by omega) (by omega)
  rw [b2] at s0
  refine ⟨fun v => (0 ≤ v ∧ v < m) ∧ via v ≠ -1, s0, fun v hv => ⟨hv.1, (fd v hv.1 hv.2).1⟩, fun k a b => ?_⟩
  have y := hb k a b
  exact ⟨fun p q => ⟨y.2, ((fd _ p.1 p.2).2 k a b).1 rfl q⟩, fun p q => ⟨y.1, ((fd _ p.1 p.2).2 k a b).2 rfl q⟩⟩
-- going back along the matches
/-- what a match gives a seat -/
def pk7_ (hs aw hp : Int → Int) (v : Int) : Int → Int := fun k => (if hs k = v then hp k else 0) + (if aw k = v then 2 - hp k else 0)
def un7_ (v e : Int) : Int := if v = e then 1 else 0
/-- the parts so far, while one is handed on from e back to a -/
def GB7_ (hs aw hp0 hp : Int → Int) (f n e a : Int) : Prop := (∀ k, k < f → hp k = hp0 k) ∧ (∀ k, f ≤ k → k < n → 0 ≤ hp k ∧ hp k ≤ 2) ∧ ∀ v, sf9_ (pk7_ hs aw hp v) f (n - f).toNat = sf9_ (pk7_ hs aw hp0 v) f (n - f).toNat + un7_ v e - un7_ v a
theorem gb7_0 {hs aw hp : Int → Int} {f n e : Int} (h : ∀ k, f ≤ k → k < n → 0 ≤ hp k ∧ hp k ≤ 2) : GB7_ hs aw hp hp f n e e := ⟨fun _ _ => rfl, h, fun v => by omega⟩
theorem gb7_s {hs aw hp0 hp hp' : Int → Int} {f n e a k p : Int} (G : GB7_ hs aw hp0 hp f n e a) (hk : f ≤ k ∧ k < n) (ne : hs k ≠ aw k) (c : (hs k = a ∧ aw k = p ∧ hp k < 2 ∧ ∀ j, hp' j = fu_ hp k (hp k + 1) j) ∨ (aw k = a ∧ hs k = p ∧ 0 < hp k ∧ ∀ j, hp' j = fu_ hp k (hp k - 1) j)) : GB7_ hs aw hp0 hp' f n e p := by
  obtain ⟨g1, g2, g3⟩ := G
  have r := g2 k hk.1 hk.2
  have o : ∀ j, j ≠ k → hp' j = hp j := fun j z => by
    rcases c with ⟨-, -, -, c⟩ | ⟨-, -, -, c⟩
    · rw [c, fu_n z]
    · rw [c, fu_n z]
  refine ⟨fun j z => by rw [o j (by omega)]; exact g1 j z, fun j x y => ?_, fun v => ?_⟩
  · by_cases z : j = k
    · rw [z]
      rcases c with ⟨-, -, c1, c⟩ | ⟨-, -, c1, c⟩
      · rw [c, fu_s]; omega
      · rw [c, fu_s]; omega
    · rw [o j z]
      exact g2 j x y
  · have u := sf_u (h := pk7_ hs aw hp v) (h' := pk7_ hs aw hp' v) (f := f) (j := k) (n - f).toNat hk.1 (by omega) (fun i z => by
      unfold pk7_
      rw [o i z])
    rw [u, g3 v]
    unfold pk7_ un7_
    rcases c with ⟨c1, c2, c3, c⟩ | ⟨c1, c2, c3, c⟩
    · rw [c, fu_s, ← c1, ← c2]
      by_cases x : hs k = v
      · rw [if_pos x, if_pos x, if_neg (show ¬ aw k = v from fun q => ne (x.trans q.symm)), if_neg (show ¬ aw k = v from fun q => ne (x.trans q.symm)), if_pos x.symm, if_neg (show ¬ v = aw k from fun q => ne (x.trans q))]
        omega
      · rw [if_neg x, if_neg x, if_neg (show ¬ v = hs k from fun q => x q.symm)]
        by_cases y : aw k = v
        · rw [if_pos y, if_pos y, if_pos y.symm]
          omega
        · rw [if_neg y, if_neg y, if_neg (show ¬ v = aw k from fun q => y q.symm)]
          omega
    · rw [c, fu_s, ← c1, ← c2]
      by_cases x : hs k = v
      · rw [if_pos x, if_pos x, if_neg (show ¬ aw k = v from fun q => ne (x.trans q.symm)), if_neg (show ¬ aw k = v from fun q => ne (x.trans q.symm)), if_pos x.symm, if_neg (show ¬ v = aw k from fun q => ne (x.trans q))]
        omega
      · rw [if_neg x, if_neg x, if_neg (show ¬ v = hs k from fun q => x q.symm)]
        by_cases y : aw k = v
        · rw [if_pos y, if_pos y, if_pos y.symm]
          omega
        · rw [if_neg y, if_neg y, if_neg (show ¬ v = aw k from fun q => y q.symm)]
          omega
/-- the matches by which they were found are different -/
theorem bf7_d {hs aw hp : Int → Int} {s f n m tl : Int} {via qu : Int → Int} (B : BF7_ hs aw hp s f n m via qu tl) {i j : Int} (hi : 1 ≤ i) (hij : i < j) (hj : j < tl) : via (qu i) ≠ via (qu j) := fun e => by
  obtain ⟨-, b3, -, b5, b6⟩ := B
  obtain ⟨-, i2, h2, p2⟩ := b6 i hi (by omega)
  obtain ⟨-, j2, g2, q2⟩ := b6 j (by omega) hj
  have d1 := b5 i j (by omega) hij hj
  rw [← e] at q2
  have ne : qu i2 ≠ qu j := fun q => b5 i2 j h2.1 (by omega) hj q
  rcases p2 with ⟨a1, a2, -⟩ | ⟨a1, a2, -⟩
  · rcases q2 with ⟨c1, -, -⟩ | ⟨c1, -, -⟩
    · exact d1 (a1.symm.trans c1)
    · exact ne (a2.symm.trans c1)
  · rcases q2 with ⟨c1, -, -⟩ | ⟨c1, -, -⟩
    · exact ne (a2.symm.trans c1)
    · exact d1 (a1.symm.trans c1)
theorem ld7_2 {T U V : Zt} {k : Nat} {s e : Int} (h1 : U = up_ T k 0 s (T k 0 s - 1)) (h2 : V = up_ U k 0 e (U k 0 e + 1)) (n : e ≠ s) : ∀ v, V k 0 v = T k 0 v + un7_ v e - un7_ v s := fun v => by
  unfold un7_
  by_cases x : v = e
  · rw [x, up_f h2, up_g h1 (fun q => n q.2.2), if_pos rfl, if_neg n]
    omega
  · rw [up_g h2 (fun q => x q.2.2), if_neg x]
    by_cases y : v = s
    · rw [y, up_f h1, if_pos rfl]
      omega
    · rw [up_g h1 (fun q => y q.2.2), if_neg y]
      omega
theorem un7_b (v e : Int) : 0 ≤ un7_ v e ∧ un7_ v e ≤ 1 := by
  unfold un7_
  split <;> decide
theorem un7_s (v : Int) : un7_ v v = 1 := if_pos rfl
theorem un7_n {v e : Int} (h : v ≠ e) : un7_ v e = 0 := if_neg h
/-- a part was handed on from s to one that was not full -/
def RT7_ (hs aw hp hp' c L L' : Int → Int) (s f n m : Int) : Prop := ∃ e, (0 ≤ e ∧ e < m ∧ e ≠ s ∧ L e < c e) ∧ (∀ v, L' v = L v + un7_ v e - un7_ v s) ∧ GB7_ hs aw hp hp' f n e s
/-- a part of match k goes to the home: who has how many then -/
def lv7_ (L : Int → Int) (h a : Int) : Int → Int := fun v => L v + un7_ v h - un7_ v a
theorem pk7_1 {hs aw hp hp' : Int → Int} {v : Int} : ∀ (i : Nat) (j : Int), (∀ k, j ≤ k → k < j + (i : Int) → hp' k = hp k) → sf9_ (pk7_ hs aw hp' v) j i = sf9_ (pk7_ hs aw hp v) j i := fun i j h => sf_e i (fun k a b => by
  unfold pk7_
  rw [h k a b])
/-- a sum cut in two -/
theorem sf7_2 {g : Int → Int} {f : Int} : ∀ (x y : Nat), sf9_ g f (x + y) = sf9_ g f x + sf9_ g (f + (x : Int)) y
  | x, 0 => by
    show sf9_ g f x = sf9_ g f x + 0
    omega
  | x, y + 1 => by
    show sf9_ g f (x + y) + g (f + ((x + y : Nat) : Int)) = sf9_ g f x + (sf9_ g (f + (x : Int)) y + g (f + (x : Int) + (y : Int)))
    rw [sf7_2 x y, show f + ((x + y : Nat) : Int) = f + (x : Int) + (y : Int) by omega]
    omega
theorem sf7_k {g : Int → Int} {n k : Int} (h0 : 0 ≤ k) (h1 : k < n) : sf9_ g 0 n.toNat = sf9_ g 0 k.toNat + g k + sf9_ g (k + 1) (n - (k + 1)).toNat := by
  have a := sf7_2 (g := g) (f := 0) (k.toNat + 1) (n - (k + 1)).toNat
  rw [show k.toNat + 1 + (n - (k + 1)).toNat = n.toNat by omega] at a
  rw [a]
  show sf9_ g 0 k.toNat + g (0 + ((k.toNat : Nat) : Int)) + sf9_ g (0 + ((k.toNat + 1 : Nat) : Int)) (n - (k + 1)).toNat = _
  rw [show 0 + ((k.toNat : Nat) : Int) = k by omega, show 0 + ((k.toNat + 1 : Nat) : Int) = k + 1 by omega]
/-- one part more for the home of match k, and what was handed on behind it -/
theorem pk7_s {hs aw hp hp' : Int → Int} {n k e h : Int} (hk : 0 ≤ k ∧ k < n) (ne : hs k ≠ aw k) (G : GB7_ hs aw hp hp' (k + 1) n e h) (v : Int) : sf9_ (pk7_ hs aw (fu_ hp' k (hp k + 1)) v) 0 n.toNat = sf9_ (pk7_ hs aw hp v) 0 n.toNat + un7_ v (hs k) - un7_ v (aw k) + un7_ v e - un7_ v h := by
  obtain ⟨g1, g2, g3⟩ := G
  rw [sf7_k hk.1 hk.2, sf7_k (g := pk7_ hs aw hp v) hk.1 hk.2]
  rw [pk7_1 (hp := hp) k.toNat 0 (fun j a b => by rw [fu_n (by omega)]; exact g1 j (by omega)), pk7_1 (hp := hp') (hp' := fu_ hp' k (hp k + 1)) (n - (k + 1)).toNat (k + 1) (fun j a b => fu_n (by omega)), g3 v]
  have e1 : pk7_ hs aw (fu_ hp' k (hp k + 1)) v k = pk7_ hs aw hp v k + un7_ v (hs k) - un7_ v (aw k) := by
    unfold pk7_ un7_
    rw [fu_s]
    by_cases x : hs k = v
    · rw [if_pos x, if_pos x, if_pos x.symm, if_neg (show ¬ aw k = v from fun q => ne (x.trans q.symm)), if_neg (show ¬ aw k = v from fun q => ne (x.trans q.symm)), if_neg (show ¬ v = aw k from fun q => ne (x.trans q))]
      omega
    · rw [if_neg x, if_neg x, if_neg (show ¬ v = hs k from fun q => x q.symm)]
      by_cases y : aw k = v
      · rw [if_pos y, if_pos y, if_pos y.symm]
        omega
      · rw [if_neg y, if_neg y, if_neg (show ¬ v = aw k from fun q => y q.symm)]
        omega
  rw [e1]
  omega
theorem pk7_b {hs aw hp : Int → Int} {v : Int} : ∀ (i : Nat) (j : Int), (∀ k, j ≤ k → k < j + (i : Int) → 0 ≤ hp k ∧ hp k ≤ 2) → 0 ≤ sf9_ (pk7_ hs aw hp v) j i ∧ sf9_ (pk7_ hs aw hp v) j i ≤ 4 * (i : Int)
  | 0, _, _ => by
    show 0 ≤ (0 : Int) ∧ (0 : Int) ≤ 4 * ((0 : Nat) : Int)
    omega
  | i + 1, j, h => by
    have ih := pk7_b (hs := hs) (aw := aw) (hp := hp) (v := v) i j (fun k a b => h k a (by omega))
    have y := h (j + (i : Int)) (by omega) (by omega)
    show 0 ≤ sf9_ (pk7_ hs aw hp v) j i + pk7_ hs aw hp v (j + (i : Int)) ∧ sf9_ (pk7_ hs aw hp v) j i + pk7_ hs aw hp v (j + (i : Int)) ≤ 4 * ((i + 1 : Nat) : Int)
    have z : 0 ≤ pk7_ hs aw hp v (j + (i : Int)) ∧ pk7_ hs aw hp v (j + (i : Int)) ≤ 4 := by
      unfold pk7_
      split <;> split <;> omega
    omega
/-- match k is settled: two parts at home, or one more can't be had -/
def ST7_ (hs aw hp c : Int → Int) (n m k : Int) : Prop := hp k = 2 ∨ ∃ hq, (∀ i, i < k + 1 → hq i = hp i) ∧ (∀ i, 0 ≤ i → i < n → 0 ≤ hq i ∧ hq i ≤ 2) ∧ NO7_ hs aw hq c (lv7_ (fun v => sf9_ (pk7_ hs aw hq v) 0 n.toNat) (hs k) (aw k)) (hs k) (k + 1) n m ∧ c (hs k) < lv7_ (fun v => sf9_ (pk7_ hs aw hq v) 0 n.toNat) (hs k) (aw k) (hs k)
theorem st7_m {hs aw hp hp' c : Int → Int} {n m k : Int} (h : ST7_ hs aw hp c n m k) (e : ∀ i, i < k + 1 → hp' i = hp i) : ST7_ hs aw hp' c n m k := by
  rcases h with h | ⟨hq, a, b⟩
  · exact Or.inl ((e k (by omega)).trans h)
  · exact Or.inr ⟨hq, fun i y => (a i y).trans (e i y).symm, b⟩
theorem no7_c {hs aw hp c c' L L' : Int → Int} {s f n m : Int} (h : NO7_ hs aw hp c L s f n m) (e : ∀ v, 0 ≤ v → v < m → L v = L' v ∧ c v = c' v) : NO7_ hs aw hp c' L' s f n m := by
  obtain ⟨R, a, b, d⟩ := h
  refine ⟨R, a, fun v hv => ?_, d⟩
  have y := b v hv
  have z := e v y.1.1 y.1.2
  exact ⟨y.1, by omega⟩
theorem ld7_3 {T U V : Zt} {k : Nat} {h a : Int} (h1 : U = up_ T k 0 h (T k 0 h + 1)) (h2 : V = up_ U k 0 a (U k 0 a - 1)) (n : h ≠ a) : ∀ v, V k 0 v = T k 0 v + un7_ v h - un7_ v a := fun v => by
  unfold un7_
  by_cases x : v = a
  · rw [x, up_f h2, up_g h1 (fun q => n q.2.2.symm), if_pos rfl, if_neg (fun q => n q.symm)]
    omega
  · rw [up_g h2 (fun q => x q.2.2), if_neg x]
    by_cases y : v = h
    · rw [y, up_f h1, if_pos rfl]
      omega
    · rw [up_g h1 (fun q => y q.2.2), if_neg y]
      omega
theorem ld7_4 {T T0 U V : Zt} {k : Nat} {h a : Int} (h0 : ∀ v, T k 0 v = T0 k 0 v + un7_ v h - un7_ v a) (h1 : U = up_ T k 0 h (T k 0 h - 1)) (h2 : V = up_ U k 0 a (U k 0 a + 1)) (n : h ≠ a) : ∀ v, V k 0 v = T0 k 0 v := fun v => by
  have y0 := h0 v
  unfold un7_ at y0
  by_cases x : v = a
  · rw [x] at y0 ⊢
    rw [if_neg (fun q => n q.symm), if_pos rfl] at y0
    rw [up_f h2, up_g h1 (fun q => n q.2.2.symm)]
    omega
  · rw [up_g h2 (fun q => x q.2.2)]
    rw [if_neg x] at y0
    by_cases y : v = h
    · rw [y] at y0 ⊢
      rw [if_pos rfl] at y0
      rw [up_f h1]
      omega
    · rw [if_neg y] at y0
      rw [up_g h1 (fun q => y q.2.2)]
      omega
theorem pk7_2 {hs aw : Int → Int} {v : Int} {k : Int} (h : 0 ≤ k) : sf9_ (pk7_ hs aw (fun _ => 2) v) 0 (k + 1).toNat = sf9_ (pk7_ hs aw (fun _ => 2) v) 0 k.toNat + (if hs k = v then 2 else 0) := by
  rw [show (k + 1).toNat = k.toNat + 1 by omega]
  show sf9_ (pk7_ hs aw (fun _ => 2) v) 0 k.toNat + pk7_ hs aw (fun _ => 2) v (0 + ((k.toNat : Nat) : Int)) = _
  rw [show 0 + ((k.toNat : Nat) : Int) = k by omega]
  have e : pk7_ hs aw (fun _ => 2) v k = (if hs k = v then (2 : Int) else 0) + (if aw k = v then (2 : Int) - 2 else 0) := rfl
  rw [e]
  split <;> split <;> omega
theorem pk7_z {hs aw hp : Int → Int} {v : Int} : ∀ (i : Nat) (j : Int), (∀ k, j ≤ k → k < j + (i : Int) → hs k ≠ v ∧ aw k ≠ v) → sf9_ (pk7_ hs aw hp v) j i = 0
  | 0, _, _ => rfl
  | i + 1, j, h => by
    have ih := pk7_z (hs := hs) (aw := aw) (hp := hp) (v := v) i j (fun k a b => h k a (by omega))
    have y := h (j + (i : Int)) (by omega) (by omega)
    show sf9_ (pk7_ hs aw hp v) j i + pk7_ hs aw hp v (j + (i : Int)) = 0
    rw [ih]
    unfold pk7_
    rw [if_neg y.1, if_neg y.2]
    rfl
theorem bk_X9_takerOf_e_0 : ck_ fX9 (some .int) cX9_takerOf 0 [.aload 0, .iload 1] 2 = true := qck_r (nn_ _) (by decide +kernel)
theorem bs_X9_takerOf_e_0 {P : Zt → Option Zv → Prop} (K : Int → Zl → List Zv → Zt → Prop) : sx_ K P [.aload 0, .iload 1] 2 = x_aload 0 (x_iload 1 (K 2)) := ((xe_aload 0).trans (congrArg (x_aload 0) ((xe_iload 1).trans (congrArg (x_iload 1) xe_nil))))
theorem bk_X9_takerOf_e_5 : ck_ fX9 (some .int) cX9_takerOf 5 [.iload 2, .if_icmp .ne 28, .aload 0, .tableswitch 0 9 10 #[], .iload 1, .iaload, .ifCond .le 26, .aload 0, .iload 1] 20 = true := qck_r (nn_ _) (by decide +kernel)
theorem bs_X9_takerOf_e_5 {P : Zt → Option Zv → Prop} (K : Int → Zl → List Zv → Zt → Prop) : sx_ K P [.iload 2, .if_icmp .ne 28, .aload 0, .tableswitch 0 9 10 #[], .iload 1, .iaload, .ifCond .le 26, .aload 0, .iload 1] 20 = x_iload 2 (x_if_icmp .ne 28 K (x_aload 0 (x_g1 109 590 (x_iload 1 (x_iaload (x_ifCond .le 26 K (x_aload 0 (x_iload 1 (K 20))))))))) := ((xe_iload 2).trans (congrArg (x_iload 2) ((xe_if_icmp .ne 28).trans (congrArg (x_if_icmp .ne 28 K) ((xe_aload 0).trans (congrArg (x_aload 0) ((xe_g1 (kk := 109) rfl tl_9_10).trans (congrArg (x_g1 109 590) ((xe_iload 1).trans (congrArg (x_iload 1) ((xe_iaload).trans (congrArg (x_iaload) ((xe_ifCond .le 26).trans (congrArg (x_ifCond .le 26 K) ((xe_aload 0).trans (congrArg (x_aload 0) ((xe_iload 1).trans (congrArg (x_iload 1) xe_nil))))))))))))))))))
theorem bk_X9_takerOf_e_28 : ck_ fX9 (some .int) cX9_takerOf 28 [.aload 0, .iload 1] 30 = true := qck_r (nn_ _) (by decide +kernel)
theorem bs_X9_takerOf_e_28 {P : Zt → Option Zv → Prop} (K : Int → Zl → List Zv → Zt → Prop) : sx_ K P [.aload 0, .iload 1] 30 = x_aload 0 (x_iload 1 (K 30)) := ((xe_aload 0).trans (congrArg (x_aload 0) ((xe_iload 1).trans (congrArg (x_iload 1) xe_nil))))
theorem bk_X9_takerOf_e_33 : ck_ fX9 (some .int) cX9_takerOf 33 [.iload 2, .if_icmp .ne 55, .aload 0, .tableswitch 0 9 10 #[], .iload 1, .iaload, .iconst 2, .if_icmp .ge 55, .aload 0, .iload 1] 49 = true := qck_r (nn_ _) (by decide +kernel)
theorem bs_X9_takerOf_e_33 {P : Zt → Option Zv → Prop} (K : Int → Zl → List Zv → Zt → Prop) : sx_ K P [.iload 2, .if_icmp .ne 55, .aload 0, .tableswitch 0 9 10 #[], .iload 1, .iaload, .iconst 2, .if_icmp .ge 55, .aload 0, .iload 1] 49 = x_iload 2 (x_if_icmp .ne 55 K (x_aload 0 (x_g1 109 590 (x_iload 1 (x_iaload (x_iconst 2 (x_if_icmp .ge 55 K (x_aload 0 (x_iload 1 (K 49)))))))))) := ((xe_iload 2).trans (congrArg (x_iload 2) ((xe_if_icmp .ne 55).trans (congrArg (x_if_icmp .ne 55 K) ((xe_aload 0).trans (congrArg (x_aload 0) ((xe_g1 (kk := 109) rfl tl_9_10).trans (congrArg (x_g1 109 590) ((xe_iload 1).trans (congrArg (x_iload 1) ((xe_iaload).trans (congrArg (x_iaload) ((xe_iconst 2).trans (congrArg (x_iconst 2) ((xe_if_icmp .ge 55).trans (congrArg (x_if_icmp .ge 55 K) ((xe_aload 0).trans (congrArg (x_aload 0) ((xe_iload 1).trans (congrArg (x_iload 1) xe_nil))))))))))))))))))))
theorem bk_X9_takerOf_e_55 : ck_ fX9 (some .int) cX9_takerOf 55 [.iconst (-1), .ireturn] 57 = true := qck_r (nn_ _) (by decide +kernel)
theorem bs_X9_takerOf_e_55 {P : Zt → Option Zv → Prop} (K : Int → Zl → List Zv → Zt → Prop) : sx_ K P [.iconst (-1), .ireturn] 57 = x_iconst (-1) (x_ireturn P) := ((xe_iconst (-1)).trans (congrArg (x_iconst (-1)) (xe_ireturn)))
theorem bk_X9_takerOf_e_52 : ck_ fX9 (some .int) cX9_takerOf 52 [.goto 56] 55 = true := qck_r (nn_ _) (by decide +kernel)
theorem bs_X9_takerOf_e_52 {P : Zt → Option Zv → Prop} (K : Int → Zl → List Zv → Zt → Prop) : sx_ K P [.goto 56] 55 = x_goto 56 K := (xe_goto 56)
theorem bk_X9_takerOf_e_56 : ck_ fX9 (some .int) cX9_takerOf 56 [.ireturn] 57 = true := qck_r (nn_ _) (by decide +kernel)
theorem bs_X9_takerOf_e_56 {P : Zt → Option Zv → Prop} (K : Int → Zl → List Zv → Zt → Prop) : sx_ K P [.ireturn] 57 = x_ireturn P := (xe_ireturn)
theorem bk_X9_takerOf_e_26 : ck_ fX9 (some .int) cX9_takerOf 26 [.iconst (-1), .ireturn] 28 = true := qck_r (nn_ _) (by decide +kernel)
theorem bs_X9_takerOf_e_26 {P : Zt → Option Zv → Prop} (K : Int → Zl → List Zv → Zt → Prop) : sx_ K P [.iconst (-1), .ireturn] 28 = x_iconst (-1) (x_ireturn P) := ((xe_iconst (-1)).trans (congrArg (x_iconst (-1)) (xe_ireturn)))
theorem bk_X9_takerOf_e_23 : ck_ fX9 (some .int) cX9_takerOf 23 [.goto 27] 26 = true := qck_r (nn_ _) (by decide +kernel)
theorem bs_X9_takerOf_e_23 {P : Zt → Option Zv → Prop} (K : Int → Zl → List Zv → Zt → Prop) : sx_ K P [.goto 27] 26 = x_goto 27 K := (xe_goto 27)
theorem bk_X9_takerOf_e_27 : ck_ fX9 (some .int) cX9_takerOf 27 [.ireturn] 28 = true := qck_r (nn_ _) (by decide +kernel)
theorem bs_X9_takerOf_e_27 {P : Zt → Option Zv → Prop} (K : Int → Zl → List Zv → Zt → Prop) : sx_ K P [.ireturn] 28 = x_ireturn P := (xe_ireturn)
abbrev po_X9_takerOf_e (T : Zt) (k s : Int) : Zt → Option Zv → Prop := fun T' r => T = T' ∧ ∃ x : Int, r = some (vI x) ∧ ((hsx_ T k = s ∧ ((0 < T 590 0 k ∧ x = asx_ T k) ∨ (T 590 0 k ≤ 0 ∧ x = -1))) ∨ (hsx_ T k ≠ s ∧ ((asx_ T k = s ∧ T 590 0 k < 2 ∧ x = hsx_ T k) ∨ (¬ (asx_ T k = s ∧ T 590 0 k < 2) ∧ x = -1))))
set_option maxHeartbeats 4000000 in
theorem ct_X9_takerOf_e {T : Zt} {k s : Int} (hq9 : Q9_ T) (hka : KA_ T) (hk : 0 ≤ k ∧ k < T 109 0 9) : Ct_ yX9_takerOf zX9_takerOf T [vR 109 0, vI k, vI s] (po_X9_takerOf_e T k s) := by
  refine ct_of pn_9 rfl rfl (Nat.le_of_ble_eq_true rfl) (fun hT hav => ?_)
  have hr_k : -2147483648 ≤ k ∧ k ≤ 2147483647 := hav (vI k) (List.mem_cons_of_mem _ List.mem_cons_self)
  have hr_s : -2147483648 ≤ s ∧ s ≤ 2147483647 := hav (vI s) (List.mem_cons_of_mem _ (List.mem_cons_of_mem _ List.mem_cons_self))
  have hz : zX9_takerOf.2.2.2.1 = some .boolean → ∀ (T' : Zt) (x : Int), po_X9_takerOf_e T k s T' (some (vI x)) → 0 ≤ x ∧ x ≤ 1 := fun h => by cases h
  have hbo : 0 ≤ T 109 0 9 ∧ T 109 0 9 ≤ 40 := bd_f hT 109 9 tl_9_9 0
  show J_ zX9_takerOf T (po_X9_takerOf_e T k s) 0 0 0 [some (vR 109 0), some (vI k), some (vI s)] [] T
  refine j_blx (F := fX9) tb_X9 (nn_ _) bk_X9_takerOf_e_0 bs_X9_takerOf_e_0 hz (fun K hK => ?_)
  refine hK 2 _ [vI k, vR 109 0] T ?_
  refine j_callV (y := yX9_homeSeatOf) (Yc := zX9_homeSeatOf) (rest := []) [vI k] (ct_X9_homeSeatOf (T := T) hq9 hka (by omega)) cl_X9_145 (qd_c (by decide +kernel)) (nn_ _) rfl (rf_of rfl) (Nat.le_of_ble_eq_true rfl) (Nat.le_of_ble_eq_true rfl) (Nat.le_of_ble_eq_true rfl) rfl ?_
  rintro _ _ ⟨rfl, x1, rfl, hx1⟩
  show J_ zX9_takerOf T (po_X9_takerOf_e T k s) 0 0 5 _ [vI x1] T
  refine j_blx (F := fX9) tb_X9 (nn_ _) bk_X9_takerOf_e_5 bs_X9_takerOf_e_5 hz (fun K hK => ?_)
  refine And.intro (fun c2 => ?_) (fun c2 => ?_)
  · refine hK 28 _ [] T ?_
    refine j_blx (F := fX9) tb_X9 (nn_ _) bk_X9_takerOf_e_28 bs_X9_takerOf_e_28 hz (fun K hK => ?_)
    refine hK 30 _ [vI k, vR 109 0] T ?_
    refine j_callV (y := yX9_awaySeatOf) (Yc := zX9_awaySeatOf) (rest := []) [vI k] (ct_X9_awaySeatOf (T := T) hq9 hka (by omega)) cl_X9_154 (qd_c (by decide +kernel)) (nn_ _) rfl (rf_of rfl) (Nat.le_of_ble_eq_true rfl) (Nat.le_of_ble_eq_true rfl) (Nat.le_of_ble_eq_true rfl) rfl ?_
    rintro _ _ ⟨rfl, x3, rfl, hx3⟩
    show J_ zX9_takerOf T (po_X9_takerOf_e T k s) 0 0 33 _ [vI x3] T
    refine j_blx (F := fX9) tb_X9 (nn_ _) bk_X9_takerOf_e_33 bs_X9_takerOf_e_33 hz (fun K hK => ?_)
    refine And.intro (fun c4 => ?_) (fun c4 => ?_)
    · refine hK 55 _ [] T ?_
      refine j_blx (F := fX9) tb_X9 (nn_ _) bk_X9_takerOf_e_55 bs_X9_takerOf_e_55 hz (fun K hK => ?_)
      refine (show po_X9_takerOf_e T k s T (some (vI (-1))) from ?_)
      exact ⟨rfl, _, rfl, by omega⟩
    · refine ix_i (by omega) ?_
      intro b5 b5b
      refine And.intro (fun c6 => ?_) (fun c6 => ?_)
      · refine hK 55 _ [] T ?_
        refine j_blx (F := fX9) tb_X9 (nn_ _) bk_X9_takerOf_e_55 bs_X9_takerOf_e_55 hz (fun K hK => ?_)
        refine (show po_X9_takerOf_e T k s T (some (vI (-1))) from ?_)
        exact ⟨rfl, _, rfl, by omega⟩
      · refine hK 49 _ [vI k, vR 109 0] T ?_
        refine j_callV (y := yX9_homeSeatOf) (Yc := zX9_homeSeatOf) (rest := []) [vI k] (ct_X9_homeSeatOf (T := T) hq9 hka (by omega)) cl_X9_145 (qd_c (by decide +kernel)) (nn_ _) rfl (rf_of rfl) (Nat.le_of_ble_eq_true rfl) (Nat.le_of_ble_eq_true rfl) (Nat.le_of_ble_eq_true rfl) rfl ?_
        rintro _ _ ⟨rfl, x7, rfl, hx7⟩
        show J_ zX9_takerOf T (po_X9_takerOf_e T k s) 0 0 52 _ [vI x7] T
        refine j_blx (F := fX9) tb_X9 (nn_ _) bk_X9_takerOf_e_52 bs_X9_takerOf_e_52 hz (fun K hK => ?_)
        refine hK 56 _ [vI x7] T ?_
        refine j_blx (F := fX9) tb_X9 (nn_ _) bk_X9_takerOf_e_56 bs_X9_takerOf_e_56 hz (fun K hK => ?_)
        refine (show po_X9_takerOf_e T k s T (some (vI x7)) from ?_)
        exact ⟨rfl, _, rfl, by omega⟩
  · refine ix_i (by omega) ?_
    intro b8 b8b
    refine And.intro (fun c9 => ?_) (fun c9 => ?_)
    · refine hK 26 _ [] T ?_
      refine j_blx (F := fX9) tb_X9 (nn_ _) bk_X9_takerOf_e_26 bs_X9_takerOf_e_26 hz (fun K hK => ?_)
      refine (show po_X9_takerOf_e T k s T (some (vI (-1))) from ?_)
      exact ⟨rfl, _, rfl, by omega⟩
    · refine hK 20 _ [vI k, vR 109 0] T ?_
      refine j_callV (y := yX9_awaySeatOf) (Yc := zX9_awaySeatOf) (rest := []) [vI k] (ct_X9_awaySeatOf (T := T) hq9 hka (by omega)) cl_X9_154 (qd_c (by decide +kernel)) (nn_ _) rfl (rf_of rfl) (Nat.le_of_ble_eq_true rfl) (Nat.le_of_ble_eq_true rfl) (Nat.le_of_ble_eq_true rfl) rfl ?_
      rintro _ _ ⟨rfl, x10, rfl, hx10⟩
      show J_ zX9_takerOf T (po_X9_takerOf_e T k s) 0 0 23 _ [vI x10] T
      refine j_blx (F := fX9) tb_X9 (nn_ _) bk_X9_takerOf_e_23 bs_X9_takerOf_e_23 hz (fun K hK => ?_)
      refine hK 27 _ [vI x10] T ?_
      refine j_blx (F := fX9) tb_X9 (nn_ _) bk_X9_takerOf_e_27 bs_X9_takerOf_e_27 hz (fun K hK => ?_)
      refine (show po_X9_takerOf_e T k s T (some (vI x10)) from ?_)
      exact ⟨rfl, _, rfl, by omega⟩
theorem bk_X9_shiftAlong_e_25 : ck_ fX9 none cX9_shiftAlong 25 [.iload 3, .iload 1, .if_icmp .eq 100, .iload 4, .iconst 12, .if_icmp .ge 100, .aload 0, .tableswitch 0 9 13 #[], .iload 3, .iaload, .istore 5, .aload 0, .iload 5] 48 = true := qck_r (nn_ _) (by decide +kernel)
theorem bs_X9_shiftAlong_e_25 {P : Zt → Option Zv → Prop} (K : Int → Zl → List Zv → Zt → Prop) : sx_ K P [.iload 3, .iload 1, .if_icmp .eq 100, .iload 4, .iconst 12, .if_icmp .ge 100, .aload 0, .tableswitch 0 9 13 #[], .iload 3, .iaload, .istore 5, .aload 0, .iload 5] 48 = x_iload 3 (x_iload 1 (x_if_icmp .eq 100 K (x_iload 4 (x_iconst 12 (x_if_icmp .ge 100 K (x_aload 0 (x_g1 109 593 (x_iload 3 (x_iaload (x_istore 5 (x_aload 0 (x_iload 5 (K 48))))))))))))) := ((xe_iload 3).trans (congrArg (x_iload 3) ((xe_iload 1).trans (congrArg (x_iload 1) ((xe_if_icmp .eq 100).trans (congrArg (x_if_icmp .eq 100 K) ((xe_iload 4).trans (congrArg (x_iload 4) ((xe_iconst 12).trans (congrArg (x_iconst 12) ((xe_if_icmp .ge 100).trans (congrArg (x_if_icmp .ge 100 K) ((xe_aload 0).trans (congrArg (x_aload 0) ((xe_g1 (kk := 109) rfl tl_9_13).trans (congrArg (x_g1 109 593) ((xe_iload 3).trans (congrArg (x_iload 3) ((xe_iaload).trans (congrArg (x_iaload) ((xe_istore 5).trans (congrArg (x_istore 5) ((xe_aload 0).trans (congrArg (x_aload 0) ((xe_iload 5).trans (congrArg (x_iload 5) xe_nil))))))))))))))))))))))))))
theorem bk_X9_shiftAlong_e_100 : ck_ fX9 none cX9_shiftAlong 100 [.return_] 101 = true := qck_r (nn_ _) (by decide +kernel)
theorem bs_X9_shiftAlong_e_100 {P : Zt → Option Zv → Prop} (K : Int → Zl → List Zv → Zt → Prop) : sx_ K P [.return_] 101 = x_return_ P := (xe_return_)
theorem bk_X9_shiftAlong_e_51 : ck_ fX9 none cX9_shiftAlong 51 [.iload 3, .if_icmp .ne 76, .aload 0, .tableswitch 0 9 10 #[], .iload 5, .dup2, .iaload, .iconst 1, .iadd, .iastore, .aload 0, .iload 5] 69 = true := qck_r (nn_ _) (by decide +kernel)
theorem bs_X9_shiftAlong_e_51 {P : Zt → Option Zv → Prop} (K : Int → Zl → List Zv → Zt → Prop) : sx_ K P [.iload 3, .if_icmp .ne 76, .aload 0, .tableswitch 0 9 10 #[], .iload 5, .dup2, .iaload, .iconst 1, .iadd, .iastore, .aload 0, .iload 5] 69 = x_iload 3 (x_if_icmp .ne 76 K (x_aload 0 (x_g1 109 590 (x_iload 5 (x_dup2 (x_iaload (x_iconst 1 (x_iadd (x_iastore (x_aload 0 (x_iload 5 (K 69)))))))))))) := ((xe_iload 3).trans (congrArg (x_iload 3) ((xe_if_icmp .ne 76).trans (congrArg (x_if_icmp .ne 76 K) ((xe_aload 0).trans (congrArg (x_aload 0) ((xe_g1 (kk := 109) rfl tl_9_10).trans (congrArg (x_g1 109 590) ((xe_iload 5).trans (congrArg (x_iload 5) ((xe_dup2).trans (congrArg (x_dup2) ((xe_iaload).trans (congrArg (x_iaload) ((xe_iconst 1).trans (congrArg (x_iconst 1) ((xe_iadd).trans (congrArg (x_iadd) ((xe_iastore).trans (congrArg (x_iastore) ((xe_aload 0).trans (congrArg (x_aload 0) ((xe_iload 5).trans (congrArg (x_iload 5) xe_nil))))))))))))))))))))))))
theorem bk_X9_shiftAlong_e_76 : ck_ fX9 none cX9_shiftAlong 76 [.aload 0, .tableswitch 0 9 10 #[], .iload 5, .dup2, .iaload, .iconst 1, .isub, .iastore, .aload 0, .iload 5] 90 = true := qck_r (nn_ _) (by decide +kernel)
theorem bs_X9_shiftAlong_e_76 {P : Zt → Option Zv → Prop} (K : Int → Zl → List Zv → Zt → Prop) : sx_ K P [.aload 0, .tableswitch 0 9 10 #[], .iload 5, .dup2, .iaload, .iconst 1, .isub, .iastore, .aload 0, .iload 5] 90 = x_aload 0 (x_g1 109 590 (x_iload 5 (x_dup2 (x_iaload (x_iconst 1 (x_isub (x_iastore (x_aload 0 (x_iload 5 (K 90)))))))))) := ((xe_aload 0).trans (congrArg (x_aload 0) ((xe_g1 (kk := 109) rfl tl_9_10).trans (congrArg (x_g1 109 590) ((xe_iload 5).trans (congrArg (x_iload 5) ((xe_dup2).trans (congrArg (x_dup2) ((xe_iaload).trans (congrArg (x_iaload) ((xe_iconst 1).trans (congrArg (x_iconst 1) ((xe_isub).trans (congrArg (x_isub) ((xe_iastore).trans (congrArg (x_iastore) ((xe_aload 0).trans (congrArg (x_aload 0) ((xe_iload 5).trans (congrArg (x_iload 5) xe_nil))))))))))))))))))))
theorem bk_X9_shiftAlong_e_93 : ck_ fX9 none cX9_shiftAlong 93 [.istore 3, .iinc 4 1, .goto 25] 100 = true := qck_r (nn_ _) (by decide +kernel)
theorem bs_X9_shiftAlong_e_93 {P : Zt → Option Zv → Prop} (K : Int → Zl → List Zv → Zt → Prop) : sx_ K P [.istore 3, .iinc 4 1, .goto 25] 100 = x_istore 3 (x_iinc 4 1 (x_goto 25 K)) := ((xe_istore 3).trans (congrArg (x_istore 3) ((xe_iinc 4 1).trans (congrArg (x_iinc 4 1) (xe_goto 25)))))
theorem bk_X9_shiftAlong_e_72 : ck_ fX9 none cX9_shiftAlong 72 [.istore 3, .goto 94] 76 = true := qck_r (nn_ _) (by decide +kernel)
theorem bs_X9_shiftAlong_e_72 {P : Zt → Option Zv → Prop} (K : Int → Zl → List Zv → Zt → Prop) : sx_ K P [.istore 3, .goto 94] 76 = x_istore 3 (x_goto 94 K) := ((xe_istore 3).trans (congrArg (x_istore 3) (xe_goto 94)))
theorem bk_X9_shiftAlong_e_94 : ck_ fX9 none cX9_shiftAlong 94 [.iinc 4 1, .goto 25] 100 = true := qck_r (nn_ _) (by decide +kernel)
theorem bs_X9_shiftAlong_e_94 {P : Zt → Option Zv → Prop} (K : Int → Zl → List Zv → Zt → Prop) : sx_ K P [.iinc 4 1, .goto 25] 100 = x_iinc 4 1 (x_goto 25 K) := ((xe_iinc 4 1).trans (congrArg (x_iinc 4 1) (xe_goto 25)))
theorem bk_X9_shiftAlong_e_0 : ck_ fX9 none cX9_shiftAlong 0 [.aload 0, .tableswitch 0 9 12 #[], .iload 1, .dup2, .iaload, .iconst 1, .isub, .iastore, .aload 0, .tableswitch 0 9 12 #[], .iload 2, .dup2, .iaload, .iconst 1, .iadd, .iastore, .iload 2, .istore 3, .iconst 0, .istore 4] 25 = true := qck_r (nn_ _) (by decide +kernel)
theorem bs_X9_shiftAlong_e_0 {P : Zt → Option Zv → Prop} (K : Int → Zl → List Zv → Zt → Prop) : sx_ K P [.aload 0, .tableswitch 0 9 12 #[], .iload 1, .dup2, .iaload, .iconst 1, .isub, .iastore, .aload 0, .tableswitch 0 9 12 #[], .iload 2, .dup2, .iaload, .iconst 1, .iadd, .iastore, .iload 2, .istore 3, .iconst 0, .istore 4] 25 = x_aload 0 (x_g1 109 592 (x_iload 1 (x_dup2 (x_iaload (x_iconst 1 (x_isub (x_iastore (x_aload 0 (x_g1 109 592 (x_iload 2 (x_dup2 (x_iaload (x_iconst 1 (x_iadd (x_iastore (x_iload 2 (x_istore 3 (x_iconst 0 (x_istore 4 (K 25)))))))))))))))))))) := ((xe_aload 0).trans (congrArg (x_aload 0) ((xe_g1 (kk := 109) rfl tl_9_12).trans (congrArg (x_g1 109 592) ((xe_iload 1).trans (congrArg (x_iload 1) ((xe_dup2).trans (congrArg (x_dup2) ((xe_iaload).trans (congrArg (x_iaload) ((xe_iconst 1).trans (congrArg (x_iconst 1) ((xe_isub).trans (congrArg (x_isub) ((xe_iastore).trans (congrArg (x_iastore) ((xe_aload 0).trans (congrArg (x_aload 0) ((xe_g1 (kk := 109) rfl tl_9_12).trans (congrArg (x_g1 109 592) ((xe_iload 2).trans (congrArg (x_iload 2) ((xe_dup2).trans (congrArg (x_dup2) ((xe_iaload).trans (congrArg (x_iaload) ((xe_iconst 1).trans (congrArg (x_iconst 1) ((xe_iadd).trans (congrArg (x_iadd) ((xe_iastore).trans (congrArg (x_iastore) ((xe_iload 2).trans (congrArg (x_iload 2) ((xe_istore 3).trans (congrArg (x_istore 3) ((xe_iconst 0).trans (congrArg (x_iconst 0) ((xe_istore 4).trans (congrArg (x_istore 4) xe_nil))))))))))))))))))))))))))))))))))))))))
abbrev po_X9_shiftAlong_e (T : Zt) (f : Int) (m : Int) (tl : Int) (s e : Int) : Zt → Option Zv → Prop := fun T' r => r = none ∧ fr_ [(592, []), (590, [])] T T' ∧ ((∀ v, T' 592 0 v = T 592 0 v + un7_ v e - un7_ v s) ∧ GB7_ (hsx_ T) (asx_ T) (fun j => T 590 0 j) (fun j => T' 590 0 j) f (T 109 0 9) e s)
set_option maxHeartbeats 4000000 in
theorem ct_X9_shiftAlong_e {T : Zt} {f : Int} {m : Int} {tl : Int} {s e : Int} (hq9 : Q9_ T) (hka : KA_ T) (hs : 0 ≤ s ∧ s < m) (h0 : 0 ≤ f) (hm : m ≤ 12) (hB : BF7_ (hsx_ T) (asx_ T) (fun j => T 590 0 j) s f (T 109 0 9) m (fun j => T 593 0 j) (fun j => T 594 0 j) tl) (htl : tl ≤ 12) (he : 0 ≤ e ∧ e < m ∧ ∃ i, (0 ≤ i ∧ i < tl) ∧ T 594 0 i = e) (hes : e ≠ s) (hne : ∀ k, f ≤ k → k < T 109 0 9 → hsx_ T k ≠ asx_ T k) (hrg : ∀ k, f ≤ k → k < T 109 0 9 → 0 ≤ T 590 0 k ∧ T 590 0 k ≤ 2) (hlb : ∀ v, 0 ≤ v → v < m → -1000 ≤ T 592 0 v ∧ T 592 0 v ≤ 1000) : Ct_ yX9_shiftAlong zX9_shiftAlong T [vR 109 0, vI s, vI e] (po_X9_shiftAlong_e T f m tl s e) := by
  refine ct_of pn_9 rfl rfl (Nat.le_of_ble_eq_true rfl) (fun hT hav => ?_)
  have hr_s : -2147483648 ≤ s ∧ s ≤ 2147483647 := hav (vI s) (List.mem_cons_of_mem _ List.mem_cons_self)
  have hr_e : -2147483648 ≤ e ∧ e ≤ 2147483647 := hav (vI e) (List.mem_cons_of_mem _ (List.mem_cons_of_mem _ List.mem_cons_self))
  have hz : zX9_shiftAlong.2.2.2.1 = some .boolean → ∀ (T' : Zt) (x : Int), po_X9_shiftAlong_e T f m tl s e T' (some (vI x)) → 0 ≤ x ∧ x ≤ 1 := fun h => by cases h
  have hbo : 0 ≤ T 109 0 9 ∧ T 109 0 9 ≤ 40 := bd_f hT 109 9 tl_9_9 0
  have y0 := hlb s (by omega) (by omega)
  have he1 := he.1
  have he2 := he.2.1
  obtain ⟨i0, hi0⟩ := he.2.2
  clear he
  show J_ zX9_shiftAlong T (po_X9_shiftAlong_e T f m tl s e) 0 0 0 [some (vR 109 0), some (vI s), some (vI e), none, none, none] [] T
  have c_25 : ∀ (nn : Nat) (a : Int) (st : Int) (i : Int) (T1 : Zt), ((12 - st).toNat) ≤ nn → (fr_ [(592, []), (590, [])] T T1) → (0 ≤ st ∧ 0 ≤ i ∧ i < tl ∧ i + st ≤ 11 ∧ 0 ≤ a ∧ a < 12) → (T 594 0 i = a) → (∀ v, T1 592 0 v = T 592 0 v + un7_ v e - un7_ v s) → (GB7_ (hsx_ T) (asx_ T) (fun j => T 590 0 j) (fun j => T1 590 0 j) f (T 109 0 9) e a) → (∀ j, 1 ≤ j → j ≤ i → T1 590 0 (T 593 0 (T 594 0 j)) = T 590 0 (T 593 0 (T 594 0 j))) → J_ zX9_shiftAlong T (po_X9_shiftAlong_e T f m tl s e) 0 0 25 [some (vR 109 0), some (vI s), some (vI e), some (vI a), some (vI st), none] [] T1 := by
    intro nn
    induction nn using Nat.strongRecOn with
    | _ nn ih_25 =>
      intro a st i T1 hm_25 hf_25 i1 ia ld1 gb1 un1
      replace hm_25 := fun (_ : Unit) => hm_25
      refine j_blx (F := fX9) tb_X9 (nn_ _) bk_X9_shiftAlong_e_25 bs_X9_shiftAlong_e_25 hz (fun K hK => ?_)
      refine And.intro (fun c1 => ?_) (fun c1 => ?_)
      · refine hK 100 _ [] T1 ?_
        refine j_blx (F := fX9) tb_X9 (nn_ _) bk_X9_shiftAlong_e_100 bs_X9_shiftAlong_e_100 hz (fun K hK => ?_)
        refine (show po_X9_shiftAlong_e T f m tl s e T1 (none) from ?_)
        have ea : a = s := by omega
        rw [ea] at gb1
        exact ⟨rfl, fr_t (fr_0 _ _) (fr_s hf_25 rfl), ld1, gb1⟩
      · refine And.intro (fun c2 => ?_) (fun c2 => ?_)
        · exfalso; omega
        · refine ix_i (by omega) ?_
          intro b3 b3b
          have e4 : T1 593 0 a = T 593 0 a := hf_25 593 0 a rfl
          rw [e4] at b3 b3b ⊢
          refine hK 48 [some (vR 109 0), some (vI s), some (vI e), some (vI a), some (vI st), some (vI (T 593 0 a))] [vI (T 593 0 a), vR 109 0] T1 ?_
          have q0 : T 594 0 0 = s := hB.1.2
          have i9 : 1 ≤ i := by
            rcases (by omega : i = 0 ∨ 1 ≤ i) with z | z
            · rw [z] at ia
              omega
            · exact z
          have a9 : (0 ≤ T 594 0 i ∧ T 594 0 i < m) ∧ T 593 0 (T 594 0 i) ≠ -1 := hB.2.1 i (by omega) (by omega)
          rw [ia] at a9
          obtain ⟨hv8, j9, hj9, P9⟩ := hB.2.2.2.2 i i9 (by omega)
          have hv9 : f ≤ T 593 0 a ∧ T 593 0 a < T 109 0 9 := by rw [← ia]; exact hv8
          have P8 : (hsx_ T (T 593 0 a) = a ∧ asx_ T (T 593 0 a) = T 594 0 j9 ∧ T 590 0 (T 593 0 a) < 2) ∨ (asx_ T (T 593 0 a) = a ∧ hsx_ T (T 593 0 a) = T 594 0 j9 ∧ 0 < T 590 0 (T 593 0 a)) := by rw [← ia]; exact P9
          have u9 : T1 590 0 (T 593 0 a) = T 590 0 (T 593 0 a) := by rw [← ia]; exact un1 i i9 (Int.le_refl _)
          have ne9 := hne (T 593 0 a) hv9.1 hv9.2
          have r9 : 0 ≤ T1 590 0 (T 593 0 a) ∧ T1 590 0 (T 593 0 a) ≤ 2 := gb1.2.1 _ hv9.1 hv9.2
          have fq5 : fr_ [(592, []), (590, [])] T T1 := fr_t (fr_0 _ _) (fr_s hf_25 rfl)
          have e6 : T1 109 0 9 = T 109 0 9 := hf_25 109 0 9 rfl
          refine j_callV (y := yX9_homeSeatOf) (Yc := zX9_homeSeatOf) (rest := []) [vI (T 593 0 a)] (ct_X9_homeSeatOf (T := T1) (q9_f hq9 fq5 ⟨fun _ _ => rfl, fun _ => rfl, rfl, rfl, rfl, rfl, rfl⟩) (KA__f (ws := [(592, []), (590, [])]) hka (fr_t (fr_0 _ _) (fr_s hf_25 rfl)) ⟨fun _ => rfl, fun _ => rfl, rfl, rfl, trivial⟩) (by omega)) cl_X9_145 (qd_c (by decide +kernel)) (nn_ _) rfl (rf_of rfl) (Nat.le_of_ble_eq_true rfl) (Nat.le_of_ble_eq_true rfl) (Nat.le_of_ble_eq_true rfl) rfl ?_
          rintro _ _ ⟨rfl, x7, rfl, hx7⟩
          have e8 : hsx_ T1 (T 593 0 a) = hsx_ T (T 593 0 a) := hsx_e fq5 ⟨fun _ _ => rfl, fun _ => rfl, rfl, rfl, rfl, rfl, rfl⟩ _
          show J_ zX9_shiftAlong T (po_X9_shiftAlong_e T f m tl s e) 0 0 51 _ [vI x7] T1
          refine j_blx (F := fX9) tb_X9 (nn_ _) bk_X9_shiftAlong_e_51 bs_X9_shiftAlong_e_51 hz (fun K hK => ?_)
          refine And.intro (fun c9 => ?_) (fun c9 => ?_)
          · refine hK 76 _ [] T1 ?_
            refine j_blx (F := fX9) tb_X9 (nn_ _) bk_X9_shiftAlong_e_76 bs_X9_shiftAlong_e_76 hz (fun K hK => ?_)
            refine ix_i (by omega) ?_
            intro b10 b10b
            refine rg_i (by omega) ?_
            refine iy_i (by omega) (by omega) ?_
            refine x_nm (fun U11 hU11 => ?_)
            have e12 := up_f hU11
            refine hK 90 _ [vI (T 593 0 a), vR 109 0] U11 ?_
            have fq13 : fr_ [(590, []), (592, [])] T U11 := fr_u (fr_t (fr_0 _ _) (fr_s hf_25 rfl)) hU11 rfl
            have e14 : U11 109 0 9 = T 109 0 9 := (up_k hU11 (by exact Nat.ne_of_beq_eq_false rfl) 0 9).trans (hf_25 109 0 9 rfl)
            refine j_callV (y := yX9_homeSeatOf) (Yc := zX9_homeSeatOf) (rest := []) [vI (T 593 0 a)] (ct_X9_homeSeatOf (T := U11) (q9_f hq9 fq13 ⟨fun _ _ => rfl, fun _ => rfl, rfl, rfl, rfl, rfl, rfl⟩) (KA__f (ws := [(590, []), (592, [])]) hka (fr_u (fr_t (fr_0 _ _) (fr_s hf_25 rfl)) hU11 rfl) ⟨fun _ => rfl, fun _ => rfl, rfl, rfl, trivial⟩) (by omega)) cl_X9_145 (qd_c (by decide +kernel)) (nn_ _) rfl (rf_of rfl) (Nat.le_of_ble_eq_true rfl) (Nat.le_of_ble_eq_true rfl) (Nat.le_of_ble_eq_true rfl) rfl ?_
            rintro _ _ ⟨rfl, x15, rfl, hx15⟩
            have e16 : hsx_ U11 (T 593 0 a) = hsx_ T (T 593 0 a) := hsx_e fq13 ⟨fun _ _ => rfl, fun _ => rfl, rfl, rfl, rfl, rfl, rfl⟩ _
            show J_ zX9_shiftAlong T (po_X9_shiftAlong_e T f m tl s e) 0 0 93 _ [vI x15] U11
            refine j_blx (F := fX9) tb_X9 (nn_ _) bk_X9_shiftAlong_e_93 bs_X9_shiftAlong_e_93 hz (fun K hK => ?_)
            refine rg_i (by omega) ?_
            refine hK 25 [some (vR 109 0), some (vI s), some (vI e), some (vI x15), some (vI (st + 1)), some (vI (T 593 0 a))] [] U11 ?_
            refine j_drq [some (vR 109 0), some (vI s), some (vI e), some (vI x15), some (vI (st + 1)), none] (drq_s (drq_s (drq_s (drq_s (drq_s (drq_n drq_0)))))) ?_
            refine ih_25 _ ?_ x15 (st + 1) j9 U11 (Nat.le_refl _) ?_ ?_ ?_ ?_ ?_ ?_
            · have hm_25 := hm_25 (); omega
            · exact fr_u (fr_t (fr_0 _ _) (fr_s hf_25 rfl)) hU11 rfl
            · omega
            · omega
            · exact fun v => (up_k hU11 (by exact Nat.ne_of_beq_eq_false rfl) _ _).trans (ld1 v)
            · first
              | exact gb7_s gb1 hv9 ne9 (Or.inl ⟨by omega, by omega, by show T1 590 0 (T 593 0 a) < 2; omega, fun j => by
                    show U11 590 0 j = fu_ (fun j => T1 590 0 j) (T 593 0 a) (T1 590 0 (T 593 0 a) + 1) j
                    by_cases z : j = T 593 0 a
                    · rw [z, fu_s]; exact up_f hU11
                    · rw [fu_n z]; exact up_g hU11 (fun q => z q.2.2)⟩)
              | exact gb7_s gb1 hv9 ne9 (Or.inr ⟨by omega, by omega, by show 0 < T1 590 0 (T 593 0 a); omega, fun j => by
                    show U11 590 0 j = fu_ (fun j => T1 590 0 j) (T 593 0 a) (T1 590 0 (T 593 0 a) - 1) j
                    by_cases z : j = T 593 0 a
                    · rw [z, fu_s]; exact up_f hU11
                    · rw [fu_n z]; exact up_g hU11 (fun q => z q.2.2)⟩)
            · intro j p q
              rw [up_g hU11 (fun z => bf7_d hB (i := j) (j := i) p (by omega) (by omega) (by
                show T 593 0 (T 594 0 j) = T 593 0 (T 594 0 i)
                rw [ia]; exact z.2.2))]
              exact un1 j p (by omega)
          · refine ix_i (by omega) ?_
            intro b17 b17b
            refine rg_i (by omega) ?_
            refine iy_i (by omega) (by omega) ?_
            refine x_nm (fun U18 hU18 => ?_)
            have e19 := up_f hU18
            refine hK 69 [some (vR 109 0), some (vI s), some (vI e), some (vI a), some (vI st), some (vI (T 593 0 a))] [vI (T 593 0 a), vR 109 0] U18 ?_
            have fq20 : fr_ [(590, []), (592, [])] T U18 := fr_u (fr_t (fr_0 _ _) (fr_s hf_25 rfl)) hU18 rfl
            have e21 : U18 109 0 9 = T 109 0 9 := (up_k hU18 (by exact Nat.ne_of_beq_eq_false rfl) 0 9).trans (hf_25 109 0 9 rfl)
            refine j_callV (y := yX9_awaySeatOf) (Yc := zX9_awaySeatOf) (rest := []) [vI (T 593 0 a)] (ct_X9_awaySeatOf (T := U18) (q9_f hq9 fq20 ⟨fun _ _ => rfl, fun _ => rfl, rfl, rfl, rfl, rfl, rfl⟩) (KA__f (ws := [(590, []), (592, [])]) hka (fr_u (fr_t (fr_0 _ _) (fr_s hf_25 rfl)) hU18 rfl) ⟨fun _ => rfl, fun _ => rfl, rfl, rfl, trivial⟩) (by omega)) cl_X9_154 (qd_c (by decide +kernel)) (nn_ _) rfl (rf_of rfl) (Nat.le_of_ble_eq_true rfl) (Nat.le_of_ble_eq_true rfl) (Nat.le_of_ble_eq_true rfl) rfl ?_
            rintro _ _ ⟨rfl, x22, rfl, hx22⟩
            have e23 : asx_ U18 (T 593 0 a) = asx_ T (T 593 0 a) := asx_e fq20 ⟨fun _ _ => rfl, fun _ => rfl, rfl, rfl, rfl, rfl, rfl⟩ _
            show J_ zX9_shiftAlong T (po_X9_shiftAlong_e T f m tl s e) 0 0 72 _ [vI x22] U18
            refine j_blx (F := fX9) tb_X9 (nn_ _) bk_X9_shiftAlong_e_72 bs_X9_shiftAlong_e_72 hz (fun K hK => ?_)
            refine hK 94 [some (vR 109 0), some (vI s), some (vI e), some (vI x22), some (vI st), some (vI (T 593 0 a))] [] U18 ?_
            refine j_blx (F := fX9) tb_X9 (nn_ _) bk_X9_shiftAlong_e_94 bs_X9_shiftAlong_e_94 hz (fun K hK => ?_)
            refine rg_i (by omega) ?_
            refine hK 25 [some (vR 109 0), some (vI s), some (vI e), some (vI x22), some (vI (st + 1)), some (vI (T 593 0 a))] [] U18 ?_
            refine j_drq [some (vR 109 0), some (vI s), some (vI e), some (vI x22), some (vI (st + 1)), none] (drq_s (drq_s (drq_s (drq_s (drq_s (drq_n drq_0)))))) ?_
            refine ih_25 _ ?_ x22 (st + 1) j9 U18 (Nat.le_refl _) ?_ ?_ ?_ ?_ ?_ ?_
            · have hm_25 := hm_25 (); omega
            · exact fr_u (fr_t (fr_0 _ _) (fr_s hf_25 rfl)) hU18 rfl
            · omega
            · omega
            · exact fun v => (up_k hU18 (by exact Nat.ne_of_beq_eq_false rfl) _ _).trans (ld1 v)
            · first
              | exact gb7_s gb1 hv9 ne9 (Or.inl ⟨by omega, by omega, by show T1 590 0 (T 593 0 a) < 2; omega, fun j => by
                    show U18 590 0 j = fu_ (fun j => T1 590 0 j) (T 593 0 a) (T1 590 0 (T 593 0 a) + 1) j
                    by_cases z : j = T 593 0 a
                    · rw [z, fu_s]; exact up_f hU18
                    · rw [fu_n z]; exact up_g hU18 (fun q => z q.2.2)⟩)
              | exact gb7_s gb1 hv9 ne9 (Or.inr ⟨by omega, by omega, by show 0 < T1 590 0 (T 593 0 a); omega, fun j => by
                    show U18 590 0 j = fu_ (fun j => T1 590 0 j) (T 593 0 a) (T1 590 0 (T 593 0 a) - 1) j
                    by_cases z : j = T 593 0 a
                    · rw [z, fu_s]; exact up_f hU18
                    · rw [fu_n z]; exact up_g hU18 (fun q => z q.2.2)⟩)
            · intro j p q
              rw [up_g hU18 (fun z => bf7_d hB (i := j) (j := i) p (by omega) (by omega) (by
                show T 593 0 (T 594 0 j) = T 593 0 (T 594 0 i)
                rw [ia]; exact z.2.2))]
              exact un1 j p (by omega)
  refine j_blx (F := fX9) tb_X9 (nn_ _) bk_X9_shiftAlong_e_0 bs_X9_shiftAlong_e_0 hz (fun K hK => ?_)
  refine ix_i (by omega) ?_
  intro b24 b24b
  refine rg_i (by omega) ?_
  refine iy_i (by omega) (by omega) ?_
  refine x_nm (fun U25 hU25 => ?_)
  have e26 := up_f hU25
  refine ix_i (by omega) ?_
  intro b27 b27b
  have y9 : U25 592 0 e = T 592 0 e := up_g hU25 (fun q => hes q.2.2)
  have y8 := hlb e (by omega) (by omega)
  refine rg_i (by omega) ?_
  refine iy_i (by omega) (by omega) ?_
  refine x_nm (fun U28 hU28 => ?_)
  have e29 := up_f hU28
  refine hK 25 [some (vR 109 0), some (vI s), some (vI e), some (vI e), some (vI 0), none] [] U28 ?_
  refine c_25 _ e 0 i0 U28 (Nat.le_refl _) ?_ ?_ ?_ ?_ ?_ ?_
  · exact fr_u (fr_u (fr_0 _ _) hU25 rfl) hU28 rfl
  · have y9 := hi0.1
    omega
  · exact hi0.2
  · exact ld7_2 hU25 hU28 hes
  · have eh : (fun j => U28 590 0 j) = (fun j => T 590 0 j) := funext (fun j => (up_k hU28 (by exact Nat.ne_of_beq_eq_false rfl) 0 j).trans (up_k hU25 (by exact Nat.ne_of_beq_eq_false rfl) 0 j))
    rw [eh]
    exact gb7_0 hrg
  · exact fun j _ _ => (up_k hU28 (by exact Nat.ne_of_beq_eq_false rfl) 0 _).trans (up_k hU25 (by exact Nat.ne_of_beq_eq_false rfl) 0 _)
theorem bk_X9_relieve_e_82 : ck_ fX9 (some .boolean) cX9_relieve 82 [.iload 6, .aload 0, .tableswitch 0 9 9 #[], .if_icmp .ge 152, .aload 0, .iload 6, .iload 5] 96 = true := qck_r (nn_ _) (by decide +kernel)
theorem bs_X9_relieve_e_82 {P : Zt → Option Zv → Prop} (K : Int → Zl → List Zv → Zt → Prop) : sx_ K P [.iload 6, .aload 0, .tableswitch 0 9 9 #[], .if_icmp .ge 152, .aload 0, .iload 6, .iload 5] 96 = x_iload 6 (x_aload 0 (x_g0 109 9 0 40 (x_if_icmp .ge 152 K (x_aload 0 (x_iload 6 (x_iload 5 (K 96))))))) := ((xe_iload 6).trans (congrArg (x_iload 6) ((xe_aload 0).trans (congrArg (x_aload 0) ((xe_g0 (kk := 109) rfl tl_9_9).trans (congrArg (x_g0 109 9 0 40) ((xe_if_icmp .ge 152).trans (congrArg (x_if_icmp .ge 152 K) ((xe_aload 0).trans (congrArg (x_aload 0) ((xe_iload 6).trans (congrArg (x_iload 6) ((xe_iload 5).trans (congrArg (x_iload 5) xe_nil))))))))))))))
theorem bk_X9_relieve_e_152 : ck_ fX9 (some .boolean) cX9_relieve 152 [.goto 30] 155 = true := qck_r (nn_ _) (by decide +kernel)
theorem bs_X9_relieve_e_152 {P : Zt → Option Zv → Prop} (K : Int → Zl → List Zv → Zt → Prop) : sx_ K P [.goto 30] 155 = x_goto 30 K := (xe_goto 30)
theorem bk_X9_relieve_e_99 : ck_ fX9 (some .boolean) cX9_relieve 99 [.istore 7, .iload 7, .iconst (-1), .if_icmp .eq 146, .aload 0, .tableswitch 0 9 13 #[], .iload 7, .iaload, .iconst (-1), .if_icmp .ne 146, .iload 4, .iconst 12, .if_icmp .ge 146, .aload 0, .tableswitch 0 9 13 #[], .iload 7, .iload 6, .iastore, .aload 0, .tableswitch 0 9 14 #[], .iload 4, .iload 7, .iastore, .iinc 4 1, .iinc 6 1, .goto 82] 152 = true := qck_r (nn_ _) (by decide +kernel)
theorem bs_X9_relieve_e_99 {P : Zt → Option Zv → Prop} (K : Int → Zl → List Zv → Zt → Prop) : sx_ K P [.istore 7, .iload 7, .iconst (-1), .if_icmp .eq 146, .aload 0, .tableswitch 0 9 13 #[], .iload 7, .iaload, .iconst (-1), .if_icmp .ne 146, .iload 4, .iconst 12, .if_icmp .ge 146, .aload 0, .tableswitch 0 9 13 #[], .iload 7, .iload 6, .iastore, .aload 0, .tableswitch 0 9 14 #[], .iload 4, .iload 7, .iastore, .iinc 4 1, .iinc 6 1, .goto 82] 152 = x_istore 7 (x_iload 7 (x_iconst (-1) (x_if_icmp .eq 146 K (x_aload 0 (x_g1 109 593 (x_iload 7 (x_iaload (x_iconst (-1) (x_if_icmp .ne 146 K (x_iload 4 (x_iconst 12 (x_if_icmp .ge 146 K (x_aload 0 (x_g1 109 593 (x_iload 7 (x_iload 6 (x_iastore (x_aload 0 (x_g1 109 594 (x_iload 4 (x_iload 7 (x_iastore (x_iinc 4 1 (x_iinc 6 1 (x_goto 82 K))))))))))))))))))))))))) := ((xe_istore 7).trans (congrArg (x_istore 7) ((xe_iload 7).trans (congrArg (x_iload 7) ((xe_iconst (-1)).trans (congrArg (x_iconst (-1)) ((xe_if_icmp .eq 146).trans (congrArg (x_if_icmp .eq 146 K) ((xe_aload 0).trans (congrArg (x_aload 0) ((xe_g1 (kk := 109) rfl tl_9_13).trans (congrArg (x_g1 109 593) ((xe_iload 7).trans (congrArg (x_iload 7) ((xe_iaload).trans (congrArg (x_iaload) ((xe_iconst (-1)).trans (congrArg (x_iconst (-1)) ((xe_if_icmp .ne 146).trans (congrArg (x_if_icmp .ne 146 K) ((xe_iload 4).trans (congrArg (x_iload 4) ((xe_iconst 12).trans (congrArg (x_iconst 12) ((xe_if_icmp .ge 146).trans (congrArg (x_if_icmp .ge 146 K) ((xe_aload 0).trans (congrArg (x_aload 0) ((xe_g1 (kk := 109) rfl tl_9_13).trans (congrArg (x_g1 109 593) ((xe_iload 7).trans (congrArg (x_iload 7) ((xe_iload 6).trans (congrArg (x_iload 6) ((xe_iastore).trans (congrArg (x_iastore) ((xe_aload 0).trans (congrArg (x_aload 0) ((xe_g1 (kk := 109) rfl tl_9_14).trans (congrArg (x_g1 109 594) ((xe_iload 4).trans (congrArg (x_iload 4) ((xe_iload 7).trans (congrArg (x_iload 7) ((xe_iastore).trans (congrArg (x_iastore) ((xe_iinc 4 1).trans (congrArg (x_iinc 4 1) ((xe_iinc 6 1).trans (congrArg (x_iinc 6 1) (xe_goto 82)))))))))))))))))))))))))))))))))))))))))))))))))))
theorem bk_X9_relieve_e_146 : ck_ fX9 (some .boolean) cX9_relieve 146 [.iinc 6 1, .goto 82] 152 = true := qck_r (nn_ _) (by decide +kernel)
theorem bs_X9_relieve_e_146 {P : Zt → Option Zv → Prop} (K : Int → Zl → List Zv → Zt → Prop) : sx_ K P [.iinc 6 1, .goto 82] 152 = x_iinc 6 1 (x_goto 82 K) := ((xe_iinc 6 1).trans (congrArg (x_iinc 6 1) (xe_goto 82)))
theorem bk_X9_relieve_e_30 : ck_ fX9 (some .boolean) cX9_relieve 30 [.iload 3, .iload 4, .if_icmp .ge 155, .iload 3, .iconst 12, .if_icmp .ge 155, .aload 0, .tableswitch 0 9 14 #[], .iload 3, .iaload, .istore 5, .iinc 3 1, .aload 0, .tableswitch 0 9 12 #[], .iload 5, .iaload, .aload 0, .tableswitch 0 9 11 #[], .iload 5, .iaload, .if_icmp .ge 79, .aload 0, .iload 1, .iload 5] 74 = true := qck_r (nn_ _) (by decide +kernel)
theorem bs_X9_relieve_e_30 {P : Zt → Option Zv → Prop} (K : Int → Zl → List Zv → Zt → Prop) : sx_ K P [.iload 3, .iload 4, .if_icmp .ge 155, .iload 3, .iconst 12, .if_icmp .ge 155, .aload 0, .tableswitch 0 9 14 #[], .iload 3, .iaload, .istore 5, .iinc 3 1, .aload 0, .tableswitch 0 9 12 #[], .iload 5, .iaload, .aload 0, .tableswitch 0 9 11 #[], .iload 5, .iaload, .if_icmp .ge 79, .aload 0, .iload 1, .iload 5] 74 = x_iload 3 (x_iload 4 (x_if_icmp .ge 155 K (x_iload 3 (x_iconst 12 (x_if_icmp .ge 155 K (x_aload 0 (x_g1 109 594 (x_iload 3 (x_iaload (x_istore 5 (x_iinc 3 1 (x_aload 0 (x_g1 109 592 (x_iload 5 (x_iaload (x_aload 0 (x_g1 109 591 (x_iload 5 (x_iaload (x_if_icmp .ge 79 K (x_aload 0 (x_iload 1 (x_iload 5 (K 74)))))))))))))))))))))))) := ((xe_iload 3).trans (congrArg (x_iload 3) ((xe_iload 4).trans (congrArg (x_iload 4) ((xe_if_icmp .ge 155).trans (congrArg (x_if_icmp .ge 155 K) ((xe_iload 3).trans (congrArg (x_iload 3) ((xe_iconst 12).trans (congrArg (x_iconst 12) ((xe_if_icmp .ge 155).trans (congrArg (x_if_icmp .ge 155 K) ((xe_aload 0).trans (congrArg (x_aload 0) ((xe_g1 (kk := 109) rfl tl_9_14).trans (congrArg (x_g1 109 594) ((xe_iload 3).trans (congrArg (x_iload 3) ((xe_iaload).trans (congrArg (x_iaload) ((xe_istore 5).trans (congrArg (x_istore 5) ((xe_iinc 3 1).trans (congrArg (x_iinc 3 1) ((xe_aload 0).trans (congrArg (x_aload 0) ((xe_g1 (kk := 109) rfl tl_9_12).trans (congrArg (x_g1 109 592) ((xe_iload 5).trans (congrArg (x_iload 5) ((xe_iaload).trans (congrArg (x_iaload) ((xe_aload 0).trans (congrArg (x_aload 0) ((xe_g1 (kk := 109) rfl tl_9_11).trans (congrArg (x_g1 109 591) ((xe_iload 5).trans (congrArg (x_iload 5) ((xe_iaload).trans (congrArg (x_iaload) ((xe_if_icmp .ge 79).trans (congrArg (x_if_icmp .ge 79 K) ((xe_aload 0).trans (congrArg (x_aload 0) ((xe_iload 1).trans (congrArg (x_iload 1) ((xe_iload 5).trans (congrArg (x_iload 5) xe_nil))))))))))))))))))))))))))))))))))))))))))))))))
theorem bk_X9_relieve_e_155 : ck_ fX9 (some .boolean) cX9_relieve 155 [.iconst 0, .ireturn] 157 = true := qck_r (nn_ _) (by decide +kernel)
theorem bs_X9_relieve_e_155 {P : Zt → Option Zv → Prop} (K : Int → Zl → List Zv → Zt → Prop) : sx_ K P [.iconst 0, .ireturn] 157 = x_iconst 0 (x_ireturn P) := ((xe_iconst 0).trans (congrArg (x_iconst 0) (xe_ireturn)))
theorem bk_X9_relieve_e_79 : ck_ fX9 (some .boolean) cX9_relieve 79 [.iload 2, .istore 6] 82 = true := qck_r (nn_ _) (by decide +kernel)
theorem bs_X9_relieve_e_79 {P : Zt → Option Zv → Prop} (K : Int → Zl → List Zv → Zt → Prop) : sx_ K P [.iload 2, .istore 6] 82 = x_iload 2 (x_istore 6 (K 82)) := ((xe_iload 2).trans (congrArg (x_iload 2) ((xe_istore 6).trans (congrArg (x_istore 6) xe_nil))))
theorem bk_X9_relieve_e_77 : ck_ fX9 (some .boolean) cX9_relieve 77 [.iconst 1, .ireturn] 79 = true := qck_r (nn_ _) (by decide +kernel)
theorem bs_X9_relieve_e_77 {P : Zt → Option Zv → Prop} (K : Int → Zl → List Zv → Zt → Prop) : sx_ K P [.iconst 1, .ireturn] 79 = x_iconst 1 (x_ireturn P) := ((xe_iconst 1).trans (congrArg (x_iconst 1) (xe_ireturn)))
theorem bk_X9_relieve_e_0 : ck_ fX9 (some .boolean) cX9_relieve 0 [.aload 0, .tableswitch 0 9 13 #[], .iconst (-1)] 5 = true := qck_r (nn_ _) (by decide +kernel)
theorem bs_X9_relieve_e_0 {P : Zt → Option Zv → Prop} (K : Int → Zl → List Zv → Zt → Prop) : sx_ K P [.aload 0, .tableswitch 0 9 13 #[], .iconst (-1)] 5 = x_aload 0 (x_g1 109 593 (x_iconst (-1) (K 5))) := ((xe_aload 0).trans (congrArg (x_aload 0) ((xe_g1 (kk := 109) rfl tl_9_13).trans (congrArg (x_g1 109 593) ((xe_iconst (-1)).trans (congrArg (x_iconst (-1)) xe_nil))))))
theorem bk_X9_relieve_e_8 : ck_ fX9 (some .boolean) cX9_relieve 8 [.iconst 0, .istore 3, .iconst 1, .istore 4, .aload 0, .tableswitch 0 9 14 #[], .iconst 0, .iload 1, .iastore, .aload 0, .tableswitch 0 9 13 #[], .iload 1, .aload 0, .tableswitch 0 9 9 #[], .iastore] 30 = true := qck_r (nn_ _) (by decide +kernel)
theorem bs_X9_relieve_e_8 {P : Zt → Option Zv → Prop} (K : Int → Zl → List Zv → Zt → Prop) : sx_ K P [.iconst 0, .istore 3, .iconst 1, .istore 4, .aload 0, .tableswitch 0 9 14 #[], .iconst 0, .iload 1, .iastore, .aload 0, .tableswitch 0 9 13 #[], .iload 1, .aload 0, .tableswitch 0 9 9 #[], .iastore] 30 = x_iconst 0 (x_istore 3 (x_iconst 1 (x_istore 4 (x_aload 0 (x_g1 109 594 (x_iconst 0 (x_iload 1 (x_iastore (x_aload 0 (x_g1 109 593 (x_iload 1 (x_aload 0 (x_g0 109 9 0 40 (x_iastore (K 30))))))))))))))) := ((xe_iconst 0).trans (congrArg (x_iconst 0) ((xe_istore 3).trans (congrArg (x_istore 3) ((xe_iconst 1).trans (congrArg (x_iconst 1) ((xe_istore 4).trans (congrArg (x_istore 4) ((xe_aload 0).trans (congrArg (x_aload 0) ((xe_g1 (kk := 109) rfl tl_9_14).trans (congrArg (x_g1 109 594) ((xe_iconst 0).trans (congrArg (x_iconst 0) ((xe_iload 1).trans (congrArg (x_iload 1) ((xe_iastore).trans (congrArg (x_iastore) ((xe_aload 0).trans (congrArg (x_aload 0) ((xe_g1 (kk := 109) rfl tl_9_13).trans (congrArg (x_g1 109 593) ((xe_iload 1).trans (congrArg (x_iload 1) ((xe_aload 0).trans (congrArg (x_aload 0) ((xe_g0 (kk := 109) rfl tl_9_9).trans (congrArg (x_g0 109 9 0 40) ((xe_iastore).trans (congrArg (x_iastore) xe_nil))))))))))))))))))))))))))))))
abbrev po_X9_relieve_e (T : Zt) (m : Int) (s f : Int) : Zt → Option Zv → Prop := fun T' r => ∃ x : Int, r = some (vI x) ∧ fr_ [(593, []), (594, []), (592, []), (590, [])] T T' ∧ ((x = 1 ∧ RT7_ (hsx_ T) (asx_ T) (fun j => T 590 0 j) (fun j => T' 590 0 j) (fun j => T 591 0 j) (fun j => T 592 0 j) (fun j => T' 592 0 j) s f (T 109 0 9) m) ∨ (x = 0 ∧ (∀ v, T' 592 0 v = T 592 0 v) ∧ (∀ k, T' 590 0 k = T 590 0 k) ∧ NO7_ (hsx_ T) (asx_ T) (fun j => T 590 0 j) (fun j => T 591 0 j) (fun j => T 592 0 j) s f (T 109 0 9) m))
set_option maxHeartbeats 4000000 in
theorem ct_X9_relieve_e {T : Zt} {m : Int} {s f : Int} (hq9 : Q9_ T) (hka : KA_ T) (hs : 0 ≤ s ∧ s < m) (h0 : 0 ≤ f) (hm : m ≤ 12) (hov : T 591 0 s < T 592 0 s) (hne : ∀ k, f ≤ k → k < T 109 0 9 → hsx_ T k ≠ asx_ T k) (hrg : ∀ k, f ≤ k → k < T 109 0 9 → 0 ≤ T 590 0 k ∧ T 590 0 k ≤ 2) (hlb : ∀ v, 0 ≤ v → v < m → -1000 ≤ T 592 0 v ∧ T 592 0 v ≤ 1000) (hsm : ∀ k, f ≤ k → k < T 109 0 9 → (0 ≤ hsx_ T k ∧ hsx_ T k < m) ∧ (0 ≤ asx_ T k ∧ asx_ T k < m)) : Ct_ yX9_relieve zX9_relieve T [vR 109 0, vI s, vI f] (po_X9_relieve_e T m s f) := by
  refine ct_of pn_9 rfl rfl (Nat.le_of_ble_eq_true rfl) (fun hT hav => ?_)
  have hr_s : -2147483648 ≤ s ∧ s ≤ 2147483647 := hav (vI s) (List.mem_cons_of_mem _ List.mem_cons_self)
  have hr_f : -2147483648 ≤ f ∧ f ≤ 2147483647 := hav (vI f) (List.mem_cons_of_mem _ (List.mem_cons_of_mem _ List.mem_cons_self))
  have hz : zX9_relieve.2.2.2.1 = some .boolean → ∀ (T' : Zt) (x : Int), po_X9_relieve_e T m s f T' (some (vI x)) → 0 ≤ x ∧ x ≤ 1 := fun _ T' x h => by obtain ⟨y, e, -, hy⟩ := h; cases e; rcases hy with ⟨z, -⟩ | ⟨z, -⟩ <;> omega
  have hbo : 0 ≤ T 109 0 9 ∧ T 109 0 9 ≤ 40 := bd_f hT 109 9 tl_9_9 0
  show J_ zX9_relieve T (po_X9_relieve_e T m s f) 0 0 0 [some (vR 109 0), some (vI s), some (vI f), none, none, none, none, none] [] T
  have c_30 : ∀ (nn : Nat) (hd : Int) (tl : Int) (T1 : Zt), ((12 - hd).toNat) ≤ nn → (fr_ [(593, []), (594, [])] T T1) → (0 ≤ hd ∧ hd ≤ tl ∧ 1 ≤ tl ∧ tl ≤ 12) → (BF7_ (hsx_ T) (asx_ T) (fun j => T 590 0 j) s f (T 109 0 9) m (fun j => T1 593 0 j) (fun j => T1 594 0 j) tl) → (CL7_ (hsx_ T) (asx_ T) (fun j => T 590 0 j) (fun j => T 591 0 j) (fun j => T 592 0 j) f (T 109 0 9) (fun j => T1 593 0 j) (fun j => T1 594 0 j) hd) → J_ zX9_relieve T (po_X9_relieve_e T m s f) 0 0 30 [some (vR 109 0), some (vI s), some (vI f), some (vI hd), some (vI tl), none, none, none] [] T1 := by
    intro nn
    induction nn using Nat.strongRecOn with
    | _ nn ih_30 =>
      intro hd tl T1 hm_30 hf_30 i1 bf1 cl1
      replace hm_30 := fun (_ : Unit) => hm_30
      have c_82 : ∀ (nn : Nat) (tl2 : Int) (at9 : Int) (k : Int) (T2 : Zt), ((40 - k).toNat) ≤ nn → (fr_ [(593, []), (594, [])] T T2) → (hd < 12 ∧ hd < tl2 ∧ tl2 ≤ 12 ∧ f ≤ k ∧ 0 ≤ at9 ∧ at9 < m) → (T2 594 0 hd = at9) → (BF7_ (hsx_ T) (asx_ T) (fun j => T 590 0 j) s f (T 109 0 9) m (fun j => T2 593 0 j) (fun j => T2 594 0 j) tl2) → (CL7_ (hsx_ T) (asx_ T) (fun j => T 590 0 j) (fun j => T 591 0 j) (fun j => T 592 0 j) f (T 109 0 9) (fun j => T2 593 0 j) (fun j => T2 594 0 j) hd) → (T 591 0 at9 ≤ T 592 0 at9 ∧ ∀ k9, f ≤ k9 → k9 < k → TC7_ (hsx_ T) (asx_ T) (fun j => T 590 0 j) (fun j => T2 593 0 j) at9 k9) → J_ zX9_relieve T (po_X9_relieve_e T m s f) 0 0 82 [some (vR 109 0), some (vI s), some (vI f), some (vI (hd + 1)), some (vI tl2), some (vI at9), some (vI k), none] [] T2 := by
        intro nn
        induction nn using Nat.strongRecOn with
        | _ nn ih_82 =>
          intro tl2 at9 k T2 hm_82 hf_82 i2 at2 bf2 cl2 ca2
          replace hm_82 := fun (_ : Unit) => hm_82
          refine j_blx (F := fX9) tb_X9 (nn_ _) bk_X9_relieve_e_82 bs_X9_relieve_e_82 hz (fun K hK => ?_)
          intro b1 b1b
          have e2 : T2 109 0 9 = T 109 0 9 := hf_82 109 0 9 rfl
          rw [e2] at b1 b1b ⊢
          refine And.intro (fun c3 => ?_) (fun c3 => ?_)
          · refine hK 152 _ [] T2 ?_
            refine j_blx (F := fX9) tb_X9 (nn_ _) bk_X9_relieve_e_152 bs_X9_relieve_e_152 hz (fun K hK => ?_)
            refine hK 30 _ [] T2 ?_
            refine j_drq [some (vR 109 0), some (vI s), some (vI f), some (vI (hd + 1)), some (vI tl2), none, none, none] (drq_s (drq_s (drq_s (drq_s (drq_s (drq_n (drq_n (drq_n drq_0)))))))) ?_
            refine ih_30 _ ?_ (hd + 1) tl2 T2 (Nat.le_refl _) ?_ ?_ ?_ ?_
            · have hm_30 := hm_30 (); omega
            · exact fr_t (fr_0 _ _) (fr_s hf_82 rfl)
            · omega
            · exact bf2
            · intro i a b
              by_cases z : i = hd
              · rw [z]
                show T 591 0 (T2 594 0 hd) ≤ T 592 0 (T2 594 0 hd) ∧ ∀ k, f ≤ k → k < T 109 0 9 → TC7_ (hsx_ T) (asx_ T) (fun j => T 590 0 j) (fun j => T2 593 0 j) (T2 594 0 hd) k
                rw [at2]
                exact ⟨ca2.1, fun k9 p q => ca2.2 k9 p (by omega)⟩
              · exact cl2 i a (by omega)
          · have hsk := hsm k (by omega) (by omega)
            refine hK 96 [some (vR 109 0), some (vI s), some (vI f), some (vI (hd + 1)), some (vI tl2), some (vI at9), some (vI k), none] [vI at9, vI k, vR 109 0] T2 ?_
            have fq4 : fr_ [(593, []), (594, [])] T T2 := fr_t (fr_0 _ _) (fr_s hf_82 rfl)
            have e5 : T2 109 0 9 = T 109 0 9 := hf_82 109 0 9 rfl
            refine j_callV (y := yX9_takerOf) (Yc := zX9_takerOf) (rest := []) [vI k, vI at9] (ct_X9_takerOf_e (T := T2) (q9_f hq9 fq4 ⟨fun _ _ => rfl, fun _ => rfl, rfl, rfl, rfl, rfl, rfl⟩) (KA__f (ws := [(593, []), (594, [])]) hka (fr_t (fr_0 _ _) (fr_s hf_82 rfl)) ⟨fun _ => rfl, fun _ => rfl, rfl, rfl, trivial⟩) (by omega)) cl_X9_161 (qd_c (by decide +kernel)) (nn_ _) rfl (rf_of rfl) (Nat.le_of_ble_eq_true rfl) (Nat.le_of_ble_eq_true rfl) (Nat.le_of_ble_eq_true rfl) rfl ?_
            rintro _ _ ⟨rfl, x6, rfl, hx6⟩
            rw [hsx_e fq4 ⟨fun _ _ => rfl, fun _ => rfl, rfl, rfl, rfl, rfl, rfl⟩, asx_e fq4 ⟨fun _ _ => rfl, fun _ => rfl, rfl, rfl, rfl, rfl, rfl⟩] at hx6
            have e7 : T2 590 0 k = T 590 0 k := hf_82 590 0 k rfl
            show J_ zX9_relieve T (po_X9_relieve_e T m s f) 0 0 99 _ [vI x6] T2
            refine j_blx (F := fX9) tb_X9 (nn_ _) bk_X9_relieve_e_99 bs_X9_relieve_e_99 hz (fun K hK => ?_)
            refine And.intro (fun c8 => ?_) (fun c8 => ?_)
            · refine hK 146 [some (vR 109 0), some (vI s), some (vI f), some (vI (hd + 1)), some (vI tl2), some (vI at9), some (vI k), some (vI x6)] [] T2 ?_
              refine j_blx (F := fX9) tb_X9 (nn_ _) bk_X9_relieve_e_146 bs_X9_relieve_e_146 hz (fun K hK => ?_)
              refine rg_i (by omega) ?_
              refine hK 82 [some (vR 109 0), some (vI s), some (vI f), some (vI (hd + 1)), some (vI tl2), some (vI at9), some (vI (k + 1)), some (vI x6)] [] T2 ?_
              refine j_drq [some (vR 109 0), some (vI s), some (vI f), some (vI (hd + 1)), some (vI tl2), some (vI at9), some (vI (k + 1)), none] (drq_s (drq_s (drq_s (drq_s (drq_s (drq_s (drq_s (drq_n drq_0)))))))) ?_
              refine ih_82 _ ?_ tl2 at9 (k + 1) T2 (Nat.le_refl _) ?_ ?_ ?_ ?_ ?_ ?_
              · have hm_82 := hm_82 (); omega
              · exact fr_t (fr_0 _ _) (fr_s hf_82 rfl)
              · omega
              · exact at2
              · exact bf2
              · exact cl2
              · have ne9 := hne k (by omega) (by omega)
                refine ⟨ca2.1, fun k9 p q => ?_⟩
                by_cases z : k9 = k
                · rw [z]
                  refine ⟨fun y1 y2 => ?_, fun y1 y2 => ?_⟩
                  · have y2 : 0 < T 590 0 k := y2
                    show T2 593 0 (asx_ T k) ≠ -1
                    first
                    | (exfalso; omega)
                    | (rw [show asx_ T k = x6 by omega]; omega)
                    | (rw [show asx_ T k = x6 by omega]; exact bf7_p bf2 hm (by omega) (by omega))
                  · have y2 : T 590 0 k < 2 := y2
                    show T2 593 0 (hsx_ T k) ≠ -1
                    first
                    | (exfalso; omega)
                    | (rw [show hsx_ T k = x6 by omega]; omega)
                    | (rw [show hsx_ T k = x6 by omega]; exact bf7_p bf2 hm (by omega) (by omega))
                · exact ca2.2 k9 p (by omega)
            · refine ix_i (by omega) ?_
              intro b9 b9b
              refine And.intro (fun c10 => ?_) (fun c10 => ?_)
              · refine hK 146 [some (vR 109 0), some (vI s), some (vI f), some (vI (hd + 1)), some (vI tl2), some (vI at9), some (vI k), some (vI x6)] [] T2 ?_
                refine j_blx (F := fX9) tb_X9 (nn_ _) bk_X9_relieve_e_146 bs_X9_relieve_e_146 hz (fun K hK => ?_)
                refine rg_i (by omega) ?_
                refine hK 82 [some (vR 109 0), some (vI s), some (vI f), some (vI (hd + 1)), some (vI tl2), some (vI at9), some (vI (k + 1)), some (vI x6)] [] T2 ?_
                refine j_drq [some (vR 109 0), some (vI s), some (vI f), some (vI (hd + 1)), some (vI tl2), some (vI at9), some (vI (k + 1)), none] (drq_s (drq_s (drq_s (drq_s (drq_s (drq_s (drq_s (drq_n drq_0)))))))) ?_
                refine ih_82 _ ?_ tl2 at9 (k + 1) T2 (Nat.le_refl _) ?_ ?_ ?_ ?_ ?_ ?_
                · have hm_82 := hm_82 (); omega
                · exact fr_t (fr_0 _ _) (fr_s hf_82 rfl)
                · omega
                · exact at2
                · exact bf2
                · exact cl2
                · have ne9 := hne k (by omega) (by omega)
                  refine ⟨ca2.1, fun k9 p q => ?_⟩
                  by_cases z : k9 = k
                  · rw [z]
                    refine ⟨fun y1 y2 => ?_, fun y1 y2 => ?_⟩
                    · have y2 : 0 < T 590 0 k := y2
                      show T2 593 0 (asx_ T k) ≠ -1
                      first
                      | (exfalso; omega)
                      | (rw [show asx_ T k = x6 by omega]; omega)
                      | (rw [show asx_ T k = x6 by omega]; exact bf7_p bf2 hm (by omega) (by omega))
                    · have y2 : T 590 0 k < 2 := y2
                      show T2 593 0 (hsx_ T k) ≠ -1
                      first
                      | (exfalso; omega)
                      | (rw [show hsx_ T k = x6 by omega]; omega)
                      | (rw [show hsx_ T k = x6 by omega]; exact bf7_p bf2 hm (by omega) (by omega))
                  · exact ca2.2 k9 p (by omega)
              · refine And.intro (fun c11 => ?_) (fun c11 => ?_)
                · refine hK 146 [some (vR 109 0), some (vI s), some (vI f), some (vI (hd + 1)), some (vI tl2), some (vI at9), some (vI k), some (vI x6)] [] T2 ?_
                  refine j_blx (F := fX9) tb_X9 (nn_ _) bk_X9_relieve_e_146 bs_X9_relieve_e_146 hz (fun K hK => ?_)
                  refine rg_i (by omega) ?_
                  refine hK 82 [some (vR 109 0), some (vI s), some (vI f), some (vI (hd + 1)), some (vI tl2), some (vI at9), some (vI (k + 1)), some (vI x6)] [] T2 ?_
                  refine j_drq [some (vR 109 0), some (vI s), some (vI f), some (vI (hd + 1)), some (vI tl2), some (vI at9), some (vI (k + 1)), none] (drq_s (drq_s (drq_s (drq_s (drq_s (drq_s (drq_s (drq_n drq_0)))))))) ?_
                  refine ih_82 _ ?_ tl2 at9 (k + 1) T2 (Nat.le_refl _) ?_ ?_ ?_ ?_ ?_ ?_
                  · have hm_82 := hm_82 (); omega
                  · exact fr_t (fr_0 _ _) (fr_s hf_82 rfl)
                  · omega
                  · exact at2
                  · exact bf2
                  · exact cl2
                  · have ne9 := hne k (by omega) (by omega)
                    refine ⟨ca2.1, fun k9 p q => ?_⟩
                    by_cases z : k9 = k
                    · rw [z]
                      refine ⟨fun y1 y2 => ?_, fun y1 y2 => ?_⟩
                      · have y2 : 0 < T 590 0 k := y2
                        show T2 593 0 (asx_ T k) ≠ -1
                        first
                        | (exfalso; omega)
                        | (rw [show asx_ T k = x6 by omega]; omega)
                        | (rw [show asx_ T k = x6 by omega]; exact bf7_p bf2 hm (by omega) (by omega))
                      · have y2 : T 590 0 k < 2 := y2
                        show T2 593 0 (hsx_ T k) ≠ -1
                        first
                        | (exfalso; omega)
                        | (rw [show hsx_ T k = x6 by omega]; omega)
                        | (rw [show hsx_ T k = x6 by omega]; exact bf7_p bf2 hm (by omega) (by omega))
                    · exact ca2.2 k9 p (by omega)
                · refine iy_i (by omega) (by omega) ?_
                  refine x_nm (fun U12 hU12 => ?_)
                  have e13 := up_f hU12
                  refine iy_i (by omega) (by omega) ?_
                  refine x_nm (fun U14 hU14 => ?_)
                  have e15 := up_f hU14
                  refine rg_i (by omega) ?_
                  refine rg_i (by omega) ?_
                  refine hK 82 [some (vR 109 0), some (vI s), some (vI f), some (vI (hd + 1)), some (vI (tl2 + 1)), some (vI at9), some (vI (k + 1)), some (vI x6)] [] U14 ?_
                  refine j_drq [some (vR 109 0), some (vI s), some (vI f), some (vI (hd + 1)), some (vI (tl2 + 1)), some (vI at9), some (vI (k + 1)), none] (drq_s (drq_s (drq_s (drq_s (drq_s (drq_s (drq_s (drq_n drq_0)))))))) ?_
                  refine ih_82 _ ?_ (tl2 + 1) at9 (k + 1) U14 (Nat.le_refl _) ?_ ?_ ?_ ?_ ?_ ?_
                  · have hm_82 := hm_82 (); omega
                  · exact fr_u (fr_u (fr_t (fr_0 _ _) (fr_s hf_82 rfl)) hU12 rfl) hU14 rfl
                  · omega
                  · rw [up_g hU14 (fun q => by omega), up_k hU12 (by exact Nat.ne_of_beq_eq_false rfl)]; exact at2
                  · exact bf7_a bf2 (hd := hd) (x := x6) (k := k) (by omega) (by omega) (show T2 593 0 x6 = -1 by omega) ⟨by omega, h0⟩ (by show PR7_ (hsx_ T) (asx_ T) (fun j => T 590 0 j) x6 k (T2 594 0 hd); rw [at2]; unfold PR7_; show (_ ∧ _ ∧ T 590 0 k < 2) ∨ (_ ∧ _ ∧ 0 < T 590 0 k); omega) (fun v => by
                      show U14 593 0 v = fu_ (fun j => T2 593 0 j) x6 k v
                      rw [up_k hU14 (by exact Nat.ne_of_beq_eq_false rfl)]
                      by_cases z : v = x6
                      · rw [z, fu_s]; exact up_f hU12
                      · rw [fu_n z]; exact up_g hU12 (fun q => z q.2.2)) (fun v => by
                      show U14 594 0 v = fu_ (fun j => T2 594 0 j) tl2 x6 v
                      by_cases z : v = tl2
                      · rw [z, fu_s]; exact up_f hU14
                      · rw [fu_n z, up_g hU14 (fun q => z q.2.2)]; exact up_k hU12 (by exact Nat.ne_of_beq_eq_false rfl) _ _)
                  · exact cl7_m cl2 (tl := tl2) (by omega) (fun u9 z9 => by
                      show U14 593 0 u9 ≠ -1
                      rw [up_k hU14 (by exact Nat.ne_of_beq_eq_false rfl)]
                      by_cases y : u9 = x6
                      · rw [y, up_f hU12]; omega
                      · rw [up_g hU12 (fun q => y q.2.2)]; exact z9) (fun i a b => by
                      show U14 594 0 i = T2 594 0 i
                      rw [up_g hU14 (fun q => by omega)]; exact up_k hU12 (by exact Nat.ne_of_beq_eq_false rfl) _ _)
                  · have ne9 := hne k (by omega) (by omega)
                    have ex9 : U14 593 0 x6 ≠ -1 := by rw [up_k hU14 (by exact Nat.ne_of_beq_eq_false rfl), up_f hU12]; omega
                    refine ⟨ca2.1, fun k9 p q => ?_⟩
                    by_cases z : k9 = k
                    · rw [z]
                      refine ⟨fun y1 y2 => ?_, fun y1 y2 => ?_⟩
                      · have y2 : 0 < T 590 0 k := y2
                        show U14 593 0 (asx_ T k) ≠ -1
                        first
                        | (exfalso; omega)
                        | (rw [show asx_ T k = x6 by omega]; exact ex9)
                      · have y2 : T 590 0 k < 2 := y2
                        show U14 593 0 (hsx_ T k) ≠ -1
                        first
                        | (exfalso; omega)
                        | (rw [show hsx_ T k = x6 by omega]; exact ex9)
                    · exact tc7_m (ca2.2 k9 p (by omega)) (fun u9 z9 => by
                        show U14 593 0 u9 ≠ -1
                        rw [up_k hU14 (by exact Nat.ne_of_beq_eq_false rfl)]
                        by_cases y : u9 = x6
                        · rw [y, up_f hU12]; omega
                        · rw [up_g hU12 (fun q => y q.2.2)]; exact z9)
      refine j_blx (F := fX9) tb_X9 (nn_ _) bk_X9_relieve_e_30 bs_X9_relieve_e_30 hz (fun K hK => ?_)
      refine And.intro (fun c16 => ?_) (fun c16 => ?_)
      · refine hK 155 _ [] T1 ?_
        refine j_blx (F := fX9) tb_X9 (nn_ _) bk_X9_relieve_e_155 bs_X9_relieve_e_155 hz (fun K hK => ?_)
        refine (show po_X9_relieve_e T m s f T1 (some (vI 0)) from ?_)
        exact ⟨_, rfl, fr_t (fr_0 _ _) (fr_s hf_30 rfl), Or.inr ⟨rfl, fun v => hf_30 592 0 v rfl, fun k => hf_30 590 0 k rfl, bf7_r bf1 cl1 (by omega) hm hsm⟩⟩
      · refine And.intro (fun c17 => ?_) (fun c17 => ?_)
        · refine hK 155 _ [] T1 ?_
          refine j_blx (F := fX9) tb_X9 (nn_ _) bk_X9_relieve_e_155 bs_X9_relieve_e_155 hz (fun K hK => ?_)
          refine (show po_X9_relieve_e T m s f T1 (some (vI 0)) from ?_)
          exact ⟨_, rfl, fr_t (fr_0 _ _) (fr_s hf_30 rfl), Or.inr ⟨rfl, fun v => hf_30 592 0 v rfl, fun k => hf_30 590 0 k rfl, bf7_r bf1 cl1 (by omega) hm hsm⟩⟩
        · have y9 : (0 ≤ T1 594 0 hd ∧ T1 594 0 hd < m) ∧ T1 593 0 (T1 594 0 hd) ≠ -1 := bf1.2.1 hd (by omega) (by omega)
          refine ix_i (by omega) ?_
          intro b18 b18b
          refine rg_i (by omega) ?_
          refine ix_i (by omega) ?_
          intro b19 b19b
          have e20 : T1 592 0 (T1 594 0 hd) = T 592 0 (T1 594 0 hd) := hf_30 592 0 (T1 594 0 hd) rfl
          rw [e20] at b19 b19b ⊢
          refine ix_i (by omega) ?_
          intro b21 b21b
          have e22 : T1 591 0 (T1 594 0 hd) = T 591 0 (T1 594 0 hd) := hf_30 591 0 (T1 594 0 hd) rfl
          rw [e22] at b21 b21b ⊢
          refine And.intro (fun c23 => ?_) (fun c23 => ?_)
          · refine hK 79 [some (vR 109 0), some (vI s), some (vI f), some (vI (hd + 1)), some (vI tl), some (vI (T1 594 0 hd)), none, none] [] T1 ?_
            refine j_blx (F := fX9) tb_X9 (nn_ _) bk_X9_relieve_e_79 bs_X9_relieve_e_79 hz (fun K hK => ?_)
            refine hK 82 [some (vR 109 0), some (vI s), some (vI f), some (vI (hd + 1)), some (vI tl), some (vI (T1 594 0 hd)), some (vI f), none] [] T1 ?_
            refine c_82 _ tl (T1 594 0 hd) f T1 (Nat.le_refl _) ?_ ?_ ?_ ?_ ?_ ?_
            · exact fr_t (fr_0 _ _) (fr_s hf_30 rfl)
            · have y9 : (0 ≤ T1 594 0 hd ∧ T1 594 0 hd < m) ∧ T1 593 0 (T1 594 0 hd) ≠ -1 := bf1.2.1 hd (by omega) (by omega)
              omega
            · rfl
            · exact bf1
            · exact cl1
            · refine ⟨by show T 591 0 (T1 594 0 hd) ≤ T 592 0 (T1 594 0 hd); omega, fun k9 p q => by omega⟩
          · have c67 : T 592 0 (T1 594 0 hd) < T 591 0 (T1 594 0 hd) := by omega
            refine hK 74 [some (vR 109 0), some (vI s), some (vI f), some (vI (hd + 1)), some (vI tl), some (vI (T1 594 0 hd)), none, none] [vI (T1 594 0 hd), vI s, vR 109 0] T1 ?_
            have fq24 : fr_ [(593, []), (594, [])] T T1 := fr_t (fr_0 _ _) (fr_s hf_30 rfl)
            have e25 : T1 109 0 9 = T 109 0 9 := hf_30 109 0 9 rfl
            have eh : hsx_ T1 = hsx_ T := funext (hsx_e fq24 ⟨fun _ _ => rfl, fun _ => rfl, rfl, rfl, rfl, rfl, rfl⟩)
            have ea : asx_ T1 = asx_ T := funext (asx_e fq24 ⟨fun _ _ => rfl, fun _ => rfl, rfl, rfl, rfl, rfl, rfl⟩)
            have ep : (fun j => T1 590 0 j) = (fun j => T 590 0 j) := funext (fun j => hf_30 590 0 j rfl)
            have el : ∀ j, T1 592 0 j = T 592 0 j := fun j => hf_30 592 0 j rfl
            have en : T1 109 0 9 = T 109 0 9 := hf_30 109 0 9 rfl
            refine j_callV (y := yX9_shiftAlong) (Yc := zX9_shiftAlong) (rest := []) [vI s, vI (T1 594 0 hd)] (ct_X9_shiftAlong_e (T := T1) (f := f) (m := m) (tl := tl) (q9_f hq9 fq24 ⟨fun _ _ => rfl, fun _ => rfl, rfl, rfl, rfl, rfl, rfl⟩) (KA__f (ws := [(593, []), (594, [])]) hka (fr_t (fr_0 _ _) (fr_s hf_30 rfl)) ⟨fun _ => rfl, fun _ => rfl, rfl, rfl, trivial⟩) (by omega) h0 hm (by rw [eh, ea, ep, en]; exact bf1) (by omega) ⟨by omega, by omega, hd, by omega, rfl⟩ (fun z => by rw [z] at c67; omega) (by rw [eh, ea, en]; exact hne) (by rw [en]; exact fun k a b => by rw [hf_30 590 0 k rfl]; exact hrg k a b) (by exact fun v a b => by rw [el]; exact hlb v a b)) cl_X9_157 (qd_c (by decide +kernel)) (nn_ _) rfl (rf_of rfl) (Nat.le_of_ble_eq_true rfl) (Nat.le_of_ble_eq_true rfl) (Nat.le_of_ble_eq_true rfl) rfl ?_
            rintro U26 _ ⟨rfl, fU26, qU26l, qU26g⟩
            rw [eh, ea, ep, en] at qU26g
            show J_ zX9_relieve T (po_X9_relieve_e T m s f) 0 0 77 _ [] U26
            refine j_blx (F := fX9) tb_X9 (nn_ _) bk_X9_relieve_e_77 bs_X9_relieve_e_77 hz (fun K hK => ?_)
            refine (show po_X9_relieve_e T m s f U26 (some (vI 1)) from ?_)
            exact ⟨_, rfl, fr_t (fr_t (fr_0 _ _) (fr_s hf_30 rfl)) (fr_s fU26 rfl), Or.inl ⟨rfl, T1 594 0 hd, ⟨by omega, by omega, fun z => by rw [z] at c67; omega, c67⟩, fun v => (qU26l v).trans (by rw [el]), qU26g⟩⟩
  refine j_blx (F := fX9) tb_X9 (nn_ _) bk_X9_relieve_e_0 bs_X9_relieve_e_0 hz (fun K hK => ?_)
  refine hK 5 _ [vI (-1), vR 593 0] T ?_
  refine j_callS (y := yJ7_fill_53178) (Yc := zJ7_fill_53178) (rest := []) [vR 593 0, vI (-1)] (ct_J7_fill_593 (T := T) (by omega)) cl_X9_48 (qd_c (by decide +kernel)) (nn_ _) rfl (rf_of rfl) (Nat.le_of_ble_eq_true rfl) (Nat.le_of_ble_eq_true rfl) (Nat.le_of_ble_eq_true rfl) rfl ?_
  rintro U27 _ ⟨rfl, fU27, qU27o, qU27⟩
  show J_ zX9_relieve T (po_X9_relieve_e T m s f) 0 0 8 _ [] U27
  refine j_blx (F := fX9) tb_X9 (nn_ _) bk_X9_relieve_e_8 bs_X9_relieve_e_8 hz (fun K hK => ?_)
  refine iy_i (by omega) (by omega) ?_
  refine x_nm (fun U28 hU28 => ?_)
  have e29 := up_f hU28
  intro b30 b30b
  have e31 : U28 109 0 9 = T 109 0 9 := (up_k hU28 (by exact Nat.ne_of_beq_eq_false rfl) 0 9).trans (fU27 109 0 9 rfl)
  rw [e31] at b30 b30b ⊢
  refine iy_i (by omega) (by omega) ?_
  refine x_nm (fun U32 hU32 => ?_)
  have e33 := up_f hU32
  refine hK 30 [some (vR 109 0), some (vI s), some (vI f), some (vI 0), some (vI 1), none, none, none] [] U32 ?_
  refine c_30 _ 0 1 U32 (Nat.le_refl _) ?_ ?_ ?_ ?_
  · exact fr_u (fr_u (fr_t (fr_0 _ _) (fr_s fU27 rfl)) hU28 rfl) hU32 rfl
  · omega
  · refine bf7_0 (by omega) ?_ ?_ (fun v a b z => ?_)
    · show U32 594 0 0 = s
      exact (up_k hU32 (by exact Nat.ne_of_beq_eq_false rfl) 0 0).trans (up_f hU28)
    · show U32 593 0 s ≠ -1
      rw [up_f hU32]; omega
    · exact ((up_g hU32 (by omega)).trans (up_k hU28 (by exact Nat.ne_of_beq_eq_false rfl) 0 v)).trans (qU27 v a b)
  · intro i a b; omega
theorem bk_X9_takePartHome_e_0 : ck_ fX9 (some .boolean) cX9_takePartHome 0 [.aload 0, .iload 1] 2 = true := qck_r (nn_ _) (by decide +kernel)
theorem bs_X9_takePartHome_e_0 {P : Zt → Option Zv → Prop} (K : Int → Zl → List Zv → Zt → Prop) : sx_ K P [.aload 0, .iload 1] 2 = x_aload 0 (x_iload 1 (K 2)) := ((xe_aload 0).trans (congrArg (x_aload 0) ((xe_iload 1).trans (congrArg (x_iload 1) xe_nil))))
theorem bk_X9_takePartHome_e_5 : ck_ fX9 (some .boolean) cX9_takePartHome 5 [.istore 2, .aload 0, .iload 1] 8 = true := qck_r (nn_ _) (by decide +kernel)
theorem bs_X9_takePartHome_e_5 {P : Zt → Option Zv → Prop} (K : Int → Zl → List Zv → Zt → Prop) : sx_ K P [.istore 2, .aload 0, .iload 1] 8 = x_istore 2 (x_aload 0 (x_iload 1 (K 8))) := ((xe_istore 2).trans (congrArg (x_istore 2) ((xe_aload 0).trans (congrArg (x_aload 0) ((xe_iload 1).trans (congrArg (x_iload 1) xe_nil))))))
theorem bk_X9_takePartHome_e_11 : ck_ fX9 (some .boolean) cX9_takePartHome 11 [.istore 3, .aload 0, .tableswitch 0 9 12 #[], .iload 2, .dup2, .iaload, .iconst 1, .iadd, .iastore, .aload 0, .tableswitch 0 9 12 #[], .iload 3, .dup2, .iaload, .iconst 1, .isub, .iastore, .aload 0, .tableswitch 0 9 12 #[], .iload 2, .iaload, .aload 0, .tableswitch 0 9 11 #[], .iload 2, .iaload, .if_icmp .le 58, .aload 0, .iload 2, .iload 1, .iconst 1, .iadd] 52 = true := qck_r (nn_ _) (by decide +kernel)
theorem bs_X9_takePartHome_e_11 {P : Zt → Option Zv → Prop} (K : Int → Zl → List Zv → Zt → Prop) : sx_ K P [.istore 3, .aload 0, .tableswitch 0 9 12 #[], .iload 2, .dup2, .iaload, .iconst 1, .iadd, .iastore, .aload 0, .tableswitch 0 9 12 #[], .iload 3, .dup2, .iaload, .iconst 1, .isub, .iastore, .aload 0, .tableswitch 0 9 12 #[], .iload 2, .iaload, .aload 0, .tableswitch 0 9 11 #[], .iload 2, .iaload, .if_icmp .le 58, .aload 0, .iload 2, .iload 1, .iconst 1, .iadd] 52 = x_istore 3 (x_aload 0 (x_g1 109 592 (x_iload 2 (x_dup2 (x_iaload (x_iconst 1 (x_iadd (x_iastore (x_aload 0 (x_g1 109 592 (x_iload 3 (x_dup2 (x_iaload (x_iconst 1 (x_isub (x_iastore (x_aload 0 (x_g1 109 592 (x_iload 2 (x_iaload (x_aload 0 (x_g1 109 591 (x_iload 2 (x_iaload (x_if_icmp .le 58 K (x_aload 0 (x_iload 2 (x_iload 1 (x_iconst 1 (x_iadd (K 52))))))))))))))))))))))))))))))) := ((xe_istore 3).trans (congrArg (x_istore 3) ((xe_aload 0).trans (congrArg (x_aload 0) ((xe_g1 (kk := 109) rfl tl_9_12).trans (congrArg (x_g1 109 592) ((xe_iload 2).trans (congrArg (x_iload 2) ((xe_dup2).trans (congrArg (x_dup2) ((xe_iaload).trans (congrArg (x_iaload) ((xe_iconst 1).trans (congrArg (x_iconst 1) ((xe_iadd).trans (congrArg (x_iadd) ((xe_iastore).trans (congrArg (x_iastore) ((xe_aload 0).trans (congrArg (x_aload 0) ((xe_g1 (kk := 109) rfl tl_9_12).trans (congrArg (x_g1 109 592) ((xe_iload 3).trans (congrArg (x_iload 3) ((xe_dup2).trans (congrArg (x_dup2) ((xe_iaload).trans (congrArg (x_iaload) ((xe_iconst 1).trans (congrArg (x_iconst 1) ((xe_isub).trans (congrArg (x_isub) ((xe_iastore).trans (congrArg (x_iastore) ((xe_aload 0).trans (congrArg (x_aload 0) ((xe_g1 (kk := 109) rfl tl_9_12).trans (congrArg (x_g1 109 592) ((xe_iload 2).trans (congrArg (x_iload 2) ((xe_iaload).trans (congrArg (x_iaload) ((xe_aload 0).trans (congrArg (x_aload 0) ((xe_g1 (kk := 109) rfl tl_9_11).trans (congrArg (x_g1 109 591) ((xe_iload 2).trans (congrArg (x_iload 2) ((xe_iaload).trans (congrArg (x_iaload) ((xe_if_icmp .le 58).trans (congrArg (x_if_icmp .le 58 K) ((xe_aload 0).trans (congrArg (x_aload 0) ((xe_iload 2).trans (congrArg (x_iload 2) ((xe_iload 1).trans (congrArg (x_iload 1) ((xe_iconst 1).trans (congrArg (x_iconst 1) ((xe_iadd).trans (congrArg (x_iadd) xe_nil))))))))))))))))))))))))))))))))))))))))))))))))))))))))))))))
theorem bk_X9_takePartHome_e_58 : ck_ fX9 (some .boolean) cX9_takePartHome 58 [.iconst 1, .ireturn] 60 = true := qck_r (nn_ _) (by decide +kernel)
theorem bs_X9_takePartHome_e_58 {P : Zt → Option Zv → Prop} (K : Int → Zl → List Zv → Zt → Prop) : sx_ K P [.iconst 1, .ireturn] 60 = x_iconst 1 (x_ireturn P) := ((xe_iconst 1).trans (congrArg (x_iconst 1) (xe_ireturn)))
theorem bk_X9_takePartHome_e_55 : ck_ fX9 (some .boolean) cX9_takePartHome 55 [.ifCond .eq 60, .iconst 1, .ireturn] 60 = true := qck_r (nn_ _) (by decide +kernel)
theorem bs_X9_takePartHome_e_55 {P : Zt → Option Zv → Prop} (K : Int → Zl → List Zv → Zt → Prop) : sx_ K P [.ifCond .eq 60, .iconst 1, .ireturn] 60 = x_ifCond .eq 60 K (x_iconst 1 (x_ireturn P)) := ((xe_ifCond .eq 60).trans (congrArg (x_ifCond .eq 60 K) ((xe_iconst 1).trans (congrArg (x_iconst 1) (xe_ireturn)))))
theorem bk_X9_takePartHome_e_60 : ck_ fX9 (some .boolean) cX9_takePartHome 60 [.aload 0, .tableswitch 0 9 12 #[], .iload 2, .dup2, .iaload, .iconst 1, .isub, .iastore, .aload 0, .tableswitch 0 9 12 #[], .iload 3, .dup2, .iaload, .iconst 1, .iadd, .iastore, .iconst 0, .ireturn] 82 = true := qck_r (nn_ _) (by decide +kernel)
theorem bs_X9_takePartHome_e_60 {P : Zt → Option Zv → Prop} (K : Int → Zl → List Zv → Zt → Prop) : sx_ K P [.aload 0, .tableswitch 0 9 12 #[], .iload 2, .dup2, .iaload, .iconst 1, .isub, .iastore, .aload 0, .tableswitch 0 9 12 #[], .iload 3, .dup2, .iaload, .iconst 1, .iadd, .iastore, .iconst 0, .ireturn] 82 = x_aload 0 (x_g1 109 592 (x_iload 2 (x_dup2 (x_iaload (x_iconst 1 (x_isub (x_iastore (x_aload 0 (x_g1 109 592 (x_iload 3 (x_dup2 (x_iaload (x_iconst 1 (x_iadd (x_iastore (x_iconst 0 (x_ireturn P))))))))))))))))) := ((xe_aload 0).trans (congrArg (x_aload 0) ((xe_g1 (kk := 109) rfl tl_9_12).trans (congrArg (x_g1 109 592) ((xe_iload 2).trans (congrArg (x_iload 2) ((xe_dup2).trans (congrArg (x_dup2) ((xe_iaload).trans (congrArg (x_iaload) ((xe_iconst 1).trans (congrArg (x_iconst 1) ((xe_isub).trans (congrArg (x_isub) ((xe_iastore).trans (congrArg (x_iastore) ((xe_aload 0).trans (congrArg (x_aload 0) ((xe_g1 (kk := 109) rfl tl_9_12).trans (congrArg (x_g1 109 592) ((xe_iload 3).trans (congrArg (x_iload 3) ((xe_dup2).trans (congrArg (x_dup2) ((xe_iaload).trans (congrArg (x_iaload) ((xe_iconst 1).trans (congrArg (x_iconst 1) ((xe_iadd).trans (congrArg (x_iadd) ((xe_iastore).trans (congrArg (x_iastore) ((xe_iconst 0).trans (congrArg (x_iconst 0) (xe_ireturn)))))))))))))))))))))))))))))))))))
abbrev po_X9_takePartHome_e (T : Zt) (m : Int) (k : Int) : Zt → Option Zv → Prop := fun T' r => ∃ x : Int, r = some (vI x) ∧ fr_ [(593, []), (594, []), (592, []), (590, [])] T T' ∧ ((x = 1 ∧ (∀ j, j < k + 1 → T' 590 0 j = T 590 0 j) ∧ (∀ j, k + 1 ≤ j → j < T 109 0 9 → 0 ≤ T' 590 0 j ∧ T' 590 0 j ≤ 2) ∧ (∀ v, 0 ≤ v → v < m → T' 592 0 v ≤ T 591 0 v) ∧ ∀ v, 0 ≤ v → v < m → T' 592 0 v = sf9_ (pk7_ (hsx_ T) (asx_ T) (fu_ (fun j => T' 590 0 j) k (T 590 0 k + 1)) v) 0 (T 109 0 9).toNat) ∨ (x = 0 ∧ (∀ v, T' 592 0 v = T 592 0 v) ∧ (∀ j, T' 590 0 j = T 590 0 j) ∧ NO7_ (hsx_ T) (asx_ T) (fun j => T 590 0 j) (fun j => T 591 0 j) (lv7_ (fun v => sf9_ (pk7_ (hsx_ T) (asx_ T) (fun j => T 590 0 j) v) 0 (T 109 0 9).toNat) (hsx_ T k) (asx_ T k)) (hsx_ T k) (k + 1) (T 109 0 9) m ∧ T 591 0 (hsx_ T k) < (lv7_ (fun v => sf9_ (pk7_ (hsx_ T) (asx_ T) (fun j => T 590 0 j) v) 0 (T 109 0 9).toNat) (hsx_ T k) (asx_ T k)) (hsx_ T k)))
set_option maxHeartbeats 4000000 in
theorem ct_X9_takePartHome_e {T : Zt} {m : Int} {k : Int} (hq9 : Q9_ T) (hka : KA_ T) (hk : 0 ≤ k ∧ k < T 109 0 9) (hm : m ≤ 12) (hne : ∀ k, 0 ≤ k → k < T 109 0 9 → hsx_ T k ≠ asx_ T k) (hrg : ∀ j, 0 ≤ j → j < T 109 0 9 → 0 ≤ T 590 0 j ∧ T 590 0 j ≤ 2) (hsm : ∀ k, 0 ≤ k → k < T 109 0 9 → (0 ≤ hsx_ T k ∧ hsx_ T k < m) ∧ (0 ≤ asx_ T k ∧ asx_ T k < m)) (hls : ∀ v, 0 ≤ v → v < m → T 592 0 v = sf9_ (pk7_ (hsx_ T) (asx_ T) (fun j => T 590 0 j) v) 0 (T 109 0 9).toNat) (hle : ∀ v, 0 ≤ v → v < m → T 592 0 v ≤ T 591 0 v) : Ct_ yX9_takePartHome zX9_takePartHome T [vR 109 0, vI k] (po_X9_takePartHome_e T m k) := by
  refine ct_of pn_9 rfl rfl (Nat.le_of_ble_eq_true rfl) (fun hT hav => ?_)
  have hr_k : -2147483648 ≤ k ∧ k ≤ 2147483647 := hav (vI k) (List.mem_cons_of_mem _ List.mem_cons_self)
  have hz : zX9_takePartHome.2.2.2.1 = some .boolean → ∀ (T' : Zt) (x : Int), po_X9_takePartHome_e T m k T' (some (vI x)) → 0 ≤ x ∧ x ≤ 1 := fun _ T' x h => by obtain ⟨y, e, -, hy⟩ := h; cases e; rcases hy with ⟨z, -⟩ | ⟨z, -⟩ <;> omega
  have hbo : 0 ≤ T 109 0 9 ∧ T 109 0 9 ≤ 40 := bd_f hT 109 9 tl_9_9 0
  have hnk := hne k hk.1 hk.2
  have hsk := hsm k hk.1 hk.2
  show J_ zX9_takePartHome T (po_X9_takePartHome_e T m k) 0 0 0 [some (vR 109 0), some (vI k), none, none] [] T
  refine j_blx (F := fX9) tb_X9 (nn_ _) bk_X9_takePartHome_e_0 bs_X9_takePartHome_e_0 hz (fun K hK => ?_)
  refine hK 2 _ [vI k, vR 109 0] T ?_
  refine j_callV (y := yX9_homeSeatOf) (Yc := zX9_homeSeatOf) (rest := []) [vI k] (ct_X9_homeSeatOf (T := T) hq9 hka (by omega)) cl_X9_145 (qd_c (by decide +kernel)) (nn_ _) rfl (rf_of rfl) (Nat.le_of_ble_eq_true rfl) (Nat.le_of_ble_eq_true rfl) (Nat.le_of_ble_eq_true rfl) rfl ?_
  rintro _ _ ⟨rfl, x1, rfl, hx1⟩
  show J_ zX9_takePartHome T (po_X9_takePartHome_e T m k) 0 0 5 _ [vI x1] T
  refine j_blx (F := fX9) tb_X9 (nn_ _) bk_X9_takePartHome_e_5 bs_X9_takePartHome_e_5 hz (fun K hK => ?_)
  refine hK 8 [some (vR 109 0), some (vI k), some (vI x1), none] [vI k, vR 109 0] T ?_
  refine j_callV (y := yX9_awaySeatOf) (Yc := zX9_awaySeatOf) (rest := []) [vI k] (ct_X9_awaySeatOf (T := T) hq9 hka (by omega)) cl_X9_154 (qd_c (by decide +kernel)) (nn_ _) rfl (rf_of rfl) (Nat.le_of_ble_eq_true rfl) (Nat.le_of_ble_eq_true rfl) (Nat.le_of_ble_eq_true rfl) rfl ?_
  rintro _ _ ⟨rfl, x2, rfl, hx2⟩
  show J_ zX9_takePartHome T (po_X9_takePartHome_e T m k) 0 0 11 _ [vI x2] T
  refine j_blx (F := fX9) tb_X9 (nn_ _) bk_X9_takePartHome_e_11 bs_X9_takePartHome_e_11 hz (fun K hK => ?_)
  refine ix_i (by omega) ?_
  intro b3 b3b
  have y4 := hls x1 (by omega) (by omega)
  have y5 := pk7_b (hs := hsx_ T) (aw := asx_ T) (hp := (fun j => T 590 0 j)) (v := x1) (T 109 0 9).toNat 0 (fun j a b => hrg j a (by omega))
  refine rg_i (by omega) ?_
  refine iy_i (by omega) (by omega) ?_
  refine x_nm (fun U6 hU6 => ?_)
  have e7 := up_f hU6
  refine ix_i (by omega) ?_
  intro b8 b8b
  have y9 : U6 592 0 x2 = T 592 0 x2 := up_g hU6 (fun q => by omega)
  have y10 := hls x2 (by omega) (by omega)
  have y11 := pk7_b (hs := hsx_ T) (aw := asx_ T) (hp := (fun j => T 590 0 j)) (v := x2) (T 109 0 9).toNat 0 (fun j a b => hrg j a (by omega))
  refine rg_i (by omega) ?_
  refine iy_i (by omega) (by omega) ?_
  refine x_nm (fun U12 hU12 => ?_)
  have e13 := up_f hU12
  have hxe : x1 = hsx_ T k ∧ x2 = asx_ T k := by omega
  have lv9 : ∀ v, U12 592 0 v = T 592 0 v + un7_ v x1 - un7_ v x2 := ld7_3 hU6 hU12 (by omega)
  have lw9 : ∀ v, 0 ≤ v → v < m → U12 592 0 v = (lv7_ (fun v => sf9_ (pk7_ (hsx_ T) (asx_ T) (fun j => T 590 0 j) v) 0 (T 109 0 9).toNat) (hsx_ T k) (asx_ T k)) v := fun v p q => by rw [lv9 v, hls v p q, hxe.1, hxe.2]; rfl
  have hp9 : ∀ j, U12 590 0 j = T 590 0 j := fun j => (up_k hU12 (by exact Nat.ne_of_beq_eq_false rfl) 0 j).trans (up_k hU6 (by exact Nat.ne_of_beq_eq_false rfl) 0 j)
  have hk2 := lv9 x1
  rw [un7_s, un7_n (show x1 ≠ x2 by omega)] at hk2
  refine ix_i (by omega) ?_
  intro b14 b14b
  refine ix_i (by omega) ?_
  intro b15 b15b
  have e16 : U12 591 0 x1 = T 591 0 x1 := (up_k hU12 (by exact Nat.ne_of_beq_eq_false rfl) 0 x1).trans (up_k hU6 (by exact Nat.ne_of_beq_eq_false rfl) 0 x1)
  rw [e16] at b15 b15b ⊢
  refine And.intro (fun c17 => ?_) (fun c17 => ?_)
  · refine hK 58 [some (vR 109 0), some (vI k), some (vI x1), some (vI x2)] [] U12 ?_
    refine j_blx (F := fX9) tb_X9 (nn_ _) bk_X9_takePartHome_e_58 bs_X9_takePartHome_e_58 hz (fun K hK => ?_)
    refine (show po_X9_takePartHome_e T m k U12 (some (vI 1)) from ?_)
    refine ⟨_, rfl, fr_u (fr_u (fr_0 _ _) hU6 rfl) hU12 rfl, Or.inl ⟨rfl, fun j _ => hp9 j, fun j a b => by rw [hp9]; exact hrg j (by omega) b, fun v a b => ?_, fun v a b => ?_⟩⟩
    · have y1 := hle v a b
      rw [lv9 v]
      by_cases z : v = x1
      · rw [z, un7_s, un7_n (show x1 ≠ x2 by omega)]
        omega
      · rw [un7_n z]
        have y2 := un7_b v x2
        omega
    · have y1 := pk7_s (hs := hsx_ T) (aw := asx_ T) (hp := (fun j => T 590 0 j)) (hp' := (fun j => T 590 0 j)) (n := T 109 0 9) (k := k) (e := 0) (h := 0) hk (hne k hk.1 hk.2) (gb7_0 (fun j a b => hrg j (by omega) b)) v
      rw [funext hp9, y1, ← hls v a b, lv9 v, hxe.1, hxe.2]
      omega
  · refine rg_i (by omega) ?_
    refine hK 52 _ [vI (k + 1), vI x1, vR 109 0] U12 ?_
    have fq18 : fr_ [(592, [])] T U12 := fr_u (fr_u (fr_0 _ _) hU6 rfl) hU12 rfl
    have e19 : U12 109 0 9 = T 109 0 9 := (up_k hU12 (by exact Nat.ne_of_beq_eq_false rfl) 0 9).trans (up_k hU6 (by exact Nat.ne_of_beq_eq_false rfl) 0 9)
    have eh : hsx_ U12 = hsx_ T := funext (hsx_e fq18 ⟨fun _ _ => rfl, fun _ => rfl, rfl, rfl, rfl, rfl, rfl⟩)
    have ea : asx_ U12 = asx_ T := funext (asx_e fq18 ⟨fun _ _ => rfl, fun _ => rfl, rfl, rfl, rfl, rfl, rfl⟩)
    have en : U12 109 0 9 = T 109 0 9 := (up_k hU12 (by exact Nat.ne_of_beq_eq_false rfl) 0 9).trans (up_k hU6 (by exact Nat.ne_of_beq_eq_false rfl) 0 9)
    have ec : (fun j => U12 591 0 j) = (fun j => T 591 0 j) := funext (fun j => (up_k hU12 (by exact Nat.ne_of_beq_eq_false rfl) 0 j).trans (up_k hU6 (by exact Nat.ne_of_beq_eq_false rfl) 0 j))
    have rb9 : ∀ v, 0 ≤ v → v < m → -1000 ≤ U12 592 0 v ∧ U12 592 0 v ≤ 1000 := fun v a b => by
      rw [lv9 v]
      have y1 := hls v a b
      have y2 := pk7_b (hs := hsx_ T) (aw := asx_ T) (hp := (fun j => T 590 0 j)) (v := v) (T 109 0 9).toNat 0 (fun j a b => hrg j a (by omega))
      have y3 := un7_b v x1
      have y4 := un7_b v x2
      omega
    refine j_callV (y := yX9_relieve) (Yc := zX9_relieve) (rest := []) [vI x1, vI (k + 1)] (ct_X9_relieve_e (T := U12) (m := m) (s := x1) (f := (k + 1)) (q9_f hq9 fq18 ⟨fun _ _ => rfl, fun _ => rfl, rfl, rfl, rfl, rfl, rfl⟩) (KA__f (ws := [(592, [])]) hka (fr_u (fr_u (fr_0 _ _) hU6 rfl) hU12 rfl) ⟨fun _ => rfl, fun _ => rfl, rfl, rfl, trivial⟩) (by omega) (by omega) hm (by rw [show U12 591 0 x1 = T 591 0 x1 from (up_k hU12 (by exact Nat.ne_of_beq_eq_false rfl) 0 x1).trans (up_k hU6 (by exact Nat.ne_of_beq_eq_false rfl) 0 x1)]; omega) (by rw [eh, ea, en]; exact fun k a b => hne k (by omega) b) (by rw [en]; exact fun j a b => by rw [hp9]; exact hrg j (by omega) b) rb9 (by rw [eh, ea, en]; exact fun k a b => hsm k (by omega) b)) cl_X9_148 (qd_c (by decide +kernel)) (nn_ _) rfl (rf_of rfl) (Nat.le_of_ble_eq_true rfl) (Nat.le_of_ble_eq_true rfl) (Nat.le_of_ble_eq_true rfl) rfl ?_
    rintro U21 _ ⟨x22, rfl, fU21, qU21⟩
    rw [eh, ea, en, ec] at qU21
    have x22b : x22 = 0 ∨ x22 = 1 := by rcases qU21 with ⟨z, -⟩ | ⟨z, -⟩ <;> omega
    show J_ zX9_takePartHome T (po_X9_takePartHome_e T m k) 0 0 55 _ [vI x22] U21
    refine j_blx (F := fX9) tb_X9 (nn_ _) bk_X9_takePartHome_e_55 bs_X9_takePartHome_e_55 hz (fun K hK => ?_)
    refine And.intro (fun c23 => ?_) (fun c23 => ?_)
    · refine hK 60 _ [] U21 ?_
      refine j_blx (F := fX9) tb_X9 (nn_ _) bk_X9_takePartHome_e_60 bs_X9_takePartHome_e_60 hz (fun K hK => ?_)
      refine ix_i (by omega) ?_
      intro b24 b24b
      have qzU21 := qU21.resolve_left (fun z => by have y := z.1; omega)
      have y25 : U21 592 0 x1 = T 592 0 x1 + un7_ x1 x1 - un7_ x1 x2 := (qzU21.2.1 x1).trans (lv9 x1)
      have y26 := hls x1 (by omega) (by omega)
      have y27 := pk7_b (hs := hsx_ T) (aw := asx_ T) (hp := (fun j => T 590 0 j)) (v := x1) (T 109 0 9).toNat 0 (fun j a b => hrg j a (by omega))
      have y28 := un7_b x1 x1
      have y29 := un7_b x1 x2
      refine rg_i (by omega) ?_
      refine iy_i (by omega) (by omega) ?_
      refine x_nm (fun U30 hU30 => ?_)
      have e31 := up_f hU30
      refine ix_i (by omega) ?_
      intro b32 b32b
      have qzU21 := qU21.resolve_left (fun z => by have y := z.1; omega)
      have y33 : U21 592 0 x2 = T 592 0 x2 + un7_ x2 x1 - un7_ x2 x2 := (qzU21.2.1 x2).trans (lv9 x2)
      have y34 := hls x2 (by omega) (by omega)
      have y35 := pk7_b (hs := hsx_ T) (aw := asx_ T) (hp := (fun j => T 590 0 j)) (v := x2) (T 109 0 9).toNat 0 (fun j a b => hrg j a (by omega))
      have y36 := un7_b x2 x1
      have y37 := un7_b x2 x2
      have y38 : U30 592 0 x2 = U21 592 0 x2 := up_g hU30 (fun q => by omega)
      refine rg_i (by omega) ?_
      refine iy_i (by omega) (by omega) ?_
      refine x_nm (fun U39 hU39 => ?_)
      have e40 := up_f hU39
      refine (show po_X9_takePartHome_e T m k U39 (some (vI 0)) from ?_)
      obtain ⟨-, ql, qp, qn⟩ := qU21.resolve_left (fun z => by have y := z.1; omega)
      have ep : (fun j => U12 590 0 j) = (fun j => T 590 0 j) := funext hp9
      rw [ep, hxe.1] at qn
      refine ⟨_, rfl, fr_u (fr_u (fr_t (fr_u (fr_u (fr_0 _ _) hU6 rfl) hU12 rfl) (fr_s fU21 rfl)) hU30 rfl) hU39 rfl, Or.inr ⟨rfl, ld7_4 (T := U21) (fun v => (ql v).trans (lv9 v)) hU30 hU39 (by omega), fun j => ((up_k hU39 (by exact Nat.ne_of_beq_eq_false rfl) 0 j).trans (up_k hU30 (by exact Nat.ne_of_beq_eq_false rfl) 0 j)).trans ((qp j).trans (hp9 j)), no7_c qn (fun v a b => ⟨lw9 v a b, rfl⟩), ?_⟩⟩
      have y1 := lw9 (hsx_ T k) (by omega) (by omega)
      rw [← y1, ← hxe.1]
      show T 591 0 x1 < U12 592 0 x1
      omega
    · refine (show po_X9_takePartHome_e T m k U21 (some (vI 1)) from ?_)
      obtain ⟨-, e9, ⟨e1, e2, e3, e4⟩, ql, qg⟩ := qU21.resolve_right (fun z => by have y := z.1; omega)
      have ql : ∀ v, U21 592 0 v = U12 592 0 v + un7_ v e9 - un7_ v x1 := ql
      have ep : (fun j => U12 590 0 j) = (fun j => T 590 0 j) := funext hp9
      rw [ep] at qg
      have e5 : U12 592 0 e9 < T 591 0 e9 := e4
      refine ⟨_, rfl, fr_t (fr_u (fr_u (fr_0 _ _) hU6 rfl) hU12 rfl) (fr_s fU21 rfl), Or.inl ⟨rfl, fun j a => ?_, fun j a b => ?_, fun v a b => ?_, fun v a b => ?_⟩⟩
      · exact qg.1 j a
      · exact qg.2.1 j a b
      · have y1 := hle v a b
        rw [ql v]
        by_cases z : v = e9
        · rw [z, un7_s, un7_n e3]
          omega
        · rw [un7_n z, lv9 v]
          have y2 := un7_b v x1
          have y3 := un7_b v x2
          omega
      · have y1 := pk7_s hk (hne k hk.1 hk.2) qg v
        have y2 : sf9_ (pk7_ (hsx_ T) (asx_ T) (fu_ (fun j => U21 590 0 j) k (T 590 0 k + 1)) v) 0 (T 109 0 9).toNat = sf9_ (pk7_ (hsx_ T) (asx_ T) (fun j => T 590 0 j) v) 0 (T 109 0 9).toNat + un7_ v (hsx_ T k) - un7_ v (asx_ T k) + un7_ v e9 - un7_ v x1 := y1
        rw [y2, ← hls v a b, ql v, lv9 v, hxe.1, hxe.2]
        all_goals omega
/-- nothing can be spread: who is short, and with whom -/
def SC7_ (T : Zt) (m s : Int) : Prop := ∃ hq i, (∀ j, 0 ≤ j → j < T 109 0 9 → 0 ≤ hq j ∧ hq j ≤ 2) ∧ (0 ≤ i ∧ i < m ∧ i ≠ s) ∧ NO7_ (hsx_ T) (asx_ T) hq (fun j => T 591 0 j) (fun v => sf9_ (pk7_ (hsx_ T) (asx_ T) hq v) 0 (T 109 0 9).toNat) i 0 (T 109 0 9) m ∧ T 591 0 i < sf9_ (pk7_ (hsx_ T) (asx_ T) hq i) 0 (T 109 0 9).toNat
theorem bk_X9_spreadParts_e_122 : ck_ fX9 (some .boolean) cX9_spreadParts 122 [.iload 3, .iconst 2, .if_icmp .ge 150, .aload 0, .iload 2] 129 = true := qck_r (nn_ _) (by decide +kernel)
theorem bs_X9_spreadParts_e_122 {P : Zt → Option Zv → Prop} (K : Int → Zl → List Zv → Zt → Prop) : sx_ K P [.iload 3, .iconst 2, .if_icmp .ge 150, .aload 0, .iload 2] 129 = x_iload 3 (x_iconst 2 (x_if_icmp .ge 150 K (x_aload 0 (x_iload 2 (K 129))))) := ((xe_iload 3).trans (congrArg (x_iload 3) ((xe_iconst 2).trans (congrArg (x_iconst 2) ((xe_if_icmp .ge 150).trans (congrArg (x_if_icmp .ge 150 K) ((xe_aload 0).trans (congrArg (x_aload 0) ((xe_iload 2).trans (congrArg (x_iload 2) xe_nil))))))))))
theorem bk_X9_spreadParts_e_150 : ck_ fX9 (some .boolean) cX9_spreadParts 150 [.aload 0, .tableswitch 0 9 4 #[], .aload 0, .tableswitch 0 9 8 #[], .iload 2, .iaload, .iconst 2, .aload 0, .tableswitch 0 9 10 #[], .iload 2, .iaload, .isub, .iastore, .iinc 2 1, .goto 107] 175 = true := qck_r (nn_ _) (by decide +kernel)
theorem bs_X9_spreadParts_e_150 {P : Zt → Option Zv → Prop} (K : Int → Zl → List Zv → Zt → Prop) : sx_ K P [.aload 0, .tableswitch 0 9 4 #[], .aload 0, .tableswitch 0 9 8 #[], .iload 2, .iaload, .iconst 2, .aload 0, .tableswitch 0 9 10 #[], .iload 2, .iaload, .isub, .iastore, .iinc 2 1, .goto 107] 175 = x_aload 0 (x_g1 109 584 (x_aload 0 (x_g1 109 588 (x_iload 2 (x_iaload (x_iconst 2 (x_aload 0 (x_g1 109 590 (x_iload 2 (x_iaload (x_isub (x_iastore (x_iinc 2 1 (x_goto 107 K)))))))))))))) := ((xe_aload 0).trans (congrArg (x_aload 0) ((xe_g1 (kk := 109) rfl tl_9_4).trans (congrArg (x_g1 109 584) ((xe_aload 0).trans (congrArg (x_aload 0) ((xe_g1 (kk := 109) rfl tl_9_8).trans (congrArg (x_g1 109 588) ((xe_iload 2).trans (congrArg (x_iload 2) ((xe_iaload).trans (congrArg (x_iaload) ((xe_iconst 2).trans (congrArg (x_iconst 2) ((xe_aload 0).trans (congrArg (x_aload 0) ((xe_g1 (kk := 109) rfl tl_9_10).trans (congrArg (x_g1 109 590) ((xe_iload 2).trans (congrArg (x_iload 2) ((xe_iaload).trans (congrArg (x_iaload) ((xe_isub).trans (congrArg (x_isub) ((xe_iastore).trans (congrArg (x_iastore) ((xe_iinc 2 1).trans (congrArg (x_iinc 2 1) (xe_goto 107)))))))))))))))))))))))))))))
theorem bk_X9_spreadParts_e_132 : ck_ fX9 (some .boolean) cX9_spreadParts 132 [.ifCond .eq 150, .aload 0, .tableswitch 0 9 10 #[], .iload 2, .iload 3, .iconst 1, .iadd, .iastore, .iinc 3 1, .goto 122] 150 = true := qck_r (nn_ _) (by decide +kernel)
theorem bs_X9_spreadParts_e_132 {P : Zt → Option Zv → Prop} (K : Int → Zl → List Zv → Zt → Prop) : sx_ K P [.ifCond .eq 150, .aload 0, .tableswitch 0 9 10 #[], .iload 2, .iload 3, .iconst 1, .iadd, .iastore, .iinc 3 1, .goto 122] 150 = x_ifCond .eq 150 K (x_aload 0 (x_g1 109 590 (x_iload 2 (x_iload 3 (x_iconst 1 (x_iadd (x_iastore (x_iinc 3 1 (x_goto 122 K))))))))) := ((xe_ifCond .eq 150).trans (congrArg (x_ifCond .eq 150 K) ((xe_aload 0).trans (congrArg (x_aload 0) ((xe_g1 (kk := 109) rfl tl_9_10).trans (congrArg (x_g1 109 590) ((xe_iload 2).trans (congrArg (x_iload 2) ((xe_iload 3).trans (congrArg (x_iload 3) ((xe_iconst 1).trans (congrArg (x_iconst 1) ((xe_iadd).trans (congrArg (x_iadd) ((xe_iastore).trans (congrArg (x_iastore) ((xe_iinc 3 1).trans (congrArg (x_iinc 3 1) (xe_goto 122)))))))))))))))))))
theorem bk_X9_spreadParts_e_107 : ck_ fX9 (some .boolean) cX9_spreadParts 107 [.iload 2, .aload 0, .tableswitch 0 9 9 #[], .if_icmp .ge 175, .aload 0, .tableswitch 0 9 10 #[], .iload 2, .iaload, .istore 3] 122 = true := qck_r (nn_ _) (by decide +kernel)
theorem bs_X9_spreadParts_e_107 {P : Zt → Option Zv → Prop} (K : Int → Zl → List Zv → Zt → Prop) : sx_ K P [.iload 2, .aload 0, .tableswitch 0 9 9 #[], .if_icmp .ge 175, .aload 0, .tableswitch 0 9 10 #[], .iload 2, .iaload, .istore 3] 122 = x_iload 2 (x_aload 0 (x_g0 109 9 0 40 (x_if_icmp .ge 175 K (x_aload 0 (x_g1 109 590 (x_iload 2 (x_iaload (x_istore 3 (K 122))))))))) := ((xe_iload 2).trans (congrArg (x_iload 2) ((xe_aload 0).trans (congrArg (x_aload 0) ((xe_g0 (kk := 109) rfl tl_9_9).trans (congrArg (x_g0 109 9 0 40) ((xe_if_icmp .ge 175).trans (congrArg (x_if_icmp .ge 175 K) ((xe_aload 0).trans (congrArg (x_aload 0) ((xe_g1 (kk := 109) rfl tl_9_10).trans (congrArg (x_g1 109 590) ((xe_iload 2).trans (congrArg (x_iload 2) ((xe_iaload).trans (congrArg (x_iaload) ((xe_istore 3).trans (congrArg (x_istore 3) xe_nil))))))))))))))))))
theorem bk_X9_spreadParts_e_175 : ck_ fX9 (some .boolean) cX9_spreadParts 175 [.iconst 1, .ireturn] 177 = true := qck_r (nn_ _) (by decide +kernel)
theorem bs_X9_spreadParts_e_175 {P : Zt → Option Zv → Prop} (K : Int → Zl → List Zv → Zt → Prop) : sx_ K P [.iconst 1, .ireturn] 177 = x_iconst 1 (x_ireturn P) := ((xe_iconst 1).trans (congrArg (x_iconst 1) (xe_ireturn)))
theorem bk_X9_spreadParts_e_76 : ck_ fX9 (some .boolean) cX9_spreadParts 76 [.iload 4, .iload 3, .if_icmp .ge 99, .aload 0, .iload 2, .iconst 0] 85 = true := qck_r (nn_ _) (by decide +kernel)
theorem bs_X9_spreadParts_e_76 {P : Zt → Option Zv → Prop} (K : Int → Zl → List Zv → Zt → Prop) : sx_ K P [.iload 4, .iload 3, .if_icmp .ge 99, .aload 0, .iload 2, .iconst 0] 85 = x_iload 4 (x_iload 3 (x_if_icmp .ge 99 K (x_aload 0 (x_iload 2 (x_iconst 0 (K 85)))))) := ((xe_iload 4).trans (congrArg (x_iload 4) ((xe_iload 3).trans (congrArg (x_iload 3) ((xe_if_icmp .ge 99).trans (congrArg (x_if_icmp .ge 99 K) ((xe_aload 0).trans (congrArg (x_aload 0) ((xe_iload 2).trans (congrArg (x_iload 2) ((xe_iconst 0).trans (congrArg (x_iconst 0) xe_nil))))))))))))
theorem bk_X9_spreadParts_e_99 : ck_ fX9 (some .boolean) cX9_spreadParts 99 [.iinc 2 1, .goto 39] 105 = true := qck_r (nn_ _) (by decide +kernel)
theorem bs_X9_spreadParts_e_99 {P : Zt → Option Zv → Prop} (K : Int → Zl → List Zv → Zt → Prop) : sx_ K P [.iinc 2 1, .goto 39] 105 = x_iinc 2 1 (x_goto 39 K) := ((xe_iinc 2 1).trans (congrArg (x_iinc 2 1) (xe_goto 39)))
theorem bk_X9_spreadParts_e_88 : ck_ fX9 (some .boolean) cX9_spreadParts 88 [.ifCond .ne 93, .iconst 0, .ireturn] 93 = true := qck_r (nn_ _) (by decide +kernel)
theorem bs_X9_spreadParts_e_88 {P : Zt → Option Zv → Prop} (K : Int → Zl → List Zv → Zt → Prop) : sx_ K P [.ifCond .ne 93, .iconst 0, .ireturn] 93 = x_ifCond .ne 93 K (x_iconst 0 (x_ireturn P)) := ((xe_ifCond .ne 93).trans (congrArg (x_ifCond .ne 93 K) ((xe_iconst 0).trans (congrArg (x_iconst 0) (xe_ireturn)))))
theorem bk_X9_spreadParts_e_93 : ck_ fX9 (some .boolean) cX9_spreadParts 93 [.iinc 4 1, .goto 76] 99 = true := qck_r (nn_ _) (by decide +kernel)
theorem bs_X9_spreadParts_e_93 {P : Zt → Option Zv → Prop} (K : Int → Zl → List Zv → Zt → Prop) : sx_ K P [.iinc 4 1, .goto 76] 99 = x_iinc 4 1 (x_goto 76 K) := ((xe_iinc 4 1).trans (congrArg (x_iinc 4 1) (xe_goto 76)))
theorem bk_X9_spreadParts_e_39 : ck_ fX9 (some .boolean) cX9_spreadParts 39 [.iload 2, .aload 0, .tableswitch 0 9 5 #[], .tableswitch 0 0 5 #[], .if_icmp .ge 105, .iload 2, .iload 1, .if_icmp .ne 59, .iconst 0, .goto 72] 59 = true := qck_r (nn_ _) (by decide +kernel)
theorem bs_X9_spreadParts_e_39 {P : Zt → Option Zv → Prop} (K : Int → Zl → List Zv → Zt → Prop) : sx_ K P [.iload 2, .aload 0, .tableswitch 0 9 5 #[], .tableswitch 0 0 5 #[], .if_icmp .ge 105, .iload 2, .iload 1, .if_icmp .ne 59, .iconst 0, .goto 72] 59 = x_iload 2 (x_aload 0 (x_g5 109 100 5 (x_g0 100 5 0 12 (x_if_icmp .ge 105 K (x_iload 2 (x_iload 1 (x_if_icmp .ne 59 K (x_iconst 0 (x_goto 72 K))))))))) := ((xe_iload 2).trans (congrArg (x_iload 2) ((xe_aload 0).trans (congrArg (x_aload 0) ((xe_g5 (kk := 109) rfl tl_9_5).trans (congrArg (x_g5 109 100 5) ((xe_g0 (kk := 100) rfl tl_0_5).trans (congrArg (x_g0 100 5 0 12) ((xe_if_icmp .ge 105).trans (congrArg (x_if_icmp .ge 105 K) ((xe_iload 2).trans (congrArg (x_iload 2) ((xe_iload 1).trans (congrArg (x_iload 1) ((xe_if_icmp .ne 59).trans (congrArg (x_if_icmp .ne 59 K) ((xe_iconst 0).trans (congrArg (x_iconst 0) (xe_goto 72)))))))))))))))))))
theorem bk_X9_spreadParts_e_105 : ck_ fX9 (some .boolean) cX9_spreadParts 105 [.iconst 0, .istore 2] 107 = true := qck_r (nn_ _) (by decide +kernel)
theorem bs_X9_spreadParts_e_105 {P : Zt → Option Zv → Prop} (K : Int → Zl → List Zv → Zt → Prop) : sx_ K P [.iconst 0, .istore 2] 107 = x_iconst 0 (x_istore 2 (K 107)) := ((xe_iconst 0).trans (congrArg (x_iconst 0) ((xe_istore 2).trans (congrArg (x_istore 2) xe_nil))))
theorem bk_X9_spreadParts_e_59 : ck_ fX9 (some .boolean) cX9_spreadParts 59 [.aload 0, .tableswitch 0 9 12 #[], .iload 2, .iaload, .aload 0, .tableswitch 0 9 11 #[], .iload 2, .iaload, .isub, .istore 3, .iconst 0, .istore 4] 76 = true := qck_r (nn_ _) (by decide +kernel)
theorem bs_X9_spreadParts_e_59 {P : Zt → Option Zv → Prop} (K : Int → Zl → List Zv → Zt → Prop) : sx_ K P [.aload 0, .tableswitch 0 9 12 #[], .iload 2, .iaload, .aload 0, .tableswitch 0 9 11 #[], .iload 2, .iaload, .isub, .istore 3, .iconst 0, .istore 4] 76 = x_aload 0 (x_g1 109 592 (x_iload 2 (x_iaload (x_aload 0 (x_g1 109 591 (x_iload 2 (x_iaload (x_isub (x_istore 3 (x_iconst 0 (x_istore 4 (K 76)))))))))))) := ((xe_aload 0).trans (congrArg (x_aload 0) ((xe_g1 (kk := 109) rfl tl_9_12).trans (congrArg (x_g1 109 592) ((xe_iload 2).trans (congrArg (x_iload 2) ((xe_iaload).trans (congrArg (x_iaload) ((xe_aload 0).trans (congrArg (x_aload 0) ((xe_g1 (kk := 109) rfl tl_9_11).trans (congrArg (x_g1 109 591) ((xe_iload 2).trans (congrArg (x_iload 2) ((xe_iaload).trans (congrArg (x_iaload) ((xe_isub).trans (congrArg (x_isub) ((xe_istore 3).trans (congrArg (x_istore 3) ((xe_iconst 0).trans (congrArg (x_iconst 0) ((xe_istore 4).trans (congrArg (x_istore 4) xe_nil))))))))))))))))))))))))
theorem bk_X9_spreadParts_e_72 : ck_ fX9 (some .boolean) cX9_spreadParts 72 [.istore 3, .iconst 0, .istore 4] 76 = true := qck_r (nn_ _) (by decide +kernel)
theorem bs_X9_spreadParts_e_72 {P : Zt → Option Zv → Prop} (K : Int → Zl → List Zv → Zt → Prop) : sx_ K P [.istore 3, .iconst 0, .istore 4] 76 = x_istore 3 (x_iconst 0 (x_istore 4 (K 76))) := ((xe_istore 3).trans (congrArg (x_istore 3) ((xe_iconst 0).trans (congrArg (x_iconst 0) ((xe_istore 4).trans (congrArg (x_istore 4) xe_nil))))))
theorem bk_X9_spreadParts_e_2 : ck_ fX9 (some .boolean) cX9_spreadParts 2 [.iload 2, .aload 0, .tableswitch 0 9 9 #[], .if_icmp .ge 37, .aload 0, .tableswitch 0 9 10 #[], .iload 2, .iconst 2, .iastore, .aload 0, .tableswitch 0 9 12 #[], .aload 0, .iload 2] 23 = true := qck_r (nn_ _) (by decide +kernel)
theorem bs_X9_spreadParts_e_2 {P : Zt → Option Zv → Prop} (K : Int → Zl → List Zv → Zt → Prop) : sx_ K P [.iload 2, .aload 0, .tableswitch 0 9 9 #[], .if_icmp .ge 37, .aload 0, .tableswitch 0 9 10 #[], .iload 2, .iconst 2, .iastore, .aload 0, .tableswitch 0 9 12 #[], .aload 0, .iload 2] 23 = x_iload 2 (x_aload 0 (x_g0 109 9 0 40 (x_if_icmp .ge 37 K (x_aload 0 (x_g1 109 590 (x_iload 2 (x_iconst 2 (x_iastore (x_aload 0 (x_g1 109 592 (x_aload 0 (x_iload 2 (K 23))))))))))))) := ((xe_iload 2).trans (congrArg (x_iload 2) ((xe_aload 0).trans (congrArg (x_aload 0) ((xe_g0 (kk := 109) rfl tl_9_9).trans (congrArg (x_g0 109 9 0 40) ((xe_if_icmp .ge 37).trans (congrArg (x_if_icmp .ge 37 K) ((xe_aload 0).trans (congrArg (x_aload 0) ((xe_g1 (kk := 109) rfl tl_9_10).trans (congrArg (x_g1 109 590) ((xe_iload 2).trans (congrArg (x_iload 2) ((xe_iconst 2).trans (congrArg (x_iconst 2) ((xe_iastore).trans (congrArg (x_iastore) ((xe_aload 0).trans (congrArg (x_aload 0) ((xe_g1 (kk := 109) rfl tl_9_12).trans (congrArg (x_g1 109 592) ((xe_aload 0).trans (congrArg (x_aload 0) ((xe_iload 2).trans (congrArg (x_iload 2) xe_nil))))))))))))))))))))))))))
theorem bk_X9_spreadParts_e_37 : ck_ fX9 (some .boolean) cX9_spreadParts 37 [.iconst 0, .istore 2] 39 = true := qck_r (nn_ _) (by decide +kernel)
theorem bs_X9_spreadParts_e_37 {P : Zt → Option Zv → Prop} (K : Int → Zl → List Zv → Zt → Prop) : sx_ K P [.iconst 0, .istore 2] 39 = x_iconst 0 (x_istore 2 (K 39)) := ((xe_iconst 0).trans (congrArg (x_iconst 0) ((xe_istore 2).trans (congrArg (x_istore 2) xe_nil))))
theorem bk_X9_spreadParts_e_26 : ck_ fX9 (some .boolean) cX9_spreadParts 26 [.dup2, .iaload, .iconst 2, .iadd, .iastore, .iinc 2 1, .goto 2] 37 = true := qck_r (nn_ _) (by decide +kernel)
theorem bs_X9_spreadParts_e_26 {P : Zt → Option Zv → Prop} (K : Int → Zl → List Zv → Zt → Prop) : sx_ K P [.dup2, .iaload, .iconst 2, .iadd, .iastore, .iinc 2 1, .goto 2] 37 = x_dup2 (x_iaload (x_iconst 2 (x_iadd (x_iastore (x_iinc 2 1 (x_goto 2 K)))))) := ((xe_dup2).trans (congrArg (x_dup2) ((xe_iaload).trans (congrArg (x_iaload) ((xe_iconst 2).trans (congrArg (x_iconst 2) ((xe_iadd).trans (congrArg (x_iadd) ((xe_iastore).trans (congrArg (x_iastore) ((xe_iinc 2 1).trans (congrArg (x_iinc 2 1) (xe_goto 2)))))))))))))
theorem bk_X9_spreadParts_e_0 : ck_ fX9 (some .boolean) cX9_spreadParts 0 [.iconst 0, .istore 2] 2 = true := qck_r (nn_ _) (by decide +kernel)
theorem bs_X9_spreadParts_e_0 {P : Zt → Option Zv → Prop} (K : Int → Zl → List Zv → Zt → Prop) : sx_ K P [.iconst 0, .istore 2] 2 = x_iconst 0 (x_istore 2 (K 2)) := ((xe_iconst 0).trans (congrArg (x_iconst 0) ((xe_istore 2).trans (congrArg (x_istore 2) xe_nil))))
abbrev po_X9_spreadParts_e (T : Zt) (m : Int) (s : Int) : Zt → Option Zv → Prop := fun T' r => ∃ x : Int, r = some (vI x) ∧ fr_ [(593, []), (594, []), (592, []), (590, []), (584, [])] T T' ∧ ((x = 0 ∧ SC7_ T m s) ∨ (x = 1 ∧ (∀ j, 0 ≤ j → j < T 109 0 9 → 0 ≤ T' 590 0 j ∧ T' 590 0 j ≤ 2) ∧ (∀ v, 0 ≤ v → v < m → sf9_ (pk7_ (hsx_ T) (asx_ T) (fun j => T' 590 0 j) v) 0 (T 109 0 9).toNat ≤ T 591 0 v) ∧ (∀ k, 0 ≤ k → k < T 109 0 9 → ST7_ (hsx_ T) (asx_ T) (fun j => T' 590 0 j) (fun j => T 591 0 j) (T 109 0 9) m k) ∧ (∀ j, 0 ≤ j → j < T 109 0 9 → T' 584 0 (T 588 0 j) = 2 - T' 590 0 j) ∧ (∀ y, (∀ j, 0 ≤ j → j < T 109 0 9 → y ≠ T 588 0 j) → T' 584 0 y = T 584 0 y)))
set_option maxHeartbeats 4000000 in
theorem ct_X9_spreadParts_e {T : Zt} {m : Int} {s : Int} (hq9 : Q9_ T) (hka : KA_ T) (hs : 0 ≤ s ∧ s < m) (hm : m ≤ 12) (hne : ∀ k, 0 ≤ k → k < T 109 0 9 → hsx_ T k ≠ asx_ T k) (hsm : ∀ k, 0 ≤ k → k < T 109 0 9 → (0 ≤ hsx_ T k ∧ hsx_ T k < m) ∧ (0 ≤ asx_ T k ∧ asx_ T k < m)) (hme : T 100 (T 109 0 5 - 1) 5 = m) (hz0 : ∀ v, 0 ≤ v → v < m → T 592 0 v = 0) (hcs : T 591 0 s = 0) (hns : ∀ k, 0 ≤ k → k < T 109 0 9 → hsx_ T k ≠ s ∧ asx_ T k ≠ s) (hcb : ∀ v, 0 ≤ v → v < m → -1 ≤ T 591 0 v ∧ T 591 0 v ≤ 1000000) (hop : ∀ i j, 0 ≤ i → i < j → j < T 109 0 9 → T 588 0 i ≠ T 588 0 j) : Ct_ yX9_spreadParts zX9_spreadParts T [vR 109 0, vI s] (po_X9_spreadParts_e T m s) := by
  refine ct_of pn_9 rfl rfl (Nat.le_of_ble_eq_true rfl) (fun hT hav => ?_)
  have hr_s : -2147483648 ≤ s ∧ s ≤ 2147483647 := hav (vI s) (List.mem_cons_of_mem _ List.mem_cons_self)
  have hz : zX9_spreadParts.2.2.2.1 = some .boolean → ∀ (T' : Zt) (x : Int), po_X9_spreadParts_e T m s T' (some (vI x)) → 0 ≤ x ∧ x ≤ 1 := fun _ T' x h => by obtain ⟨y, e, -, hy⟩ := h; cases e; rcases hy with ⟨z, -⟩ | ⟨z, -⟩ <;> omega
  have hbo : 0 ≤ T 109 0 9 ∧ T 109 0 9 ≤ 40 := bd_f hT 109 9 tl_9_9 0
  have hct := hq9.1
  show J_ zX9_spreadParts T (po_X9_spreadParts_e T m s) 0 0 0 [some (vR 109 0), some (vI s), none, none, none] [] T
  have c_107 : ∀ (nn : Nat) (k : Int) (T4 : Zt), ((40 - k).toNat) ≤ nn → (fr_ [(593, []), (594, []), (592, []), (590, []), (584, [])] T T4) → (0 ≤ k ∧ k ≤ T 109 0 9) → (∀ j, 0 ≤ j → j < T 109 0 9 → 0 ≤ T4 590 0 j ∧ T4 590 0 j ≤ 2) → (∀ v, 0 ≤ v → v < m → T4 592 0 v = sf9_ (pk7_ (hsx_ T) (asx_ T) (fun j => T4 590 0 j) v) 0 (T 109 0 9).toNat) → (∀ v, 0 ≤ v → v < m → T4 592 0 v ≤ T 591 0 v) → (∀ j, 0 ≤ j → j < k → ST7_ (hsx_ T) (asx_ T) (fun j => T4 590 0 j) (fun j => T 591 0 j) (T 109 0 9) m j) → (∀ j, 0 ≤ j → j < k → T4 584 0 (T 588 0 j) = 2 - T4 590 0 j) → (∀ y, (∀ j, 0 ≤ j → j < k → y ≠ T 588 0 j) → T4 584 0 y = T 584 0 y) → J_ zX9_spreadParts T (po_X9_spreadParts_e T m s) 0 0 107 [some (vR 109 0), some (vI s), some (vI k), none, none] [] T4 := by
    intro nn
    induction nn using Nat.strongRecOn with
    | _ nn ih_107 =>
      intro k T4 hm_107 hf_107 i4 r4 ls4 le4 st4 rs4 ro4
      replace hm_107 := fun (_ : Unit) => hm_107
      have c_122 : ∀ (nn : Nat) (n : Int) (T5 : Zt), ((2 - n).toNat) ≤ nn → (fr_ [(593, []), (594, []), (592, []), (590, []), (584, [])] T T5) → (k < T 109 0 9 ∧ 0 ≤ n ∧ n ≤ 2) → (n = T5 590 0 k) → (∀ j, 0 ≤ j → j < T 109 0 9 → 0 ≤ T5 590 0 j ∧ T5 590 0 j ≤ 2) → (∀ v, 0 ≤ v → v < m → T5 592 0 v = sf9_ (pk7_ (hsx_ T) (asx_ T) (fun j => T5 590 0 j) v) 0 (T 109 0 9).toNat) → (∀ v, 0 ≤ v → v < m → T5 592 0 v ≤ T 591 0 v) → (∀ j, 0 ≤ j → j < k → ST7_ (hsx_ T) (asx_ T) (fun j => T5 590 0 j) (fun j => T 591 0 j) (T 109 0 9) m j) → (∀ j, 0 ≤ j → j < k → T5 584 0 (T 588 0 j) = 2 - T5 590 0 j) → (∀ y, (∀ j, 0 ≤ j → j < k → y ≠ T 588 0 j) → T5 584 0 y = T 584 0 y) → J_ zX9_spreadParts T (po_X9_spreadParts_e T m s) 0 0 122 [some (vR 109 0), some (vI s), some (vI k), some (vI n), none] [] T5 := by
        intro nn
        induction nn using Nat.strongRecOn with
        | _ nn ih_122 =>
          intro n T5 hm_122 hf_122 i5 en5 r5 ls5 le5 st5 rs5 ro5
          replace hm_122 := fun (_ : Unit) => hm_122
          refine j_blx (F := fX9) tb_X9 (nn_ _) bk_X9_spreadParts_e_122 bs_X9_spreadParts_e_122 hz (fun K hK => ?_)
          refine And.intro (fun c1 => ?_) (fun c1 => ?_)
          · refine hK 150 _ [] T5 ?_
            refine j_blx (F := fX9) tb_X9 (nn_ _) bk_X9_spreadParts_e_150 bs_X9_spreadParts_e_150 hz (fun K hK => ?_)
            refine ix_i (by omega) ?_
            intro b2 b2b
            have e3 : T5 588 0 k = T 588 0 k := hf_122 588 0 k rfl
            rw [e3] at b2 b2b ⊢
            refine ix_i (by omega) ?_
            intro b4 b4b
            refine rg_i (by omega) ?_
            refine iy_i (by omega) (by omega) ?_
            refine x_nm (fun U5 hU5 => ?_)
            have e6 := up_f hU5
            refine rg_i (by omega) ?_
            refine hK 107 [some (vR 109 0), some (vI s), some (vI (k + 1)), some (vI n), none] [] U5 ?_
            refine j_drq [some (vR 109 0), some (vI s), some (vI (k + 1)), none, none] (drq_s (drq_s (drq_s (drq_n (drq_n drq_0))))) ?_
            refine ih_107 _ ?_ (k + 1) U5 (Nat.le_refl _) ?_ ?_ ?_ ?_ ?_ ?_ ?_ ?_
            · have hm_107 := hm_107 (); omega
            · exact fr_u (fr_t (fr_0 _ _) (fr_s hf_122 rfl)) hU5 rfl
            · omega
            · have eq9 : ∀ j, U5 590 0 j = T5 590 0 j := fun j => (up_k hU5 (by exact Nat.ne_of_beq_eq_false rfl) 0 j)
              have el9 : ∀ j, U5 592 0 j = T5 592 0 j := fun j => (up_k hU5 (by exact Nat.ne_of_beq_eq_false rfl) 0 j)
              exact fun j a b => by rw [eq9]; exact r5 j a b
            · have eq9 : ∀ j, U5 590 0 j = T5 590 0 j := fun j => (up_k hU5 (by exact Nat.ne_of_beq_eq_false rfl) 0 j)
              have el9 : ∀ j, U5 592 0 j = T5 592 0 j := fun j => (up_k hU5 (by exact Nat.ne_of_beq_eq_false rfl) 0 j)
              intro v a b
              rw [el9, funext eq9]
              exact ls5 v a b
            · have eq9 : ∀ j, U5 590 0 j = T5 590 0 j := fun j => (up_k hU5 (by exact Nat.ne_of_beq_eq_false rfl) 0 j)
              have el9 : ∀ j, U5 592 0 j = T5 592 0 j := fun j => (up_k hU5 (by exact Nat.ne_of_beq_eq_false rfl) 0 j)
              exact fun v a b => by rw [el9]; exact le5 v a b
            · have eq9 : ∀ j, U5 590 0 j = T5 590 0 j := fun j => (up_k hU5 (by exact Nat.ne_of_beq_eq_false rfl) 0 j)
              have el9 : ∀ j, U5 592 0 j = T5 592 0 j := fun j => (up_k hU5 (by exact Nat.ne_of_beq_eq_false rfl) 0 j)
              intro j a b
              rw [funext eq9]
              by_cases z : j = k
              · rw [z]
                exact Or.inl (show T5 590 0 k = 2 by have y := r5 k (by omega) (by omega); omega)
              · exact st5 j a (by omega)
            · have eq9 : ∀ j, U5 590 0 j = T5 590 0 j := fun j => (up_k hU5 (by exact Nat.ne_of_beq_eq_false rfl) 0 j)
              have el9 : ∀ j, U5 592 0 j = T5 592 0 j := fun j => (up_k hU5 (by exact Nat.ne_of_beq_eq_false rfl) 0 j)
              intro j a b
              by_cases z : j = k
              · rw [z, eq9, ← en5]
                have y9 := up_f hU5
                omega
              · rw [up_g hU5 (fun q => by have w := hop j k a (by omega) (by omega); omega), eq9, show T5 584 0 (T 588 0 j) = T5 584 0 (T 588 0 j) from rfl]
                exact rs5 j a (by omega)
            · intro y hy
              rw [up_g hU5 (fun q => hy k (by omega) (by omega) (by omega)), show T5 584 0 y = T5 584 0 y from rfl]
              exact ro5 y (fun j a b => hy j a (by omega))
          · refine hK 129 [some (vR 109 0), some (vI s), some (vI k), some (vI n), none] [vI k, vR 109 0] T5 ?_
            have fq7 : fr_ [(593, []), (594, []), (592, []), (590, []), (584, [])] T T5 := fr_t (fr_0 _ _) (fr_s hf_122 rfl)
            have e8 : T5 109 0 9 = T 109 0 9 := hf_122 109 0 9 rfl
            have eh : hsx_ T5 = hsx_ T := funext (hsx_e fq7 ⟨fun _ _ => rfl, fun _ => rfl, rfl, rfl, rfl, rfl, rfl⟩)
            have ea : asx_ T5 = asx_ T := funext (asx_e fq7 ⟨fun _ _ => rfl, fun _ => rfl, rfl, rfl, rfl, rfl, rfl⟩)
            have en : T5 109 0 9 = T 109 0 9 := hf_122 109 0 9 rfl
            have ec : (fun j => T5 591 0 j) = (fun j => T 591 0 j) := funext (fun j => hf_122 591 0 j rfl)
            have ecv : ∀ v, T5 591 0 v = T 591 0 v := fun v => hf_122 591 0 v rfl
            refine j_callV (y := yX9_takePartHome) (Yc := zX9_takePartHome) (rest := []) [vI k] (ct_X9_takePartHome_e (T := T5) (m := m) (q9_f hq9 fq7 ⟨fun _ _ => rfl, fun _ => rfl, rfl, rfl, rfl, rfl, rfl⟩) (KA__f (ws := [(593, []), (594, []), (592, []), (590, []), (584, [])]) hka (fr_t (fr_0 _ _) (fr_s hf_122 rfl)) ⟨fun _ => rfl, fun _ => rfl, rfl, rfl, trivial⟩) (by omega) hm (by rw [eh, ea, en]; exact hne) (by rw [en]; exact r5) (by rw [eh, ea, en]; exact hsm) (by rw [eh, ea, en]; exact ls5) (by exact fun v a b => by rw [ecv]; exact le5 v a b)) cl_X9_151 (qd_c (by decide +kernel)) (nn_ _) rfl (rf_of rfl) (Nat.le_of_ble_eq_true rfl) (Nat.le_of_ble_eq_true rfl) (Nat.le_of_ble_eq_true rfl) rfl ?_
            rintro U9 _ ⟨x10, rfl, fU9, qU9⟩
            rw [eh, ea, en, ec] at qU9
            have qU9e : x10 = 0 ∨ x10 = 1 := by rcases qU9 with ⟨z, -⟩ | ⟨z, -⟩ <;> omega
            show J_ zX9_spreadParts T (po_X9_spreadParts_e T m s) 0 0 132 _ [vI x10] U9
            refine j_blx (F := fX9) tb_X9 (nn_ _) bk_X9_spreadParts_e_132 bs_X9_spreadParts_e_132 hz (fun K hK => ?_)
            refine And.intro (fun c11 => ?_) (fun c11 => ?_)
            · have qzU9 := qU9.resolve_left (fun z => by have y := z.1; omega)
              have qyU9 := qzU9.2.2.1 k
              refine hK 150 _ [] U9 ?_
              refine j_blx (F := fX9) tb_X9 (nn_ _) bk_X9_spreadParts_e_150 bs_X9_spreadParts_e_150 hz (fun K hK => ?_)
              refine ix_i (by omega) ?_
              intro b12 b12b
              have e13 : U9 588 0 k = T 588 0 k := (fU9 588 0 k rfl).trans (hf_122 588 0 k rfl)
              rw [e13] at b12 b12b ⊢
              refine ix_i (by omega) ?_
              intro b14 b14b
              refine rg_i (by omega) ?_
              refine iy_i (by omega) (by omega) ?_
              refine x_nm (fun U15 hU15 => ?_)
              have e16 := up_f hU15
              refine rg_i (by omega) ?_
              refine hK 107 [some (vR 109 0), some (vI s), some (vI (k + 1)), some (vI n), none] [] U15 ?_
              refine j_drq [some (vR 109 0), some (vI s), some (vI (k + 1)), none, none] (drq_s (drq_s (drq_s (drq_n (drq_n drq_0))))) ?_
              refine ih_107 _ ?_ (k + 1) U15 (Nat.le_refl _) ?_ ?_ ?_ ?_ ?_ ?_ ?_ ?_
              · have hm_107 := hm_107 (); omega
              · exact fr_u (fr_t (fr_t (fr_0 _ _) (fr_s hf_122 rfl)) (fr_s fU9 rfl)) hU15 rfl
              · omega
              · have eq9 : ∀ j, U15 590 0 j = T5 590 0 j := fun j => (up_k hU15 (by exact Nat.ne_of_beq_eq_false rfl) 0 j).trans (qzU9.2.2.1 j)
                have el9 : ∀ j, U15 592 0 j = T5 592 0 j := fun j => (up_k hU15 (by exact Nat.ne_of_beq_eq_false rfl) 0 j).trans (qzU9.2.1 j)
                exact fun j a b => by rw [eq9]; exact r5 j a b
              · have eq9 : ∀ j, U15 590 0 j = T5 590 0 j := fun j => (up_k hU15 (by exact Nat.ne_of_beq_eq_false rfl) 0 j).trans (qzU9.2.2.1 j)
                have el9 : ∀ j, U15 592 0 j = T5 592 0 j := fun j => (up_k hU15 (by exact Nat.ne_of_beq_eq_false rfl) 0 j).trans (qzU9.2.1 j)
                intro v a b
                rw [el9, funext eq9]
                exact ls5 v a b
              · have eq9 : ∀ j, U15 590 0 j = T5 590 0 j := fun j => (up_k hU15 (by exact Nat.ne_of_beq_eq_false rfl) 0 j).trans (qzU9.2.2.1 j)
                have el9 : ∀ j, U15 592 0 j = T5 592 0 j := fun j => (up_k hU15 (by exact Nat.ne_of_beq_eq_false rfl) 0 j).trans (qzU9.2.1 j)
                exact fun v a b => by rw [el9]; exact le5 v a b
              · have eq9 : ∀ j, U15 590 0 j = T5 590 0 j := fun j => (up_k hU15 (by exact Nat.ne_of_beq_eq_false rfl) 0 j).trans (qzU9.2.2.1 j)
                have el9 : ∀ j, U15 592 0 j = T5 592 0 j := fun j => (up_k hU15 (by exact Nat.ne_of_beq_eq_false rfl) 0 j).trans (qzU9.2.1 j)
                intro j a b
                rw [funext eq9]
                by_cases z : j = k
                · rw [z]
                  exact Or.inr ⟨(fun j => T5 590 0 j), fun _ _ => rfl, r5, qzU9.2.2.2.1, by
                    have y9 := qzU9.2.2.2.2
                    rw [hf_122 591 0 _ rfl] at y9
                    exact y9⟩
                · exact st5 j a (by omega)
              · have eq9 : ∀ j, U15 590 0 j = T5 590 0 j := fun j => (up_k hU15 (by exact Nat.ne_of_beq_eq_false rfl) 0 j).trans (qzU9.2.2.1 j)
                have el9 : ∀ j, U15 592 0 j = T5 592 0 j := fun j => (up_k hU15 (by exact Nat.ne_of_beq_eq_false rfl) 0 j).trans (qzU9.2.1 j)
                intro j a b
                by_cases z : j = k
                · rw [z, eq9, ← en5]
                  have y9 := up_f hU15
                  omega
                · rw [up_g hU15 (fun q => by have w := hop j k a (by omega) (by omega); omega), eq9, show U9 584 0 (T 588 0 j) = T5 584 0 (T 588 0 j) from fU9 584 0 _ rfl]
                  exact rs5 j a (by omega)
              · intro y hy
                rw [up_g hU15 (fun q => hy k (by omega) (by omega) (by omega)), show U9 584 0 y = T5 584 0 y from fU9 584 0 y rfl]
                exact ro5 y (fun j a b => hy j a (by omega))
            · have qzU9 := qU9.resolve_right (fun z => by have y := z.1; omega)
              refine rg_i (by omega) ?_
              refine iy_i (by omega) (by omega) ?_
              refine x_nm (fun U17 hU17 => ?_)
              have e18 := up_f hU17
              refine rg_i (by omega) ?_
              refine hK 122 [some (vR 109 0), some (vI s), some (vI k), some (vI (n + 1)), none] [] U17 ?_
              refine ih_122 _ ?_ (n + 1) U17 (Nat.le_refl _) ?_ ?_ ?_ ?_ ?_ ?_ ?_ ?_ ?_
              · have hm_122 := hm_122 (); omega
              · exact fr_u (fr_t (fr_t (fr_0 _ _) (fr_s hf_122 rfl)) (fr_s fU9 rfl)) hU17 rfl
              · omega
              · exact (up_f hU17).symm
              · have e5k : ∀ j, U17 590 0 j = fu_ (fun j => U9 590 0 j) k (T5 590 0 k + 1) j := fun j => by
                  by_cases z : j = k
                  · rw [z, fu_s, ← en5]; exact up_f hU17
                  · rw [fu_n z]; exact up_g hU17 (fun q => z q.2.2)
                have ej : ∀ j, j < k → U17 590 0 j = T5 590 0 j := fun j a => by rw [e5k j, fu_n (by omega)]; exact qzU9.2.1 j (by omega)
                intro j a b
                by_cases z : j = k
                · rw [z, e5k k, fu_s]
                  have y := r5 k (by omega) (by omega)
                  omega
                · by_cases w : j < k
                  · rw [ej j w]; exact r5 j a b
                  · rw [e5k j, fu_n z]; exact qzU9.2.2.1 j (by omega) b
              · have e5k : ∀ j, U17 590 0 j = fu_ (fun j => U9 590 0 j) k (T5 590 0 k + 1) j := fun j => by
                  by_cases z : j = k
                  · rw [z, fu_s, ← en5]; exact up_f hU17
                  · rw [fu_n z]; exact up_g hU17 (fun q => z q.2.2)
                intro v a b
                rw [show U17 592 0 v = U9 592 0 v from up_k hU17 (by exact Nat.ne_of_beq_eq_false rfl) _ _, qzU9.2.2.2.2 v a b, show (fun j => U17 590 0 j) = fu_ (fun j => U9 590 0 j) k (T5 590 0 k + 1) from funext e5k]
              · intro v a b
                rw [show U17 592 0 v = U9 592 0 v from up_k hU17 (by exact Nat.ne_of_beq_eq_false rfl) _ _, ← ecv v]
                exact qzU9.2.2.2.1 v a b
              · have e5k : ∀ j, U17 590 0 j = fu_ (fun j => U9 590 0 j) k (T5 590 0 k + 1) j := fun j => by
                  by_cases z : j = k
                  · rw [z, fu_s, ← en5]; exact up_f hU17
                  · rw [fu_n z]; exact up_g hU17 (fun q => z q.2.2)
                have ej : ∀ j, j < k → U17 590 0 j = T5 590 0 j := fun j a => by rw [e5k j, fu_n (by omega)]; exact qzU9.2.1 j (by omega)
                intro j a b
                exact st7_m (st5 j a b) (fun i9 w => ej i9 (by omega))
              · have e5k : ∀ j, U17 590 0 j = fu_ (fun j => U9 590 0 j) k (T5 590 0 k + 1) j := fun j => by
                  by_cases z : j = k
                  · rw [z, fu_s, ← en5]; exact up_f hU17
                  · rw [fu_n z]; exact up_g hU17 (fun q => z q.2.2)
                have ej : ∀ j, j < k → U17 590 0 j = T5 590 0 j := fun j a => by rw [e5k j, fu_n (by omega)]; exact qzU9.2.1 j (by omega)
                intro j a b
                rw [ej j b, show U17 584 0 (T 588 0 j) = T5 584 0 (T 588 0 j) from (up_k hU17 (by exact Nat.ne_of_beq_eq_false rfl) _ _).trans (fU9 584 0 _ rfl)]
                exact rs5 j a b
              · intro y hy
                rw [show U17 584 0 y = T5 584 0 y from (up_k hU17 (by exact Nat.ne_of_beq_eq_false rfl) _ _).trans (fU9 584 0 _ rfl)]
                exact ro5 y hy
      refine j_blx (F := fX9) tb_X9 (nn_ _) bk_X9_spreadParts_e_107 bs_X9_spreadParts_e_107 hz (fun K hK => ?_)
      intro b19 b19b
      have e20 : T4 109 0 9 = T 109 0 9 := hf_107 109 0 9 rfl
      rw [e20] at b19 b19b ⊢
      refine And.intro (fun c21 => ?_) (fun c21 => ?_)
      · refine hK 175 _ [] T4 ?_
        refine j_blx (F := fX9) tb_X9 (nn_ _) bk_X9_spreadParts_e_175 bs_X9_spreadParts_e_175 hz (fun K hK => ?_)
        refine (show po_X9_spreadParts_e T m s T4 (some (vI 1)) from ?_)
        exact ⟨_, rfl, fr_t (fr_0 _ _) (fr_s hf_107 rfl), Or.inr ⟨rfl, r4, fun v a b => by rw [← ls4 v a b]; exact le4 v a b, fun j a b => st4 j a (by omega), fun j a b => rs4 j a (by omega), fun y hy => ro4 y (fun j a b => hy j a (by omega))⟩⟩
      · refine ix_i (by omega) ?_
        intro b22 b22b
        refine hK 122 [some (vR 109 0), some (vI s), some (vI k), some (vI (T4 590 0 k)), none] [] T4 ?_
        refine c_122 _ (T4 590 0 k) T4 (Nat.le_refl _) ?_ ?_ ?_ ?_ ?_ ?_ ?_ ?_ ?_
        · exact fr_t (fr_0 _ _) (fr_s hf_107 rfl)
        · have y := r4 k (by omega) (by omega)
          omega
        · rfl
        · exact r4
        · exact ls4
        · exact le4
        · exact st4
        · exact rs4
        · exact ro4
  have c_39 : ∀ (nn : Nat) (i : Int) (T2 : Zt), ((12 - i).toNat) ≤ nn → (fr_ [(593, []), (594, []), (592, []), (590, [])] T T2) → (0 ≤ i ∧ i ≤ m) → (∀ j, 0 ≤ j → j < T 109 0 9 → 0 ≤ T2 590 0 j ∧ T2 590 0 j ≤ 2) → (∀ v, 0 ≤ v → v < m → T2 592 0 v = sf9_ (pk7_ (hsx_ T) (asx_ T) (fun j => T2 590 0 j) v) 0 (T 109 0 9).toNat) → (∀ v, 0 ≤ v → v < i → T2 592 0 v ≤ T 591 0 v) → J_ zX9_spreadParts T (po_X9_spreadParts_e T m s) 0 0 39 [some (vR 109 0), some (vI s), some (vI i), none, none] [] T2 := by
    intro nn
    induction nn using Nat.strongRecOn with
    | _ nn ih_39 =>
      intro i T2 hm_39 hf_39 i2 r2 ls2 le2
      replace hm_39 := fun (_ : Unit) => hm_39
      have c_76 : ∀ (nn : Nat) (ov : Int) (n : Int) (T3 : Zt), ((ov - n).toNat) ≤ nn → (fr_ [(593, []), (594, []), (592, []), (590, [])] T T3) → (0 ≤ i ∧ i < m ∧ 0 ≤ n ∧ (n ≤ ov ∨ n = 0) ∧ ov ≤ 1000 ∧ (i = s → ov = 0)) → ((i = s ∧ T3 592 0 i = 0) ∨ (i ≠ s ∧ T3 592 0 i = T 591 0 i + ov - n)) → (∀ j, 0 ≤ j → j < T 109 0 9 → 0 ≤ T3 590 0 j ∧ T3 590 0 j ≤ 2) → (∀ v, 0 ≤ v → v < m → T3 592 0 v = sf9_ (pk7_ (hsx_ T) (asx_ T) (fun j => T3 590 0 j) v) 0 (T 109 0 9).toNat) → (∀ v, 0 ≤ v → v < i → T3 592 0 v ≤ T 591 0 v) → J_ zX9_spreadParts T (po_X9_spreadParts_e T m s) 0 0 76 [some (vR 109 0), some (vI s), some (vI i), some (vI ov), some (vI n)] [] T3 := by
        intro nn
        induction nn using Nat.strongRecOn with
        | _ nn ih_76 =>
          intro ov n T3 hm_76 hf_76 i3 ov3 r3 ls3 le3
          replace hm_76 := fun (_ : Unit) => hm_76
          refine j_blx (F := fX9) tb_X9 (nn_ _) bk_X9_spreadParts_e_76 bs_X9_spreadParts_e_76 hz (fun K hK => ?_)
          refine And.intro (fun c23 => ?_) (fun c23 => ?_)
          · refine hK 99 _ [] T3 ?_
            refine j_blx (F := fX9) tb_X9 (nn_ _) bk_X9_spreadParts_e_99 bs_X9_spreadParts_e_99 hz (fun K hK => ?_)
            refine rg_i (by omega) ?_
            refine hK 39 [some (vR 109 0), some (vI s), some (vI (i + 1)), some (vI ov), some (vI n)] [] T3 ?_
            refine j_drq [some (vR 109 0), some (vI s), some (vI (i + 1)), none, none] (drq_s (drq_s (drq_s (drq_n (drq_n drq_0))))) ?_
            refine ih_39 _ ?_ (i + 1) T3 (Nat.le_refl _) ?_ ?_ ?_ ?_ ?_
            · have hm_39 := hm_39 (); omega
            · exact fr_t (fr_0 _ _) (fr_s hf_76 rfl)
            · omega
            · exact r3
            · exact ls3
            · intro v a b
              by_cases z : v = i
              · rw [z]
                by_cases w9 : i = s
                · have y9 : T 591 0 i = 0 := by rw [w9]; exact hcs
                  omega
                · omega
              · exact le3 v a (by omega)
          · refine hK 85 [some (vR 109 0), some (vI s), some (vI i), some (vI ov), some (vI n)] [vI 0, vI i, vR 109 0] T3 ?_
            have fq24 : fr_ [(593, []), (594, []), (592, []), (590, [])] T T3 := fr_t (fr_0 _ _) (fr_s hf_76 rfl)
            have e25 : T3 109 0 9 = T 109 0 9 := hf_76 109 0 9 rfl
            have eh : hsx_ T3 = hsx_ T := funext (hsx_e fq24 ⟨fun _ _ => rfl, fun _ => rfl, rfl, rfl, rfl, rfl, rfl⟩)
            have ea : asx_ T3 = asx_ T := funext (asx_e fq24 ⟨fun _ _ => rfl, fun _ => rfl, rfl, rfl, rfl, rfl, rfl⟩)
            have en : T3 109 0 9 = T 109 0 9 := hf_76 109 0 9 rfl
            have ec : (fun j => T3 591 0 j) = (fun j => T 591 0 j) := funext (fun j => hf_76 591 0 j rfl)
            have rb9 : ∀ v, 0 ≤ v → v < m → -1000 ≤ T3 592 0 v ∧ T3 592 0 v ≤ 1000 := fun v a b => by
              have y1 := ls3 v a b
              have y2 := pk7_b (hs := hsx_ T) (aw := asx_ T) (hp := (fun j => T3 590 0 j)) (v := v) (T 109 0 9).toNat 0 (fun j a b => r3 j a (by omega))
              omega
            refine j_callV (y := yX9_relieve) (Yc := zX9_relieve) (rest := []) [vI i, vI 0] (ct_X9_relieve_e (T := T3) (m := m) (s := i) (f := 0) (q9_f hq9 fq24 ⟨fun _ _ => rfl, fun _ => rfl, rfl, rfl, rfl, rfl, rfl⟩) (KA__f (ws := [(593, []), (594, []), (592, []), (590, [])]) hka (fr_t (fr_0 _ _) (fr_s hf_76 rfl)) ⟨fun _ => rfl, fun _ => rfl, rfl, rfl, trivial⟩) (by omega) (by omega) hm (by rw [show T3 591 0 i = T 591 0 i from hf_76 591 0 i rfl]; omega) (by rw [eh, ea, en]; exact fun k a b => hne k (by omega) b) (by rw [en]; exact fun j a b => r3 j a b) rb9 (by rw [eh, ea, en]; exact fun k a b => hsm k (by omega) b)) cl_X9_148 (qd_c (by decide +kernel)) (nn_ _) rfl (rf_of rfl) (Nat.le_of_ble_eq_true rfl) (Nat.le_of_ble_eq_true rfl) (Nat.le_of_ble_eq_true rfl) rfl ?_
            rintro U27 _ ⟨x28, rfl, fU27, qU27⟩
            rw [eh, ea, en, ec] at qU27
            have x28b : x28 = 0 ∨ x28 = 1 := by rcases qU27 with ⟨z, -⟩ | ⟨z, -⟩ <;> omega
            show J_ zX9_spreadParts T (po_X9_spreadParts_e T m s) 0 0 88 _ [vI x28] U27
            refine j_blx (F := fX9) tb_X9 (nn_ _) bk_X9_spreadParts_e_88 bs_X9_spreadParts_e_88 hz (fun K hK => ?_)
            refine And.intro (fun c29 => ?_) (fun c29 => ?_)
            · obtain ⟨-, e9, ⟨e1, e2, e3, e4⟩, ql, qg⟩ := qU27.resolve_right (fun z => by have y := z.1; omega)
              clear qU27
              have ql : ∀ v, U27 592 0 v = T3 592 0 v + un7_ v e9 - un7_ v i := ql
              have e4 : T3 592 0 e9 < T 591 0 e9 := e4
              refine hK 93 _ [] U27 ?_
              refine j_blx (F := fX9) tb_X9 (nn_ _) bk_X9_spreadParts_e_93 bs_X9_spreadParts_e_93 hz (fun K hK => ?_)
              refine rg_i (by omega) ?_
              refine hK 76 [some (vR 109 0), some (vI s), some (vI i), some (vI ov), some (vI (n + 1))] [] U27 ?_
              refine ih_76 _ ?_ ov (n + 1) U27 (Nat.le_refl _) ?_ ?_ ?_ ?_ ?_ ?_
              · have hm_76 := hm_76 (); omega
              · exact fr_t (fr_t (fr_0 _ _) (fr_s hf_76 rfl)) (fr_s fU27 rfl)
              · omega
              · have y1 := ql i
                rw [un7_s, un7_n (show i ≠ e9 from fun q => e3 q.symm)] at y1
                omega
              · exact fun j a b => qg.2.1 j a b
              · intro v a b
                have y1 := qg.2.2 v
                have y2 : sf9_ (pk7_ (hsx_ T) (asx_ T) (fun j => U27 590 0 j) v) 0 (T 109 0 9).toNat = sf9_ (pk7_ (hsx_ T) (asx_ T) (fun j => T3 590 0 j) v) 0 (T 109 0 9).toNat + un7_ v e9 - un7_ v i := by
                  rw [show ((T 109 0 9) - 0).toNat = (T 109 0 9).toNat by omega] at y1
                  exact y1
                rw [y2, ← ls3 v a b]; exact ql v
              · intro v a b
                rw [ql v, un7_n (show v ≠ i by omega)]
                have y1 := le3 v a b
                by_cases z : v = e9
                · rw [z, un7_s]
                  omega
                · rw [un7_n z]; omega
            · refine (show po_X9_spreadParts_e T m s U27 (some (vI 0)) from ?_)
              obtain ⟨-, ql, qp, qn⟩ := qU27.resolve_left (fun z => by have y := z.1; omega)
              exact ⟨_, rfl, fr_t (fr_t (fr_0 _ _) (fr_s hf_76 rfl)) (fr_s fU27 rfl), Or.inl ⟨rfl, (fun j => T3 590 0 j), i, r3, ⟨by omega, by omega, fun z => by omega⟩, no7_c qn (fun v a b => ⟨ls3 v a b, rfl⟩), by have y := ls3 i (by omega) (by omega); omega⟩⟩
      refine j_blx (F := fX9) tb_X9 (nn_ _) bk_X9_spreadParts_e_39 bs_X9_spreadParts_e_39 hz (fun K hK => ?_)
      have e31 : T2 109 0 5 = T 109 0 5 := hf_39 109 0 5 rfl
      refine And.intro (fun c30 => ?_) (fun c30 => ?_)
      · exact absurd c30 (by omega)
      · intro b32 b32b
        have e33 : T2 100 (T 109 0 5 - 1) 5 = T 100 (T 109 0 5 - 1) 5 := hf_39 100 (T 109 0 5 - 1) 5 rfl
        have e34 : T2 100 (T2 109 0 5 - 1) 5 = T 100 (T 109 0 5 - 1) 5 := by rw [e31]; exact e33
        rw [e34] at b32 b32b ⊢
        refine And.intro (fun c35 => ?_) (fun c35 => ?_)
        · refine hK 105 _ [] T2 ?_
          refine j_blx (F := fX9) tb_X9 (nn_ _) bk_X9_spreadParts_e_105 bs_X9_spreadParts_e_105 hz (fun K hK => ?_)
          refine hK 107 [some (vR 109 0), some (vI s), some (vI 0), none, none] [] T2 ?_
          refine c_107 _ 0 T2 (Nat.le_refl _) ?_ ?_ ?_ ?_ ?_ ?_ ?_ ?_
          · exact fr_t (fr_0 _ _) (fr_s hf_39 rfl)
          · omega
          · exact r2
          · exact ls2
          · exact fun v a b => le2 v a (by omega)
          · intro j a b; omega
          · intro j a b; omega
          · exact fun y _ => hf_39 584 0 y rfl
        · refine And.intro (fun c36 => ?_) (fun c36 => ?_)
          · refine hK 59 [some (vR 109 0), some (vI s), some (vI i), none, none] [] T2 ?_
            refine j_blx (F := fX9) tb_X9 (nn_ _) bk_X9_spreadParts_e_59 bs_X9_spreadParts_e_59 hz (fun K hK => ?_)
            refine ix_i (by omega) ?_
            intro b37 b37b
            have y38 := ls2 i (by omega) (by omega)
            have y39 := pk7_b (hs := hsx_ T) (aw := asx_ T) (hp := (fun j => T2 590 0 j)) (v := i) (T 109 0 9).toNat 0 (fun j a b => r2 j a (by omega))
            have y40 := hcb i (by omega) (by omega)
            refine ix_i (by omega) ?_
            intro b41 b41b
            have e42 : T2 591 0 i = T 591 0 i := hf_39 591 0 i rfl
            rw [e42] at b41 b41b ⊢
            refine rg_i (by omega) ?_
            refine hK 76 [some (vR 109 0), some (vI s), some (vI i), some (vI ((T2 592 0 i) - (T 591 0 i))), some (vI 0)] [] T2 ?_
            refine c_76 _ ((T2 592 0 i) - (T 591 0 i)) 0 T2 (Nat.le_refl _) ?_ ?_ ?_ ?_ ?_ ?_
            · exact fr_t (fr_0 _ _) (fr_s hf_39 rfl)
            · have y1 := ls2 i (by omega) (by omega)
              have y2 := pk7_b (hs := hsx_ T) (aw := asx_ T) (hp := (fun j => T2 590 0 j)) (v := i) (T 109 0 9).toNat 0 (fun j a b => r2 j a (by omega))
              have y3 := hcb i (by omega) (by omega)
              omega
            · omega
            · exact r2
            · exact ls2
            · exact le2
          · refine hK 72 [some (vR 109 0), some (vI s), some (vI i), none, none] [vI 0] T2 ?_
            refine j_blx (F := fX9) tb_X9 (nn_ _) bk_X9_spreadParts_e_72 bs_X9_spreadParts_e_72 hz (fun K hK => ?_)
            refine hK 76 [some (vR 109 0), some (vI s), some (vI i), some (vI 0), some (vI 0)] [] T2 ?_
            refine c_76 _ 0 0 T2 (Nat.le_refl _) ?_ ?_ ?_ ?_ ?_ ?_
            · exact fr_t (fr_0 _ _) (fr_s hf_39 rfl)
            · have y1 := ls2 i (by omega) (by omega)
              have y2 := pk7_b (hs := hsx_ T) (aw := asx_ T) (hp := (fun j => T2 590 0 j)) (v := i) (T 109 0 9).toNat 0 (fun j a b => r2 j a (by omega))
              have y3 := hcb i (by omega) (by omega)
              omega
            · have y1 := ls2 i (by omega) (by omega)
              have y2 := pk7_z (hs := hsx_ T) (aw := asx_ T) (hp := (fun j => T2 590 0 j)) (v := i) (T 109 0 9).toNat 0 (fun j a b => by have y := hns j a (by omega); omega)
              omega
            · exact r2
            · exact ls2
            · exact le2
  have c_2 : ∀ (nn : Nat) (k : Int) (T1 : Zt), ((40 - k).toNat) ≤ nn → (fr_ [(593, []), (594, []), (592, []), (590, [])] T T1) → (0 ≤ k ∧ k ≤ T 109 0 9) → (∀ j, 0 ≤ j → j < k → T1 590 0 j = 2) → (∀ v, 0 ≤ v → v < m → T1 592 0 v = sf9_ (pk7_ (hsx_ T) (asx_ T) (fun _ => 2) v) 0 k.toNat) → J_ zX9_spreadParts T (po_X9_spreadParts_e T m s) 0 0 2 [some (vR 109 0), some (vI s), some (vI k), none, none] [] T1 := by
    intro nn
    induction nn using Nat.strongRecOn with
    | _ nn ih_2 =>
      intro k T1 hm_2 hf_2 i1 z1 l1
      replace hm_2 := fun (_ : Unit) => hm_2
      refine j_blx (F := fX9) tb_X9 (nn_ _) bk_X9_spreadParts_e_2 bs_X9_spreadParts_e_2 hz (fun K hK => ?_)
      intro b43 b43b
      have e44 : T1 109 0 9 = T 109 0 9 := hf_2 109 0 9 rfl
      rw [e44] at b43 b43b ⊢
      refine And.intro (fun c45 => ?_) (fun c45 => ?_)
      · refine hK 37 _ [] T1 ?_
        refine j_blx (F := fX9) tb_X9 (nn_ _) bk_X9_spreadParts_e_37 bs_X9_spreadParts_e_37 hz (fun K hK => ?_)
        refine hK 39 [some (vR 109 0), some (vI s), some (vI 0), none, none] [] T1 ?_
        refine c_39 _ 0 T1 (Nat.le_refl _) ?_ ?_ ?_ ?_ ?_
        · exact fr_t (fr_0 _ _) (fr_s hf_2 rfl)
        · omega
        · exact fun j a b => by rw [z1 j a (by omega)]; decide
        · intro v a b
          rw [l1 v a b, show k.toNat = (T 109 0 9).toNat by omega]
          exact (pk7_1 _ 0 (fun j p q => z1 j p (by omega))).symm
        · intro v a b; omega
      · refine iy_i (by omega) (by omega) ?_
        refine x_nm (fun U46 hU46 => ?_)
        have e47 := up_f hU46
        refine hK 23 [some (vR 109 0), some (vI s), some (vI k), none, none] [vI k, vR 109 0, vR 592 0] U46 ?_
        have fq48 : fr_ [(590, []), (593, []), (594, []), (592, [])] T U46 := fr_u (fr_t (fr_0 _ _) (fr_s hf_2 rfl)) hU46 rfl
        have e49 : U46 109 0 9 = T 109 0 9 := (up_k hU46 (by exact Nat.ne_of_beq_eq_false rfl) 0 9).trans (hf_2 109 0 9 rfl)
        refine j_callV (y := yX9_homeSeatOf) (Yc := zX9_homeSeatOf) (rest := [vR 592 0]) [vI k] (ct_X9_homeSeatOf (T := U46) (q9_f hq9 fq48 ⟨fun _ _ => rfl, fun _ => rfl, rfl, rfl, rfl, rfl, rfl⟩) (KA__f (ws := [(590, []), (593, []), (594, []), (592, [])]) hka (fr_u (fr_t (fr_0 _ _) (fr_s hf_2 rfl)) hU46 rfl) ⟨fun _ => rfl, fun _ => rfl, rfl, rfl, trivial⟩) (by omega)) cl_X9_145 (qd_c (by decide +kernel)) (nn_ _) rfl (rf_of rfl) (Nat.le_of_ble_eq_true rfl) (Nat.le_of_ble_eq_true rfl) (Nat.le_of_ble_eq_true rfl) rfl ?_
        rintro _ _ ⟨rfl, x50, rfl, hx50⟩
        have e51 : hsx_ U46 k = hsx_ T k := hsx_e fq48 ⟨fun _ _ => rfl, fun _ => rfl, rfl, rfl, rfl, rfl, rfl⟩ _
        show J_ zX9_spreadParts T (po_X9_spreadParts_e T m s) 0 0 26 _ [vI x50, vR 592 0] U46
        refine j_blx (F := fX9) tb_X9 (nn_ _) bk_X9_spreadParts_e_26 bs_X9_spreadParts_e_26 hz (fun K hK => ?_)
        refine ix_i (by omega) ?_
        intro b52 b52b
        have e53 : U46 592 0 x50 = T1 592 0 x50 := up_k hU46 (by exact Nat.ne_of_beq_eq_false rfl) 0 x50
        rw [e53] at b52 b52b ⊢
        have y54 := hsm k (by omega) (by omega)
        have y55 := l1 x50 (by omega) (by omega)
        have y56 := pk7_b (hs := hsx_ T) (aw := asx_ T) (hp := fun _ => 2) (v := x50) k.toNat 0 (fun j a b => by decide)
        refine rg_i (by omega) ?_
        refine iy_i (by omega) (by omega) ?_
        refine x_nm (fun U57 hU57 => ?_)
        have e58 := up_f hU57
        refine rg_i (by omega) ?_
        refine hK 2 [some (vR 109 0), some (vI s), some (vI (k + 1)), none, none] [] U57 ?_
        refine ih_2 _ ?_ (k + 1) U57 (Nat.le_refl _) ?_ ?_ ?_ ?_
        · have hm_2 := hm_2 (); omega
        · exact fr_u (fr_u (fr_t (fr_0 _ _) (fr_s hf_2 rfl)) hU46 rfl) hU57 rfl
        · omega
        · intro j a b
          rw [show U57 590 0 j = U46 590 0 j from up_k hU57 (by exact Nat.ne_of_beq_eq_false rfl) 0 j]
          by_cases z : j = k
          · rw [z]; exact up_f hU46
          · rw [up_g hU46 (fun q => z q.2.2)]; exact z1 j a (by omega)
        · intro v a b
          rw [pk7_2 (by omega), ← l1 v a b]
          by_cases z : v = x50
          · rw [z, up_f hU57, if_pos (by omega)]
            all_goals (have y9 : U46 592 0 x50 = T1 592 0 x50 := up_k hU46 (by exact Nat.ne_of_beq_eq_false rfl) 0 x50; omega)
          · rw [up_g hU57 (fun q => z q.2.2), if_neg (by omega), Int.add_zero]
            exact up_k hU46 (by exact Nat.ne_of_beq_eq_false rfl) 0 v
  refine j_blx (F := fX9) tb_X9 (nn_ _) bk_X9_spreadParts_e_0 bs_X9_spreadParts_e_0 hz (fun K hK => ?_)
  refine hK 2 [some (vR 109 0), some (vI s), some (vI 0), none, none] [] T ?_
  refine c_2 _ 0 T (Nat.le_refl _) ?_ ?_ ?_ ?_
  · exact fr_0 _ _
  · omega
  · intro j a b; omega
  · exact fun v a b => (hz0 v a b).trans rfl
-- who can be first: the parts that were spread are the first ways
/-- the ways of parts -/
def hw7_ (hp : Int → Int) : Nat → Int → List Int
  | 0, _ => []
  | i + 1, j => (2 - hp j) :: hw7_ hp i (j + 1)
/-- clubs and seats: o are the others, as bits; each has a seat of its own -/
def SQ7_ (o : Nat) (sq a b hs aw : Int → Int) (n m s : Int) : Prop :=
  (∀ k, 0 ≤ k → k < n → ((0 ≤ a k ∧ a k < 12) ∧ (0 ≤ b k ∧ b k < 12)) ∧ (o.testBit (a k).toNat = true ∧ o.testBit (b k).toNat = true) ∧ hs k = sq (a k) ∧ aw k = sq (b k)) ∧
  (∀ v, v < 12 → o.testBit v = true → (0 ≤ sq (v : Int) ∧ sq (v : Int) < m) ∧ sq (v : Int) ≠ s) ∧
  ∀ u v, u < 12 → v < 12 → o.testBit u = true → o.testBit v = true → sq (u : Int) = sq (v : Int) → u = v
theorem sq7_p {o : Nat} {sq a b hs aw : Int → Int} {n m s : Int} (Q : SQ7_ o sq a b hs aw n m s) {h : Int → Int} {v : Nat} (hv : v < 12) (ho : o.testBit v = true) {k : Int} (k0 : 0 ≤ k) (k1 : k < n) : pn7_ a b h v k = pk7_ hs aw h (sq (v : Int)) k := by
  obtain ⟨q1, q2, q3⟩ := Q
  have y := q1 k k0 k1
  have ea : (v = (a k).toNat) ↔ hs k = sq (v : Int) := by
    rw [y.2.2.1]
    refine ⟨fun z => by rw [show a k = (v : Int) by omega], fun z => (q3 _ _ (by omega) hv y.2.1.1 ho (by rw [show (((a k).toNat : Nat) : Int) = a k by omega]; exact z)).symm⟩
  have eb : (v = (b k).toNat) ↔ aw k = sq (v : Int) := by
    rw [y.2.2.2]
    refine ⟨fun z => by rw [show b k = (v : Int) by omega], fun z => (q3 _ _ (by omega) hv y.2.1.2 ho (by rw [show (((b k).toNat : Nat) : Int) = b k by omega]; exact z)).symm⟩
  unfold pn7_ pk7_
  by_cases x : v = (a k).toNat
  · rw [if_pos x, if_pos (ea.mp x)]
    by_cases z : v = (b k).toNat
    · rw [if_pos z, if_pos (eb.mp z)]
    · rw [if_neg z, if_neg (fun w => z (eb.mpr w))]
  · rw [if_neg x, if_neg (fun w => x (ea.mpr w))]
    by_cases z : v = (b k).toNat
    · rw [if_pos z, if_pos (eb.mp z)]
    · rw [if_neg z, if_neg (fun w => z (eb.mpr w))]
theorem sq7_s {o : Nat} {sq a b hs aw : Int → Int} {n m s : Int} (Q : SQ7_ o sq a b hs aw n m s) {h : Int → Int} {v : Nat} (hv : v < 12) (ho : o.testBit v = true) {j : Int} {i : Nat} (j0 : 0 ≤ j) (j1 : j + (i : Int) ≤ n) : sf9_ (pn7_ a b h v) j i = sf9_ (pk7_ hs aw h (sq (v : Int))) j i :=
  sf_e i (fun k x y => sq7_p Q hv ho (by omega) (by omega))
/-- caps less all parts -/
theorem fc7_t {o : Nat} {sq a b hs aw c : Int → Int} {n m s : Int} (Q : SQ7_ o sq a b hs aw n m s) {h : Int → Int} {f0 : Nat → Int} (hf : ∀ v, v < 12 → o.testBit v = true → f0 v = c (sq (v : Int))) {v : Nat} (hv : v < 12) (ho : o.testBit v = true) (hn : 0 ≤ n) : fc7_ a b h n.toNat 0 f0 v = c (sq (v : Int)) - sf9_ (pk7_ hs aw h (sq (v : Int))) 0 n.toNat := by
  rw [fc7_v, sq7_s Q hv ho (by decide) (by omega), hf v hv ho]
/-- the set of clubs whose seats are found -/
def RC7_ (o : Nat) (sq : Int → Int) (R : Int → Prop) : Nat → Prop := fun v => (v < 12 ∧ o.testBit v = true) ∧ R (sq (v : Int))
theorem rc7_c {o : Nat} {sq a b hs aw : Int → Int} {n m s : Int} (Q : SQ7_ o sq a b hs aw n m s) {hq : Int → Int} {R : Int → Prop} {f : Int} (rg : ∀ j, 0 ≤ j → j < n → 0 ≤ hq j ∧ hq j ≤ 2) (f0 : 0 ≤ f) (cl : ∀ k, f ≤ k → k < n → (R (hs k) → 0 < hq k → R (aw k)) ∧ (R (aw k) → hq k < 2 → R (hs k))) : ∀ k, f ≤ k → k < n → (RC7_ o sq R (a k).toNat → ¬ RC7_ o sq R (b k).toNat → hq k = 0) ∧ (RC7_ o sq R (b k).toNat → ¬ RC7_ o sq R (a k).toNat → hq k = 2) := fun k k0 k1 => by
  have y := Q.1 k (by omega) k1
  have r := rg k (by omega) k1
  have ca : (((a k).toNat : Nat) : Int) = a k := by omega
  have cb : (((b k).toNat : Nat) : Int) = b k := by omega
  have g := cl k k0 k1
  have ia : RC7_ o sq R (a k).toNat ↔ R (hs k) := by
    unfold RC7_
    rw [ca, y.2.2.1]
    exact ⟨fun z => z.2, fun z => ⟨⟨by omega, y.2.1.1⟩, z⟩⟩
  have ib : RC7_ o sq R (b k).toNat ↔ R (aw k) := by
    unfold RC7_
    rw [cb, y.2.2.2]
    exact ⟨fun z => z.2, fun z => ⟨⟨by omega, y.2.1.2⟩, z⟩⟩
  rw [ia, ib]
  refine ⟨fun z w => ?_, fun z w => ?_⟩
  · apply Classical.byContradiction
    intro u
    exact w (g.1 z (by omega))
  · apply Classical.byContradiction
    intro u
    exact w (g.2 z (by omega))
/-- no parts at all: nothing can be chosen -/
theorem nf7_0 {o : Nat} {sq a b hs aw c : Int → Int} {n m s : Int} (Q : SQ7_ o sq a b hs aw n m s) (hn : 0 ≤ n) {f0 : Nat → Int} (hf : ∀ v, v < 12 → o.testBit v = true → f0 v = c (sq (v : Int))) {hq : Int → Int} {v0 : Nat} (hv : v0 < 12) (ho : o.testBit v0 = true) (rg : ∀ j, 0 ≤ j → j < n → 0 ≤ hq j ∧ hq j ≤ 2) (hN : NO7_ hs aw hq c (fun v => sf9_ (pk7_ hs aw hq v) 0 n.toNat) (sq (v0 : Int)) 0 n m) (hs0 : c (sq (v0 : Int)) < sf9_ (pk7_ hs aw hq (sq (v0 : Int))) 0 n.toNat) : ¬ fe7_ o (lh7_ a b n.toNat 0) f0 := by
  obtain ⟨R, r1, r2, r3⟩ := hN
  have hb : ∀ k, 0 ≤ k → k < 0 + ((n.toNat : Nat) : Int) → (0 ≤ a k ∧ a k < 12) ∧ (0 ≤ b k ∧ b k < 12) := fun k x y => (Q.1 k x (by omega)).1
  have cl := rc7_c Q rg (Int.le_refl 0) r3
  refine nf7_s (R := RC7_ o sq R) (f := f0) (fun k _ z => z.1.2) (lh7_b n.toNat 0 hb) ?_ (Int.le_refl _)
  refine sh7_i (h := hq) (v := v0) hb (fun k x y => cl k x (by omega)) (fun k x z => ?_) ⟨⟨hv, ho⟩, r1⟩ hv ?_
  · rw [fc7_t Q hf x z.1.2 hn]
    have w := (r2 _ z.2).2
    have w' : c (sq (k : Int)) ≤ sf9_ (pk7_ hs aw hq (sq (k : Int))) 0 n.toNat := w
    omega
  · rw [fc7_t Q hf hv ho hn]
    omega
/-- the parts that were spread are the first ways -/
theorem lx7_h {o : Nat} {sq a b hs aw c hp : Int → Int} {n m s : Int} (Q : SQ7_ o sq a b hs aw n m s) {f0 : Nat → Int} (hf : ∀ v, v < 12 → o.testBit v = true → f0 v = c (sq (v : Int))) (rg : ∀ j, 0 ≤ j → j < n → 0 ≤ hp j ∧ hp j ≤ 2) (le : ∀ v, 0 ≤ v → v < m → sf9_ (pk7_ hs aw hp v) 0 n.toNat ≤ c v) (st : ∀ k, 0 ≤ k → k < n → ST7_ hs aw hp c n m k) (hne : ∀ k, 0 ≤ k → k < n → hs k ≠ aw k) : ∀ (i : Nat) (j : Int), 0 ≤ j → j + (i : Int) = n → LX7_ o (lh7_ a b i j) (fc7_ a b hp j.toNat 0 f0) (hw7_ hp i j)
  | 0, _, _, _ => rfl
  | i + 1, j, j0, jn => by
    have r := rg j j0 (by omega)
    have hb : ∀ k, j + 1 ≤ k → k < j + 1 + (i : Int) → (0 ≤ a k ∧ a k < 12) ∧ (0 ≤ b k ∧ b k < 12) := fun k x y => (Q.1 k (by omega) (by omega)).1
    have nx : fw2_ (fc7_ a b hp j.toNat 0 f0) (a j).toNat (b j).toNat (2 - hp j) = fc7_ a b hp (j + 1).toNat 0 f0 := by
      rw [show (j + 1).toNat = j.toNat + 1 by omega, fc7_a, show (0 : Int) + ((j.toNat : Nat) : Int) = j by omega]
    -- all caps less all parts, cut at j
    have al : ∀ (h : Int → Int) (v : Nat), fc7_ a b h i (j + 1) (fc7_ a b h (j + 1).toNat 0 f0) v = fc7_ a b h n.toNat 0 f0 v := fun h v => by
      rw [fc7_v, fc7_v, fc7_v]
      have y := sf7_2 (g := pn7_ a b h v) (f := 0) (j + 1).toNat i
      rw [show (j + 1).toNat + i = n.toNat by omega, show (0 : Int) + (((j + 1).toNat : Nat) : Int) = j + 1 by omega] at y
      omega
    refine ⟨2 - hp j, hw7_ hp i (j + 1), rfl, by omega, ?_, fun u u0 u1 => ?_, ?_⟩
    · rw [nx]
      refine fe7_i (h := hp) i (j + 1) _ (fun k x y => rg k (by omega) (by omega)) (fun k x y => ?_)
      rw [al, fc7_t Q hf x y (by omega)]
      have z := Q.2.1 k x y
      have w := le (sq (k : Int)) z.1.1 z.1.2
      omega
    · rcases st j j0 (by omega) with z | ⟨hq, q1, q2, ⟨R, r1, r2, r3⟩, q4⟩
      · omega
      · have y := Q.1 j j0 (by omega)
        have ca : (((a j).toNat : Nat) : Int) = a j := by omega
        have cb : (((b j).toNat : Nat) : Int) = b j := by omega
        have cl := rc7_c Q q2 (show 0 ≤ j + 1 by omega) r3
        have ra : RC7_ o sq R (a j).toNat := ⟨⟨by omega, y.2.1.1⟩, by rw [ca, ← y.2.2.1]; exact r1⟩
        have e0 : fc7_ a b hp j.toNat 0 f0 = fc7_ a b hq j.toNat 0 f0 := fc7_e j.toNat 0 f0 (fun k x w => (q1 k (by omega)).symm)
        -- with one part more at home than was had
        have key : sr7_ (RC7_ o sq R) (fw2_ (fc7_ a b hp j.toNat 0 f0) (a j).toNat (b j).toNat (2 - hp j - 1)) 12 < 2 * er7_ (RC7_ o sq R) (lh7_ a b i (j + 1)) := by
          have vl : ∀ v, v < 12 → o.testBit v = true → fc7_ a b hq i (j + 1) (fw2_ (fc7_ a b hp j.toNat 0 f0) (a j).toNat (b j).toNat (2 - hp j - 1)) v = c (sq (v : Int)) - lv7_ (fun v => sf9_ (pk7_ hs aw hq v) 0 n.toNat) (hs j) (aw j) (sq (v : Int)) := fun v hv ho => by
            have e1 := al hq v
            rw [fc7_t Q hf hv ho (by omega)] at e1
            rw [fc7_v] at e1 ⊢
            rw [show (j + 1).toNat = j.toNat + 1 by omega, fc7_a, show (0 : Int) + ((j.toNat : Nat) : Int) = j by omega, ← e0, q1 j (by omega)] at e1
            have p := sq7_p Q (h := hq) hv ho j0 (by omega)
            unfold lv7_ un7_
            dsimp only
            unfold pn7_ pk7_ at p
            rw [q1 j (by omega)] at p
            unfold fw2_ at e1 ⊢
            by_cases x : v = (a j).toNat
            · have hx : hs j = sq (v : Int) := by rw [y.2.2.1, x, ca]
              have hy : ¬ aw j = sq (v : Int) := fun w => hne j j0 (by omega) (hx.trans w.symm)
              have hz : ¬ v = (b j).toNat := fun w => hy (by rw [y.2.2.2, w, cb])
              rw [if_pos x, if_neg hz] at e1 ⊢
              rw [if_pos (c := sq (v : Int) = hs j) hx.symm, if_neg (c := sq (v : Int) = aw j) (fun w => hy w.symm)]
              omega
            · rw [if_neg x] at e1 ⊢
              have hx : ¬ hs j = sq (v : Int) := fun w => x ((Q.2.2 _ _ (by omega) hv y.2.1.1 ho (by rw [ca, ← y.2.2.1]; exact w)).symm)
              rw [if_neg (c := sq (v : Int) = hs j) (fun w => hx w.symm)]
              by_cases z : v = (b j).toNat
              · have hy : aw j = sq (v : Int) := by rw [y.2.2.2, z, cb]
                rw [if_pos z] at e1 ⊢
                rw [if_pos (c := sq (v : Int) = aw j) hy.symm]
                omega
              · have hy : ¬ aw j = sq (v : Int) := fun w => z ((Q.2.2 _ _ (by omega) hv y.2.1.2 ho (by rw [cb, ← y.2.2.2]; exact w)).symm)
                rw [if_neg z] at e1 ⊢
                rw [if_neg (c := sq (v : Int) = aw j) (fun w => hy w.symm)]
                omega
          refine sh7_i (h := hq) (v := (a j).toNat) hb (fun k x w => cl k x (by omega)) (fun k x z => ?_) ra (by omega) ?_
          · rw [vl k x z.1.2]
            have w := (r2 _ z.2).2
            omega
          · rw [vl _ (by omega) y.2.1.1, ca, ← y.2.2.1]
            omega
        refine nf7_s (R := RC7_ o sq R) (fun k _ z => z.1.2) (lh7_b i (j + 1) hb) key ?_
        rw [sr7_w, sr7_w, if_pos (by omega), if_pos (by omega), cz_t ra, cz_t ra]
        by_cases z : RC7_ o sq R (b j).toNat
        · rw [cz_t z, cz_t z]
          omega
        · rw [cz_f z, cz_f z]
          omega
    · rw [nx]
      exact lx7_h Q hf rg le st hne i (j + 1) (by omega) (by omega)
