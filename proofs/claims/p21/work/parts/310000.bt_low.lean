theorem i3_n {x : Int} (h : 0 ≤ x ∧ x ≤ 2147483647) : (Int32.ofInt x).toBitVec.toNat = x.toNat := by
  show (BitVec.ofInt 32 x).toNat = x.toNat
  rw [BitVec.toNat_ofInt]; omega
theorem bv_i {b : BitVec 32} (h : b.toNat < 2147483648) : b.toInt = (b.toNat : Int) := by
  rw [BitVec.toInt_eq_toNat_cond]; split <;> omega
theorem an_n {x y : Int} (hx : 0 ≤ x ∧ x ≤ 2147483647) (hy : 0 ≤ y ∧ y ≤ 2147483647) : an_ x y = ((x.toNat &&& y.toNat : Nat) : Int) := by
  have e : ((Int32.ofInt x).toBitVec &&& (Int32.ofInt y).toBitVec).toNat = x.toNat &&& y.toNat := by
    rw [BitVec.toNat_and, i3_n hx, i3_n hy]
  have l : x.toNat &&& y.toNat ≤ x.toNat := Nat.and_le_left
  show ((Int32.ofInt x).toBitVec &&& (Int32.ofInt y).toBitVec).toInt = _
  rw [bv_i (by rw [e]; omega), e]
theorem or_n {x y : Int} (hx : 0 ≤ x ∧ x ≤ 2147483647) (hy : 0 ≤ y ∧ y ≤ 2147483647) : or_ x y = ((x.toNat ||| y.toNat : Nat) : Int) := by
  have e : ((Int32.ofInt x).toBitVec ||| (Int32.ofInt y).toBitVec).toNat = x.toNat ||| y.toNat := by
    rw [BitVec.toNat_or, i3_n hx, i3_n hy]
  have l : x.toNat ||| y.toNat < 2 ^ 31 := Nat.or_lt_two_pow (by omega) (by omega)
  show ((Int32.ofInt x).toBitVec ||| (Int32.ofInt y).toBitVec).toInt = _
  rw [bv_i (by rw [e]; omega), e]
theorem sh_31 {k : Int} (h : 0 ≤ k ∧ k < 32) : (Int32.ofInt k &&& 31) = Int32.ofInt k := by
  have : ∀ n : Nat, n < 32 → (Int32.ofInt (n : Int) &&& 31) = Int32.ofInt (n : Int) := by decide +kernel
  have := this k.toNat (by omega)
  rwa [show ((k.toNat : Nat) : Int) = k by omega] at this
theorem sr_n {x k : Int} (hx : 0 ≤ x ∧ x ≤ 2147483647) (hk : 0 ≤ k ∧ k < 32) : sr_ x k = ((x.toNat >>> k.toNat : Nat) : Int) := by
  unfold sr_
  rw [sh_31 hk]
  have hs : ((Int32.ofInt k).toBitVec.smod 32).toNat = k.toNat := by
    have : ∀ n : Nat, n < 32 → ((Int32.ofInt (n : Int)).toBitVec.smod 32).toNat = n := by decide +kernel
    have := this k.toNat (by omega)
    rwa [show ((k.toNat : Nat) : Int) = k by omega] at this
  have m : (Int32.ofInt x).toBitVec.msb = false := by
    rw [BitVec.msb_eq_false_iff_two_mul_lt, i3_n hx]; omega
  have e : ((Int32.ofInt x).toBitVec.sshiftRight ((Int32.ofInt k).toBitVec.smod 32).toNat).toNat = x.toNat >>> k.toNat := by
    rw [hs, BitVec.sshiftRight_eq_of_msb_false m, BitVec.toNat_ushiftRight, i3_n hx]
  have l : x.toNat >>> k.toNat ≤ x.toNat := by rw [Nat.shiftRight_eq_div_pow]; exact Nat.div_le_self _ _
  show ((Int32.ofInt x).toBitVec.sshiftRight ((Int32.ofInt k).toBitVec.smod 32).toNat).toInt = _
  rw [bv_i (by rw [e]; omega), e]
/-- a bit of a number -/
def bt_ (s k : Nat) : Int := if s.testBit k then 1 else 0
theorem bt_01 (s k : Nat) : bt_ s k = 0 ∨ bt_ s k = 1 := by unfold bt_; split <;> simp
theorem bt_n {x k : Int} (hx : 0 ≤ x ∧ x ≤ 2147483647) (hk : 0 ≤ k ∧ k < 32) : an_ (sr_ x k) 1 = bt_ x.toNat k.toNat := by
  have l : x.toNat >>> k.toNat ≤ x.toNat := by rw [Nat.shiftRight_eq_div_pow]; exact Nat.div_le_self _ _
  rw [sr_n hx hk]
  unfold bt_ Nat.testBit
  generalize x.toNat >>> k.toNat = y at l ⊢
  rw [an_n (by omega) (by decide), show ((y : Int)).toNat = y by omega, show Int.toNat 1 = 1 by rfl, Nat.and_comm]
  have : 1 &&& y ≤ 1 := Nat.and_le_left
  rcases (by omega : 1 &&& y = 0 ∨ 1 &&& y = 1) with z | z <;> rw [z] <;> rfl
theorem bt_or (s t k : Nat) : bt_ (s ||| t) k = bt_ s k + bt_ t k - bt_ s k * bt_ t k := by
  unfold bt_; rw [Nat.testBit_or]; cases s.testBit k <;> cases t.testBit k <;> rfl
theorem bt_and (s t k : Nat) : bt_ (s &&& t) k = bt_ s k * bt_ t k := by
  unfold bt_; rw [Nat.testBit_and]; cases s.testBit k <;> cases t.testBit k <;> rfl
/-- a sum over the members below n -/
def sp_ (f : Nat → Int) (s : Nat) : Nat → Int
  | 0 => 0
  | n + 1 => sp_ f s n + bt_ s n * f n
/-- how many of the pairs lie within a set -/
def ed_ (s : Nat) : List (Nat × Nat) → Int
  | [] => 0
  | p :: l => bt_ s p.1 * bt_ s p.2 + ed_ s l
def vs_ (f : Nat → Int) (l : List (Nat × Nat)) (s : Nat) : Int := sp_ f s 12 - 2 * ed_ s l
/-- what a pair's way changes -/
def ch_ (s a b : Nat) (w : Int) : Int := 2 * bt_ s a * bt_ s b - (2 - w) * bt_ s a - w * bt_ s b
theorem ch_c (s a b : Nat) (w : Int) : (bt_ s a = bt_ s b ∧ ch_ s a b w = 0) ∨ (bt_ s a = 1 ∧ bt_ s b = 0 ∧ ch_ s a b w = w - 2) ∨ (bt_ s a = 0 ∧ bt_ s b = 1 ∧ ch_ s a b w = -w) := by
  unfold ch_
  rcases bt_01 s a with x | x <;> rcases bt_01 s b with y | y <;> rw [x, y] <;> omega
theorem sp_m (f : Nat → Int) (s t : Nat) : ∀ n, sp_ f (s ||| t) n + sp_ f (s &&& t) n = sp_ f s n + sp_ f t n
  | 0 => rfl
  | n + 1 => by
      have i := sp_m f s t n
      unfold sp_
      rw [bt_or, bt_and]
      rcases bt_01 s n with x | x <;> rcases bt_01 t n with y | y <;> rw [x, y] <;> simp <;> omega
theorem ed_m (s t : Nat) : ∀ l, ed_ s l + ed_ t l ≤ ed_ (s ||| t) l + ed_ (s &&& t) l
  | [] => Int.le_refl _
  | p :: l => by
      have i := ed_m s t l
      unfold ed_
      rw [bt_or, bt_or, bt_and, bt_and]
      rcases bt_01 s p.1 with x | x <;> rcases bt_01 t p.1 with y | y <;> rcases bt_01 s p.2 with z | z <;> rcases bt_01 t p.2 with w | w <;> rw [x, y, z, w] <;> simp <;> omega
theorem vs_2 {f : Nat → Int} {l : List (Nat × Nat)} {a b s t : Nat} (h : ∀ u, u = s ||| t ∨ u = s &&& t → 0 ≤ vs_ f ((a, b) :: l) u) (s1 : bt_ s a = 1) (s2 : bt_ s b = 0) (t1 : bt_ t a = 0) (t2 : bt_ t b = 1) : 2 ≤ vs_ f ((a, b) :: l) s + vs_ f ((a, b) :: l) t := by
  have p := h _ (Or.inl rfl)
  have q := h _ (Or.inr rfl)
  have i := ed_m s t l
  have j := sp_m f s t 12
  unfold vs_ ed_ at p q ⊢
  simp only [bt_or, bt_and, s1, s2, t1, t2] at p q ⊢
  simp at p q ⊢
  omega
/-- for any pair some way goes -/
theorem vs_w {f : Nat → Int} {l : List (Nat × Nat)} {a b : Nat} {P : Nat → Prop} (hu : ∀ s t, P s → P t → P (s ||| t) ∧ P (s &&& t)) (h : ∀ s, P s → 0 ≤ vs_ f ((a, b) :: l) s)
    {s0 s1 s2 : Nat} (p0 : P s0) (p1 : P s1) (p2 : P s2) (h0 : vs_ f ((a, b) :: l) s0 + ch_ s0 a b 0 < 0) (h1 : vs_ f ((a, b) :: l) s1 + ch_ s1 a b 1 < 0) (h2 : vs_ f ((a, b) :: l) s2 + ch_ s2 a b 2 < 0) : False := by
  have k0 := h s0 p0
  have k1 := h s1 p1
  have k2 := h s2 p2
  have c0 := ch_c s0 a b 0
  have c1 := ch_c s1 a b 1
  have c2 := ch_c s2 a b 2
  have v {s t : Nat} (ps : P s) (pt : P t) (e1 : bt_ s a = 1) (e2 : bt_ s b = 0) (e3 : bt_ t a = 0) (e4 : bt_ t b = 1) := vs_2 (f := f) (l := l) (fun u hu' => by rcases hu' with rfl | rfl; exact h _ (hu s t ps pt).1; exact h _ (hu s t ps pt).2) e1 e2 e3 e4
  rcases c1 with c1 | c1 | c1
  · omega
  · have := v p1 p2 c1.1 c1.2.1 (by omega) (by omega)
    omega
  · have := v p0 p1 (by omega) (by omega) c1.1 c1.2.1
    omega
/-- the spare after a way is taken -/
def fw2_ (f : Nat → Int) (a b : Nat) (w : Int) : Nat → Int := fun k => f k - (if k = a then 2 - w else 0) - (if k = b then w else 0)
theorem sp_w (f : Nat → Int) (s a b : Nat) (w : Int) : ∀ n, sp_ (fw2_ f a b w) s n = sp_ f s n - (if a < n then bt_ s a * (2 - w) else 0) - (if b < n then bt_ s b * w else 0)
  | 0 => rfl
  | n + 1 => by
      unfold sp_
      rw [sp_w f s a b w n]
      unfold fw2_
      by_cases x : n = a
      · subst x
        by_cases y : n = b
        · subst y
          simp only [Nat.lt_irrefl, Nat.lt_succ_self, if_true, if_false, Int.mul_sub]; omega
        · by_cases z : b < n
          · simp only [Nat.lt_irrefl, Nat.lt_succ_self, if_true, if_false, z, Nat.lt_succ_of_lt z, y, Int.mul_sub]; omega
          · have z' : ¬ b < n + 1 := by omega
            simp only [Nat.lt_irrefl, Nat.lt_succ_self, if_true, if_false, z, z', y, Int.mul_sub]; omega
      · by_cases y : n = b
        · subst y
          by_cases z : a < n
          · simp only [Nat.lt_irrefl, Nat.lt_succ_self, if_true, if_false, z, Nat.lt_succ_of_lt z, x, Int.mul_sub]; omega
          · have z' : ¬ a < n + 1 := by omega
            simp only [Nat.lt_irrefl, Nat.lt_succ_self, if_true, if_false, z, z', x, Int.mul_sub]; omega
        · have e1 : (a < n + 1) = (a < n) := by apply propext; omega
          have e2 : (b < n + 1) = (b < n) := by apply propext; omega
          simp only [e1, e2, x, y, if_false, Int.sub_zero]; omega
theorem vs_s {f : Nat → Int} {l : List (Nat × Nat)} {a b s : Nat} {w : Int} (ha : a < 12) (hb : b < 12) : vs_ (fw2_ f a b w) l s = vs_ f ((a, b) :: l) s + ch_ s a b w := by
  unfold vs_ ch_
  rw [sp_w, if_pos ha, if_pos hb]
  show _ = sp_ f s 12 - 2 * (bt_ s a * bt_ s b + ed_ s l) + _
  rcases bt_01 s a with x | x <;> rcases bt_01 s b with y | y <;> rw [x, y] <;> omega
theorem bt_low {s lo : Nat} (h1 : bt_ s lo = 1) (h0 : ∀ j, j < lo → bt_ s j = 0) (k : Nat) : bt_ (s &&& (s - 1)) k = if k = lo then 0 else bt_ s k := by
  have t1 : s.testBit lo = true := by unfold bt_ at h1; split at h1 <;> simp_all
  have t0 : ∀ j, j < lo → s.testBit j = false := fun j hj => by
    have := h0 j hj
    unfold bt_ at this
    split at this <;> simp_all
  have hm : s % 2 ^ lo = 0 := by
    apply Nat.eq_of_testBit_eq
    intro j
    rw [Nat.testBit_mod_two_pow, Nat.zero_testBit]
    by_cases z : j < lo
    · rw [t0 j z]; simp
    · simp [z]
  obtain ⟨m, rfl⟩ : ∃ m, s = 2 ^ lo * m := ⟨s / 2 ^ lo, (Nat.mul_div_cancel' (Nat.dvd_of_mod_eq_zero hm)).symm⟩
  have hp : 0 < 2 ^ lo := Nat.two_pow_pos lo
  have o : m % 2 = 1 := by
    rw [Nat.testBit_two_pow_mul] at t1
    simp only [ge_iff_le, Nat.le_refl, decide_true, Bool.true_and, Nat.sub_self, Nat.testBit_zero, decide_eq_true_eq] at t1
    exact t1
  have e : 2 ^ lo * m - 1 = 2 ^ lo * (m - 1) + (2 ^ lo - 1) := by
    obtain ⟨q, rfl⟩ : ∃ q, m = q + 1 := ⟨m - 1, by omega⟩
    rw [Nat.add_sub_cancel, Nat.mul_succ]; omega
  have b : ∀ j, (2 ^ lo * m &&& (2 ^ lo * m - 1)).testBit j = if j = lo then false else (2 ^ lo * m).testBit j := by
    intro j
    rw [Nat.testBit_and, e, Nat.testBit_two_pow_mul_add _ (by omega), Nat.testBit_two_pow_mul]
    by_cases z : j = lo
    · subst z
      obtain ⟨q, rfl⟩ : ∃ q, m = 2 * q + 1 := ⟨m / 2, by omega⟩
      simp [Nat.testBit_zero]
    · by_cases y : j < lo
      · have : ¬ lo ≤ j := by omega
        simp [z, y, this]
      · obtain ⟨i, rfl⟩ : ∃ i, j = lo + (i + 1) := ⟨j - lo - 1, by omega⟩
        obtain ⟨q, rfl⟩ : ∃ q, m = 2 * q + 1 := ⟨m / 2, by omega⟩
        have e1 : lo + (i + 1) - lo = i + 1 := by omega
        have e2 : 2 * q + 1 - 1 = 2 * q := by omega
        rw [e1, e2, Nat.testBit_add_one, Nat.testBit_add_one, show (2 * q + 1) / 2 = q by omega, show 2 * q / 2 = q by omega]
        simp
        exact fun h => Or.inr h
  unfold bt_
  rw [b k]
  by_cases z : k = lo
  · simp [z]
  · simp [z]
